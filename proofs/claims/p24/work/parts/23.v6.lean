set_option maxHeartbeats 8000000 in
set_option maxRecDepth 100000 in
theorem v_X7_add_68 (l : Launch) (D : va_G) (cI cZ cJ : ClassId) (o : Nat) (u : Nat → Nat) (T : Nat) (ra : Nat → Nat) (ga : SG) (σ : FS) (Φ : Int32 → FS → Prop) (sz : Nat) (hok : (wp_X7_add 68 128 σ Φ)) : Met l yX7_add (uW yX7_add cX7_add 3 (some .int)) ({ frames := 0, cells := 0, slots := 0, locals := 0 }) (va_Pc [.ref (u 67)] (aS ra ga D (tyL cI cZ cJ) (cW o u cI cZ cJ T σ) sz)) (yQi Φ D (cW o u cI cZ cJ T) (va_A (cW o u cI cZ cJ T σ) sz)) 0 0 (va_A (cW o u cI cZ cJ T σ) sz) := by
  refine aStart (lv := [(0, .ref (u 67))]) (Qc := fun A => yQi Φ D (cW o u cI cZ cJ T) A) (by decide) (Nat.le_of_ble_eq_true rfl) rfl ?_
  intro p e s m args below meth c ls A H S hr hlocks hnm hl hK hP hD hS hA hB
  have hx := S.1
  have hb := S.2.1
  refine lv_aload_n hx hb dX7_add_0 rfl (lv_at hl 0 rfl) ?_
  refine xg (ci := 7) S inX7 rfl hK hP cW_68 2 (by decide) rfl kw_5_56 rfl dX7_add_1 ?_
  refine lv_iconst (v := 1) hx hb dX7_add_4 (by decide) ?_
  refine xiadd (v := (σ.1 68 2) + 1) S dX7_add_5 rfl ?_
  refine lv_aload_n hx hb dX7_add_6 rfl (lv_at hl 0 rfl) ?_
  refine xg (ci := 7) S inX7 rfl hK hP cW_68 0 (by decide) rfl kw_5_54 rfl dX7_add_7 ?_
  refine ximul (v := ((σ.1 68 2) + 1) * (σ.1 68 0)) S dX7_add_10 rfl ?_
  refine lv_topi (fun x1 ex1 => ?_)
  have hok := hok x1 ex1
  refine lv_istore_n (lv' := [(1, .int x1), (0, .ref (u 67))]) hx hb dX7_add_11 rfl hl (by decide) rfl (fun ls hl => ?_)
  refine lv_iload_n hx hb dX7_add_12 rfl (lv_at hl 0 rfl) ?_
  refine lv_aload_n hx hb dX7_add_13 rfl (lv_at hl 1 rfl) ?_
  refine xg (ci := 7) S inX7 rfl hK hP cW_68 1 (by decide) rfl kw_5_55 rfl dX7_add_14 ?_
  refine xalen (t0 := 0) (v := (nI 128)) S hK hP cW_69 rfl rfl dX7_add_17 ?_
  refine lv_icmp_le (tgt := 49) hx hb dX7_add_18 (by decide) (fun c_18 => ?_) (fun c_18 => ?_)
  · have hok := hok.1 c_18
    refine lv_iload_n hx hb dX7_add_49 rfl (lv_at hl 0 rfl) ?_
    refine lv_aload_n hx hb dX7_add_50 rfl (lv_at hl 1 rfl) ?_
    refine xg (ci := 7) S inX7 rfl hK hP cW_68 1 (by decide) rfl kw_5_55 rfl dX7_add_51 ?_
    refine xalen (t0 := 0) (v := (nI 128)) S hK hP cW_69 rfl rfl dX7_add_54 ?_
    refine lv_icmp_le (tgt := 60) hx hb dX7_add_55 (by decide) (fun c_55 => ?_) (fun c_55 => ?_)
    · have hok := hok.1 c_55
      refine lv_iload_n hx hb dX7_add_60 rfl (lv_at hl 0 rfl) ?_
      refine lv_aload_n hx hb dX7_add_61 rfl (lv_at hl 1 rfl) ?_
      refine xg (ci := 7) S inX7 rfl hK hP cW_68 0 (by decide) rfl kw_5_54 rfl dX7_add_62 ?_
      refine xisub (v := x1 - (σ.1 68 0)) S dX7_add_65 rfl ?_
      refine lv_topi (fun x2 ex2 => ?_)
      have hok := hok x2 ex2
      refine lv_istore_n (lv' := [(2, .int x2), (1, .int x1), (0, .ref (u 67))]) hx hb dX7_add_66 rfl hl (by decide) rfl (fun ls hl => ?_)
      have lp67 : ∀ (K : FS → Int32 → Prop), (∀ (τ0 : FS) (l2_0 : Int32) (H : Heap) (locs : List Loc) (ls : Array Slot), K τ0 l2_0 → lv_has ls 3 [(2, .int l2_0), (1, .int x1), (0, .ref (u 67))] → va_P D vwCl (cW o u cI cZ cJ T τ0) H → va_D A (cW o u cI cZ cJ T τ0) → va_S A s.heap H locs → W p l e ({ frames := 0, cells := 0, slots := 0, locals := 0 }) s m args below meth c H locs 0 0 (MQ below (yQi Φ D (cW o u cI cZ cJ T) A) args s 0 0 A) (F0 m 85 ls [])) → ∀ (n0 : Nat) (τ0 : FS) (l2_0 : Int32) (H : Heap) (locs : List Loc) (ls : Array Slot), wp_X7_add_67 68 128 x1 Φ K n0 τ0 l2_0 → lv_has ls 3 [(2, .int l2_0), (1, .int x1), (0, .ref (u 67))] → va_P D vwCl (cW o u cI cZ cJ T τ0) H → va_D A (cW o u cI cZ cJ T τ0) → va_S A s.heap H locs → W p l e ({ frames := 0, cells := 0, slots := 0, locals := 0 }) s m args below meth c H locs 0 0 (MQ below (yQi Φ D (cW o u cI cZ cJ T) A) args s 0 0 A) (F0 m 67 ls []) := by
        intro K hk n0
        induction n0 with
        | zero => intro τ0 l2_0 H locs ls hok; exact False.elim hok
        | succ n0 ih67 =>
          intro τ0 l2_0 H locs ls hok hl hP hD hS
          refine lv_iload_n hx hb dX7_add_67 rfl (lv_at hl 0 rfl) ?_
          refine lv_iload_n hx hb dX7_add_68 rfl (lv_at hl 1 rfl) ?_
          refine lv_icmp_ge (tgt := 85) hx hb dX7_add_69 (by decide) (fun c_69 => ?_) (fun c_69 => ?_)
          · have hok := hok.1 c_69
            exact hk τ0 l2_0 H locs ls hok (lv_sub hl [0, 1, 2] rfl) hP hD hS
          · have hok := hok.2 c_69
            refine lv_aload_n hx hb dX7_add_72 rfl (lv_at hl 2 rfl) ?_
            refine xg (ci := 7) S inX7 rfl hK hP cW_68 1 (by decide) rfl kw_5_55 rfl dX7_add_73 ?_
            refine lv_iload_n hx hb dX7_add_76 rfl (lv_at hl 0 rfl) ?_
            refine lv_iconst (v := 0) hx hb dX7_add_77 (by decide) ?_
            have h_78 := hok.1
            have hok := hok.2
            refine yiast (t0 := 0) (cw := (cW o u cI cZ cJ T)) S hK hP hD hS cW_69 rfl h_78 dX7_add_78 cWa_69 (fun σ3 H locs eσ3 hP hD hS => ?_)
            have hok := hok σ3 eσ3
            refine lv_iinc (v := l2_0 + 1) (lv' := [(2, .int (l2_0 + 1)), (1, .int x1), (0, .ref (u 67))]) hx hb dX7_add_79 hl (k := 0) rfl rfl (by decide) rfl (fun ls hl => ?_)
            refine lv_goto (tgt := 67) hx hb dX7_add_82 (by decide) ?_
            exact ih67 σ3 (l2_0 + 1) H locs ls hok (lv_sub hl [0, 1, 2] rfl) hP hD hS
      refine lp67 _ ?_ FUEL σ x2 _ _ _ hok (lv_sub hl [0, 1, 2] rfl) hP hD hS
      intro σ4 x5 H locs ls hok hl hP hD hS
      refine lv_aload_n hx hb dX7_add_85 rfl (lv_at hl 2 rfl) ?_
      refine lv_dup hx hb dX7_add_86 rfl ?_
      refine xg (ci := 7) S inX7 rfl hK hP cW_68 2 (by decide) rfl kw_5_56 rfl dX7_add_87 ?_
      refine lv_iconst (v := 1) hx hb dX7_add_90 (by decide) ?_
      refine xiadd (v := (σ4.1 68 2) + 1) S dX7_add_91 rfl ?_
      refine yp (ci := 7) (v := .int ((σ4.1 68 2) + 1)) (cw := (cW o u cI cZ cJ T)) S inX7 tyX7 tyX7_ok nmX7 rfl hK hP hD hS cW_68 2 (by decide) kw_5_56 rfl rfl rfl rfl (Nat.le_of_ble_eq_true rfl) dX7_add_92 cWp_68_2 (fun σ6 H locs eσ6 hP hD hS => ?_)
      have hok := hok σ6 eσ6
      refine lv_aload_n hx hb dX7_add_95 rfl (lv_at hl 2 rfl) ?_
      refine xg (ci := 7) S inX7 rfl hK hP cW_68 2 (by decide) rfl kw_5_56 rfl dX7_add_96 ?_
      refine lv_iconst (v := 1) hx hb dX7_add_99 (by decide) ?_
      refine xisub (v := (σ6.1 68 2) - 1) S dX7_add_100 rfl ?_
      exact yEnd S hr hlocks hP hD hS (Nat.le_of_ble_eq_true rfl) (Nat.le_of_ble_eq_true rfl) dX7_add_101 hok
    · have hok := hok.2 c_55
      refine lv_iconst (v := (-1)) hx hb dX7_add_58 (by decide) ?_
      exact yEnd S hr hlocks hP hD hS (Nat.le_of_ble_eq_true rfl) (Nat.le_of_ble_eq_true rfl) dX7_add_59 hok
  · have hok := hok.2 c_18
    refine lv_aload_n hx hb dX7_add_21 rfl (lv_at hl 1 rfl) ?_
    refine xg (ci := 7) S inX7 rfl hK hP cW_68 1 (by decide) rfl kw_5_55 rfl dX7_add_22 ?_
    refine xalen (t0 := 0) (v := (nI 128)) S hK hP cW_69 rfl rfl dX7_add_25 ?_
    refine lv_ldc hx hb S.2.2.2.1 (S.2.2.2.2 _ kw_2_228) dX7_add_26 ?_
    refine lv_icmp_gt (tgt := 49) hx hb dX7_add_28 (by decide) (fun c_28 => ?_) (fun c_28 => ?_)
    · have hok := hok.1 c_28
      refine lv_iload_n hx hb dX7_add_49 rfl (lv_at hl 0 rfl) ?_
      refine lv_aload_n hx hb dX7_add_50 rfl (lv_at hl 1 rfl) ?_
      refine xg (ci := 7) S inX7 rfl hK hP cW_68 1 (by decide) rfl kw_5_55 rfl dX7_add_51 ?_
      refine xalen (t0 := 0) (v := (nI 128)) S hK hP cW_69 rfl rfl dX7_add_54 ?_
      refine lv_icmp_le (tgt := 60) hx hb dX7_add_55 (by decide) (fun c_55 => ?_) (fun c_55 => ?_)
      · have hok := hok.1 c_55
        refine lv_iload_n hx hb dX7_add_60 rfl (lv_at hl 0 rfl) ?_
        refine lv_aload_n hx hb dX7_add_61 rfl (lv_at hl 1 rfl) ?_
        refine xg (ci := 7) S inX7 rfl hK hP cW_68 0 (by decide) rfl kw_5_54 rfl dX7_add_62 ?_
        refine xisub (v := x1 - (σ.1 68 0)) S dX7_add_65 rfl ?_
        refine lv_topi (fun x7 ex7 => ?_)
        have hok := hok x7 ex7
        refine lv_istore_n (lv' := [(2, .int x7), (1, .int x1), (0, .ref (u 67))]) hx hb dX7_add_66 rfl hl (by decide) rfl (fun ls hl => ?_)
        have lp67 : ∀ (K : FS → Int32 → Prop), (∀ (τ0 : FS) (l2_0 : Int32) (H : Heap) (locs : List Loc) (ls : Array Slot), K τ0 l2_0 → lv_has ls 3 [(2, .int l2_0), (1, .int x1), (0, .ref (u 67))] → va_P D vwCl (cW o u cI cZ cJ T τ0) H → va_D A (cW o u cI cZ cJ T τ0) → va_S A s.heap H locs → W p l e ({ frames := 0, cells := 0, slots := 0, locals := 0 }) s m args below meth c H locs 0 0 (MQ below (yQi Φ D (cW o u cI cZ cJ T) A) args s 0 0 A) (F0 m 85 ls [])) → ∀ (n0 : Nat) (τ0 : FS) (l2_0 : Int32) (H : Heap) (locs : List Loc) (ls : Array Slot), wp_X7_add_67 68 128 x1 Φ K n0 τ0 l2_0 → lv_has ls 3 [(2, .int l2_0), (1, .int x1), (0, .ref (u 67))] → va_P D vwCl (cW o u cI cZ cJ T τ0) H → va_D A (cW o u cI cZ cJ T τ0) → va_S A s.heap H locs → W p l e ({ frames := 0, cells := 0, slots := 0, locals := 0 }) s m args below meth c H locs 0 0 (MQ below (yQi Φ D (cW o u cI cZ cJ T) A) args s 0 0 A) (F0 m 67 ls []) := by
          intro K hk n0
          induction n0 with
          | zero => intro τ0 l2_0 H locs ls hok; exact False.elim hok
          | succ n0 ih67 =>
            intro τ0 l2_0 H locs ls hok hl hP hD hS
            refine lv_iload_n hx hb dX7_add_67 rfl (lv_at hl 0 rfl) ?_
            refine lv_iload_n hx hb dX7_add_68 rfl (lv_at hl 1 rfl) ?_
            refine lv_icmp_ge (tgt := 85) hx hb dX7_add_69 (by decide) (fun c_69 => ?_) (fun c_69 => ?_)
            · have hok := hok.1 c_69
              exact hk τ0 l2_0 H locs ls hok (lv_sub hl [0, 1, 2] rfl) hP hD hS
            · have hok := hok.2 c_69
              refine lv_aload_n hx hb dX7_add_72 rfl (lv_at hl 2 rfl) ?_
              refine xg (ci := 7) S inX7 rfl hK hP cW_68 1 (by decide) rfl kw_5_55 rfl dX7_add_73 ?_
              refine lv_iload_n hx hb dX7_add_76 rfl (lv_at hl 0 rfl) ?_
              refine lv_iconst (v := 0) hx hb dX7_add_77 (by decide) ?_
              have h_78 := hok.1
              have hok := hok.2
              refine yiast (t0 := 0) (cw := (cW o u cI cZ cJ T)) S hK hP hD hS cW_69 rfl h_78 dX7_add_78 cWa_69 (fun σ8 H locs eσ8 hP hD hS => ?_)
              have hok := hok σ8 eσ8
              refine lv_iinc (v := l2_0 + 1) (lv' := [(2, .int (l2_0 + 1)), (1, .int x1), (0, .ref (u 67))]) hx hb dX7_add_79 hl (k := 0) rfl rfl (by decide) rfl (fun ls hl => ?_)
              refine lv_goto (tgt := 67) hx hb dX7_add_82 (by decide) ?_
              exact ih67 σ8 (l2_0 + 1) H locs ls hok (lv_sub hl [0, 1, 2] rfl) hP hD hS
        refine lp67 _ ?_ FUEL σ x7 _ _ _ hok (lv_sub hl [0, 1, 2] rfl) hP hD hS
        intro σ9 x10 H locs ls hok hl hP hD hS
        refine lv_aload_n hx hb dX7_add_85 rfl (lv_at hl 2 rfl) ?_
        refine lv_dup hx hb dX7_add_86 rfl ?_
        refine xg (ci := 7) S inX7 rfl hK hP cW_68 2 (by decide) rfl kw_5_56 rfl dX7_add_87 ?_
        refine lv_iconst (v := 1) hx hb dX7_add_90 (by decide) ?_
        refine xiadd (v := (σ9.1 68 2) + 1) S dX7_add_91 rfl ?_
        refine yp (ci := 7) (v := .int ((σ9.1 68 2) + 1)) (cw := (cW o u cI cZ cJ T)) S inX7 tyX7 tyX7_ok nmX7 rfl hK hP hD hS cW_68 2 (by decide) kw_5_56 rfl rfl rfl rfl (Nat.le_of_ble_eq_true rfl) dX7_add_92 cWp_68_2 (fun σ11 H locs eσ11 hP hD hS => ?_)
        have hok := hok σ11 eσ11
        refine lv_aload_n hx hb dX7_add_95 rfl (lv_at hl 2 rfl) ?_
        refine xg (ci := 7) S inX7 rfl hK hP cW_68 2 (by decide) rfl kw_5_56 rfl dX7_add_96 ?_
        refine lv_iconst (v := 1) hx hb dX7_add_99 (by decide) ?_
        refine xisub (v := (σ11.1 68 2) - 1) S dX7_add_100 rfl ?_
        exact yEnd S hr hlocks hP hD hS (Nat.le_of_ble_eq_true rfl) (Nat.le_of_ble_eq_true rfl) dX7_add_101 hok
      · have hok := hok.2 c_55
        refine lv_iconst (v := (-1)) hx hb dX7_add_58 (by decide) ?_
        exact yEnd S hr hlocks hP hD hS (Nat.le_of_ble_eq_true rfl) (Nat.le_of_ble_eq_true rfl) dX7_add_59 hok
    · have hok := hok.2 c_28
      refine lv_aload_n hx hb dX7_add_31 rfl (lv_at hl 1 rfl) ?_
      refine lv_aload_n hx hb dX7_add_32 rfl (lv_at hl 1 rfl) ?_
      refine xg (ci := 7) S inX7 rfl hK hP cW_68 1 (by decide) rfl kw_5_55 rfl dX7_add_33 ?_
      refine lv_aload_n hx hb dX7_add_36 rfl (lv_at hl 1 rfl) ?_
      refine xg (ci := 7) S inX7 rfl hK hP cW_68 1 (by decide) rfl kw_5_55 rfl dX7_add_37 ?_
      refine xalen (t0 := 0) (v := (nI 128)) S hK hP cW_69 rfl rfl dX7_add_40 ?_
      refine lv_iconst (v := 2) hx hb dX7_add_41 (by decide) ?_
      refine ximul (v := (nI 128) * 2) S dX7_add_42 rfl ?_
      exact False.elim hok

set_option maxHeartbeats 8000000 in
set_option maxRecDepth 100000 in
theorem v_X7_put_68 (l : Launch) (D : va_G) (cI cZ cJ : ClassId) (o : Nat) (u : Nat → Nat) (T : Nat) (ra : Nat → Nat) (ga : SG) (σ : FS) (a1 : Int32) (a2 : Int32) (a3 : Int32) (Φ : FS → Prop) (sz : Nat) (hok : (wp_X7_put 68 128 σ a1 a2 a3 Φ)) : Met l yX7_put (uW yX7_put cX7_put 4 none) ({ frames := 1, cells := 0, slots := 0, locals := 22 }) (va_Pc [.ref (u 67), .int a1, .int a2, .int a3] (aS ra ga D (tyL cI cZ cJ) (cW o u cI cZ cJ T σ) sz)) (yQv Φ D (cW o u cI cZ cJ T) (va_A (cW o u cI cZ cJ T σ) sz)) 0 0 (va_A (cW o u cI cZ cJ T σ) sz) := by
  refine aStart (lv := [(0, .ref (u 67)), (1, .int a1), (2, .int a2), (3, .int a3)]) (Qc := fun A => yQv Φ D (cW o u cI cZ cJ T) A) (by decide) (Nat.le_of_ble_eq_true rfl) rfl ?_
  intro p e s m args below meth c ls A H S hr hlocks hnm hl hK hP hD hS hA hB
  have hx := S.1
  have hb := S.2.1
  refine lv_aload_n hx hb dX7_put_0 rfl (lv_at hl 0 rfl) ?_
  refine lv_iload_n hx hb dX7_put_1 rfl (lv_at hl 1 rfl) ?_
  refine lv_iload_n hx hb dX7_put_2 rfl (lv_at hl 2 rfl) ?_
  refine yVi (As := [.int a1, .int a2]) (cw := (cW o u cI cZ cJ T)) (ci := 7) S (v_X7_has_68 l D cI cZ cJ o u T ra ga σ a1 a2 _ H.size hok) mi_X7_has kw_3_9 rfl rfl ⟨Nat.le_of_ble_eq_true rfl, Nat.le_of_ble_eq_true rfl⟩ hP hD hK hS hA hB cW_68 rfl rfl hl.1 (Nat.le_of_ble_eq_true rfl) ⟨Nat.le_of_ble_eq_true rfl, Nat.le_of_ble_eq_true rfl⟩ dX7_put_3 (fun x2 σ1 H locs hok hz hP hD hS => ?_)
  refine lv_if_eq (tgt := 23) hx hb dX7_put_6 (by decide) (fun c_6 => ?_) (fun c_6 => ?_)
  · have hok := hok.1 c_6
    exact yEndv S hr hlocks hP hD hS (Nat.le_of_ble_eq_true rfl) (Nat.le_of_ble_eq_true rfl) dX7_put_23 hok
  · have hok := hok.2 c_6
    refine lv_aload_n hx hb dX7_put_9 rfl (lv_at hl 0 rfl) ?_
    refine xg (ci := 7) S inX7 rfl hK hP cW_68 1 (by decide) rfl kw_5_55 rfl dX7_put_10 ?_
    refine lv_iload_n hx hb dX7_put_13 rfl (lv_at hl 1 rfl) ?_
    refine lv_aload_n hx hb dX7_put_14 rfl (lv_at hl 0 rfl) ?_
    refine xg (ci := 7) S inX7 rfl hK hP cW_68 0 (by decide) rfl kw_5_54 rfl dX7_put_15 ?_
    refine ximul (v := a1 * (σ1.1 68 0)) S dX7_put_18 rfl ?_
    refine lv_iload_n hx hb dX7_put_19 rfl (lv_at hl 2 rfl) ?_
    refine xiadd (v := (a1 * (σ1.1 68 0)) + a2) S dX7_put_20 rfl ?_
    refine lv_iload_n hx hb dX7_put_21 rfl (lv_at hl 3 rfl) ?_
    have h_22 := hok.1
    have hok := hok.2
    refine yiast (t0 := 0) (cw := (cW o u cI cZ cJ T)) S hK hP hD hS cW_69 rfl h_22 dX7_put_22 cWa_69 (fun σ3 H locs eσ3 hP hD hS => ?_)
    have hok := hok σ3 eσ3
    exact yEndv S hr hlocks hP hD hS (Nat.le_of_ble_eq_true rfl) (Nat.le_of_ble_eq_true rfl) dX7_put_23 hok

set_option maxHeartbeats 8000000 in
set_option maxRecDepth 100000 in
theorem v_X3_push (l : Launch) (D : va_G) (cI cZ cJ : ClassId) (o : Nat) (u : Nat → Nat) (T : Nat) (ra : Nat → Nat) (ga : SG) (σ : FS) (a1 : Int32) (a2 : Int32) (Φ : FS → Prop) (sz : Nat) (hok : (wp_X3_push σ a1 a2 Φ)) : Met l yX3_push (uW yX3_push cX3_push 4 none) ({ frames := 2, cells := 0, slots := 0, locals := 45 }) (va_Pc [.ref (u 64), .int a1, .int a2] (aS ra ga D (tyL cI cZ cJ) (cW o u cI cZ cJ T σ) sz)) (yQv Φ D (cW o u cI cZ cJ T) (va_A (cW o u cI cZ cJ T σ) sz)) 0 0 (va_A (cW o u cI cZ cJ T σ) sz) := by
  refine aStart (lv := [(0, .ref (u 64)), (1, .int a1), (2, .int a2)]) (Qc := fun A => yQv Φ D (cW o u cI cZ cJ T) A) (by decide) (Nat.le_of_ble_eq_true rfl) rfl ?_
  intro p e s m args below meth c ls A H S hr hlocks hnm hl hK hP hD hS hA hB
  have hx := S.1
  have hb := S.2.1
  refine lv_aload_n hx hb dX3_push_0 rfl (lv_at hl 0 rfl) ?_
  refine xg (ci := 3) S inX3 rfl hK hP cW_65 5 (by decide) rfl kw_5_134 rfl dX3_push_1 ?_
  refine yVi (As := []) (cw := (cW o u cI cZ cJ T)) (ci := 7) S (v_X7_add_68 l D cI cZ cJ o u T ra ga σ _ H.size hok) mi_X7_add kw_2_224 rfl rfl ⟨Nat.le_of_ble_eq_true rfl, Nat.le_of_ble_eq_true rfl⟩ hP hD hK hS hA hB cW_68 rfl rfl hl.1 (Nat.le_of_ble_eq_true rfl) ⟨Nat.le_of_ble_eq_true rfl, Nat.le_of_ble_eq_true rfl⟩ dX3_push_4 (fun x2 σ1 H locs hok hz hP hD hS => ?_)
  refine lv_istore_n (lv' := [(3, .int x2), (0, .ref (u 64)), (1, .int a1), (2, .int a2)]) hx hb dX3_push_7 rfl hl (by decide) rfl (fun ls hl => ?_)
  refine lv_aload_n hx hb dX3_push_8 rfl (lv_at hl 1 rfl) ?_
  refine xg (ci := 3) S inX3 rfl hK hP cW_65 5 (by decide) rfl kw_5_134 rfl dX3_push_9 ?_
  refine lv_iload_n hx hb dX3_push_12 rfl (lv_at hl 0 rfl) ?_
  refine lv_iconst (v := 0) hx hb dX3_push_13 (by decide) ?_
  refine lv_iload_n hx hb dX3_push_14 rfl (lv_at hl 2 rfl) ?_
  refine yVv (As := [.int x2, .int 0, .int a1]) (cw := (cW o u cI cZ cJ T)) (ci := 7) S (v_X7_put_68 l D cI cZ cJ o u T ra ga σ1 x2 0 a1 _ H.size hok) mi_X7_put kw_3_5 rfl rfl ⟨Nat.le_of_ble_eq_true rfl, Nat.le_of_ble_eq_true rfl⟩ hP hD hK hS hA hB cW_68 rfl rfl hl.1 (Nat.le_of_ble_eq_true rfl) ⟨Nat.le_of_ble_eq_true rfl, Nat.le_of_ble_eq_true rfl⟩ dX3_push_15 (fun σ3 H locs hok hz hP hD hS => ?_)
  refine lv_aload_n hx hb dX3_push_18 rfl (lv_at hl 1 rfl) ?_
  refine xg (ci := 3) S inX3 rfl hK hP cW_65 5 (by decide) rfl kw_5_134 rfl dX3_push_19 ?_
  refine lv_iload_n hx hb dX3_push_22 rfl (lv_at hl 0 rfl) ?_
  refine lv_iconst (v := 1) hx hb dX3_push_23 (by decide) ?_
  refine lv_iload_n hx hb dX3_push_24 rfl (lv_at hl 3 rfl) ?_
  refine yVv (As := [.int x2, .int 1, .int a2]) (cw := (cW o u cI cZ cJ T)) (ci := 7) S (v_X7_put_68 l D cI cZ cJ o u T ra ga σ3 x2 1 a2 _ H.size hok) mi_X7_put kw_3_5 rfl rfl ⟨Nat.le_of_ble_eq_true rfl, Nat.le_of_ble_eq_true rfl⟩ hP hD hK hS hA hB cW_68 rfl rfl hl.1 (Nat.le_of_ble_eq_true rfl) ⟨Nat.le_of_ble_eq_true rfl, Nat.le_of_ble_eq_true rfl⟩ dX3_push_25 (fun σ4 H locs hok hz hP hD hS => ?_)
  exact yEndv S hr hlocks hP hD hS (Nat.le_of_ble_eq_true rfl) (Nat.le_of_ble_eq_true rfl) dX3_push_28 hok

set_option maxHeartbeats 8000000 in
set_option maxRecDepth 100000 in
theorem v_X7_at_70 (l : Launch) (D : va_G) (cI cZ cJ : ClassId) (o : Nat) (u : Nat → Nat) (T : Nat) (ra : Nat → Nat) (ga : SG) (σ : FS) (a1 : Int32) (a2 : Int32) (Φ : Int32 → FS → Prop) (sz : Nat) (hok : (wp_X7_at 70 192 σ a1 a2 Φ)) : Met l yX7_at (uW yX7_at cX7_at 3 (some .int)) ({ frames := 1, cells := 0, slots := 0, locals := 22 }) (va_Pc [.ref (u 69), .int a1, .int a2] (aS ra ga D (tyL cI cZ cJ) (cW o u cI cZ cJ T σ) sz)) (yQi Φ D (cW o u cI cZ cJ T) (va_A (cW o u cI cZ cJ T σ) sz)) 0 0 (va_A (cW o u cI cZ cJ T σ) sz) := by
  refine aStart (lv := [(0, .ref (u 69)), (1, .int a1), (2, .int a2)]) (Qc := fun A => yQi Φ D (cW o u cI cZ cJ T) A) (by decide) (Nat.le_of_ble_eq_true rfl) rfl ?_
  intro p e s m args below meth c ls A H S hr hlocks hnm hl hK hP hD hS hA hB
  have hx := S.1
  have hb := S.2.1
  refine lv_aload_n hx hb dX7_at_0 rfl (lv_at hl 0 rfl) ?_
  refine lv_iload_n hx hb dX7_at_1 rfl (lv_at hl 1 rfl) ?_
  refine lv_iload_n hx hb dX7_at_2 rfl (lv_at hl 2 rfl) ?_
  refine yVi (As := [.int a1, .int a2]) (cw := (cW o u cI cZ cJ T)) (ci := 7) S (v_X7_has_70 l D cI cZ cJ o u T ra ga σ a1 a2 _ H.size hok) mi_X7_has kw_3_9 rfl rfl ⟨Nat.le_of_ble_eq_true rfl, Nat.le_of_ble_eq_true rfl⟩ hP hD hK hS hA hB cW_70 rfl rfl hl.1 (Nat.le_of_ble_eq_true rfl) ⟨Nat.le_of_ble_eq_true rfl, Nat.le_of_ble_eq_true rfl⟩ dX7_at_3 (fun x2 σ1 H locs hok hz hP hD hS => ?_)
  refine lv_if_eq (tgt := 25) hx hb dX7_at_6 (by decide) (fun c_6 => ?_) (fun c_6 => ?_)
  · have hok := hok.1 c_6
    refine lv_iconst (v := (-1)) hx hb dX7_at_25 (by decide) ?_
    exact yEnd S hr hlocks hP hD hS (Nat.le_of_ble_eq_true rfl) (Nat.le_of_ble_eq_true rfl) dX7_at_26 hok
  · have hok := hok.2 c_6
    refine lv_aload_n hx hb dX7_at_9 rfl (lv_at hl 0 rfl) ?_
    refine xg (ci := 7) S inX7 rfl hK hP cW_70 1 (by decide) rfl kw_5_55 rfl dX7_at_10 ?_
    refine lv_iload_n hx hb dX7_at_13 rfl (lv_at hl 1 rfl) ?_
    refine lv_aload_n hx hb dX7_at_14 rfl (lv_at hl 0 rfl) ?_
    refine xg (ci := 7) S inX7 rfl hK hP cW_70 0 (by decide) rfl kw_5_54 rfl dX7_at_15 ?_
    refine ximul (v := a1 * (σ1.1 70 0)) S dX7_at_18 rfl ?_
    refine lv_iload_n hx hb dX7_at_19 rfl (lv_at hl 2 rfl) ?_
    refine xiadd (v := (a1 * (σ1.1 70 0)) + a2) S dX7_at_20 rfl ?_
    have h_21 := hok.1
    have hok := hok.2
    refine xiald (t0 := 0) (v := (g σ1 71 ((a1 * (σ1.1 70 0)) + a2))) S hK hP cW_71 rfl h_21 rfl dX7_at_21 ?_
    refine lv_goto (tgt := 26) hx hb dX7_at_22 (by decide) ?_
    exact yEnd S hr hlocks hP hD hS (Nat.le_of_ble_eq_true rfl) (Nat.le_of_ble_eq_true rfl) dX7_at_26 hok

set_option maxHeartbeats 8000000 in
set_option maxRecDepth 100000 in
theorem v_X3_frameAt (l : Launch) (D : va_G) (cI cZ cJ : ClassId) (o : Nat) (u : Nat → Nat) (T : Nat) (ra : Nat → Nat) (ga : SG) (σ : FS) (a1 : Int32) (Φ : Int32 → FS → Prop) (sz : Nat) (hok : (wp_X3_frameAt σ a1 Φ)) : Met l yX3_frameAt (uW yX3_frameAt cX3_frameAt 4 (some .int)) ({ frames := 2, cells := 0, slots := 0, locals := 44 }) (va_Pc [.ref (u 64), .int a1] (aS ra ga D (tyL cI cZ cJ) (cW o u cI cZ cJ T σ) sz)) (yQi Φ D (cW o u cI cZ cJ T) (va_A (cW o u cI cZ cJ T σ) sz)) 0 0 (va_A (cW o u cI cZ cJ T σ) sz) := by
  refine aStart (lv := [(0, .ref (u 64)), (1, .int a1)]) (Qc := fun A => yQi Φ D (cW o u cI cZ cJ T) A) (by decide) (Nat.le_of_ble_eq_true rfl) rfl ?_
  intro p e s m args below meth c ls A H S hr hlocks hnm hl hK hP hD hS hA hB
  have hx := S.1
  have hb := S.2.1
  refine lv_aload_n hx hb dX3_frameAt_0 rfl (lv_at hl 0 rfl) ?_
  refine xg (ci := 3) S inX3 rfl hK hP cW_65 13 (by decide) rfl kw_5_142 rfl dX3_frameAt_1 ?_
  refine lv_topi (fun x1 ex1 => ?_)
  have hok := hok x1 ex1
  refine lv_istore_n (lv' := [(2, .int x1), (0, .ref (u 64)), (1, .int a1)]) hx hb dX3_frameAt_4 rfl hl (by decide) rfl (fun ls hl => ?_)
  refine lv_iconst (v := 0) hx hb dX3_frameAt_5 (by decide) ?_
  refine lv_istore_n (lv' := [(3, .int 0), (2, .int x1), (0, .ref (u 64)), (1, .int a1)]) hx hb dX3_frameAt_6 rfl hl (by decide) rfl (fun ls hl => ?_)
  have lp7 : ∀ (K : FS → Int32 → Int32 → Prop), (∀ (τ0 : FS) (l3_0 : Int32) (l2_0 : Int32) (H : Heap) (locs : List Loc) (ls : Array Slot), K τ0 l3_0 l2_0 → lv_has ls 4 [(3, .int l3_0), (2, .int l2_0), (0, .ref (u 64)), (1, .int a1)] → va_P D vwCl (cW o u cI cZ cJ T τ0) H → va_D A (cW o u cI cZ cJ T τ0) → va_S A s.heap H locs → W p l e ({ frames := 2, cells := 0, slots := 0, locals := 44 }) s m args below meth c H locs 0 0 (MQ below (yQi Φ D (cW o u cI cZ cJ T) A) args s 0 0 A) (F0 m 28 ls [])) → ∀ (n0 : Nat) (τ0 : FS) (l3_0 : Int32) (l2_0 : Int32) (H : Heap) (locs : List Loc) (ls : Array Slot), wp_X3_frameAt_7 a1 Φ K n0 τ0 l3_0 l2_0 → lv_has ls 4 [(3, .int l3_0), (2, .int l2_0), (0, .ref (u 64)), (1, .int a1)] → va_P D vwCl (cW o u cI cZ cJ T τ0) H → va_D A (cW o u cI cZ cJ T τ0) → va_S A s.heap H locs → W p l e ({ frames := 2, cells := 0, slots := 0, locals := 44 }) s m args below meth c H locs 0 0 (MQ below (yQi Φ D (cW o u cI cZ cJ T) A) args s 0 0 A) (F0 m 7 ls []) := by
    intro K hk n0
    induction n0 with
    | zero => intro τ0 l3_0 l2_0 H locs ls hok; exact False.elim hok
    | succ n0 ih7 =>
      intro τ0 l3_0 l2_0 H locs ls hok hl hP hD hS
      refine lv_iload_n hx hb dX3_frameAt_7 rfl (lv_at hl 0 rfl) ?_
      refine lv_iload_n hx hb dX3_frameAt_8 rfl (lv_at hl 3 rfl) ?_
      refine lv_icmp_ge (tgt := 28) hx hb dX3_frameAt_9 (by decide) (fun c_9 => ?_) (fun c_9 => ?_)
      · have hok := hok.1 c_9
        exact hk τ0 l3_0 l2_0 H locs ls hok (lv_sub hl [0, 1, 2, 3] rfl) hP hD hS
      · have hok := hok.2 c_9
        refine lv_aload_n hx hb dX3_frameAt_12 rfl (lv_at hl 2 rfl) ?_
        refine xg (ci := 3) S inX3 rfl hK hP cW_65 6 (by decide) rfl kw_5_135 rfl dX3_frameAt_13 ?_
        refine lv_iload_n hx hb dX3_frameAt_16 rfl (lv_at hl 1 rfl) ?_
        refine lv_iconst (v := 1) hx hb dX3_frameAt_17 (by decide) ?_
        refine yVi (As := [.int l2_0, .int 1]) (cw := (cW o u cI cZ cJ T)) (ci := 7) S (v_X7_at_70 l D cI cZ cJ o u T ra ga τ0 l2_0 1 _ H.size hok) mi_X7_at kw_3_18 rfl rfl ⟨Nat.le_of_ble_eq_true rfl, Nat.le_of_ble_eq_true rfl⟩ hP hD hK hS hA hB cW_70 rfl rfl hl.1 (Nat.le_of_ble_eq_true rfl) ⟨Nat.le_of_ble_eq_true rfl, Nat.le_of_ble_eq_true rfl⟩ dX3_frameAt_18 (fun x3 σ2 H locs hok hz hP hD hS => ?_)
        refine lv_istore_n (lv' := [(2, .int x3), (3, .int l3_0), (0, .ref (u 64)), (1, .int a1)]) hx hb dX3_frameAt_21 rfl hl (by decide) rfl (fun ls hl => ?_)
        refine lv_iinc (v := l3_0 + 1) (lv' := [(3, .int (l3_0 + 1)), (2, .int x3), (0, .ref (u 64)), (1, .int a1)]) hx hb dX3_frameAt_22 hl (k := 1) rfl rfl (by decide) rfl (fun ls hl => ?_)
        refine lv_goto (tgt := 7) hx hb dX3_frameAt_25 (by decide) ?_
        exact ih7 σ2 (l3_0 + 1) x3 H locs ls hok (lv_sub hl [0, 1, 2, 3] rfl) hP hD hS
  refine lp7 _ ?_ FUEL σ 0 x1 _ _ _ hok (lv_sub hl [0, 1, 2, 3] rfl) hP hD hS
  intro σ4 x5 x6 H locs ls hok hl hP hD hS
  refine lv_iload_n hx hb dX3_frameAt_28 rfl (lv_at hl 1 rfl) ?_
  exact yEnd S hr hlocks hP hD hS (Nat.le_of_ble_eq_true rfl) (Nat.le_of_ble_eq_true rfl) dX3_frameAt_29 hok

set_option maxHeartbeats 8000000 in
set_option maxRecDepth 100000 in
theorem v_X3_cellOf (l : Launch) (D : va_G) (cI cZ cJ : ClassId) (o : Nat) (u : Nat → Nat) (T : Nat) (ra : Nat → Nat) (ga : SG) (σ : FS) (a1 : Int32) (Φ : Int32 → FS → Prop) (sz : Nat) (hok : (wp_X3_cellOf σ a1 Φ)) : Met l yX3_cellOf (uW yX3_cellOf cX3_cellOf 2 (some .int)) ({ frames := 3, cells := 0, slots := 0, locals := 67 }) (va_Pc [.ref (u 64), .int a1] (aS ra ga D (tyL cI cZ cJ) (cW o u cI cZ cJ T σ) sz)) (yQi Φ D (cW o u cI cZ cJ T) (va_A (cW o u cI cZ cJ T σ) sz)) 0 0 (va_A (cW o u cI cZ cJ T σ) sz) := by
  refine aStart (lv := [(0, .ref (u 64)), (1, .int a1)]) (Qc := fun A => yQi Φ D (cW o u cI cZ cJ T) A) (by decide) (Nat.le_of_ble_eq_true rfl) rfl ?_
  intro p e s m args below meth c ls A H S hr hlocks hnm hl hK hP hD hS hA hB
  have hx := S.1
  have hb := S.2.1
  refine lv_aload_n hx hb dX3_cellOf_0 rfl (lv_at hl 0 rfl) ?_
  refine xg (ci := 3) S inX3 rfl hK hP cW_65 6 (by decide) rfl kw_5_135 rfl dX3_cellOf_1 ?_
  refine lv_aload_n hx hb dX3_cellOf_4 rfl (lv_at hl 0 rfl) ?_
  refine lv_aload_n hx hb dX3_cellOf_5 rfl (lv_at hl 0 rfl) ?_
  refine xg (ci := 3) S inX3 rfl hK hP cW_65 3 (by decide) rfl kw_5_132 rfl dX3_cellOf_6 ?_
  refine xg (ci := 0) S inX0 rfl hK hP cW_52 8 (by decide) rfl kw_4_231 rfl dX3_cellOf_9 ?_
  refine lv_iload_n hx hb dX3_cellOf_12 rfl (lv_at hl 1 rfl) ?_
  have h_13 := hok.1
  have hok := hok.2
  refine xiald (t0 := 0) (v := (g σ 56 a1)) S hK hP cW_56 rfl h_13 rfl dX3_cellOf_13 ?_
  refine yVi (As := [.int (g σ 56 a1)]) (cw := (cW o u cI cZ cJ T)) (ci := 3) S (v_X3_frameAt l D cI cZ cJ o u T ra ga σ (g σ 56 a1) _ H.size hok) mi_X3_frameAt kw_3_51 rfl rfl ⟨Nat.le_of_ble_eq_true rfl, Nat.le_of_ble_eq_true rfl⟩ hP hD hK hS hA hB cW_65 rfl rfl hl.1 (Nat.le_of_ble_eq_true rfl) ⟨Nat.le_of_ble_eq_true rfl, Nat.le_of_ble_eq_true rfl⟩ dX3_cellOf_14 (fun x2 σ1 H locs hok hz hP hD hS => ?_)
  refine lv_iconst (v := 2) hx hb dX3_cellOf_17 (by decide) ?_
  refine yVi (As := [.int x2, .int 2]) (cw := (cW o u cI cZ cJ T)) (ci := 7) S (v_X7_at_70 l D cI cZ cJ o u T ra ga σ1 x2 2 _ H.size hok) mi_X7_at kw_3_18 rfl rfl ⟨Nat.le_of_ble_eq_true rfl, Nat.le_of_ble_eq_true rfl⟩ hP hD hK hS hA hB cW_70 rfl rfl hl.1 (Nat.le_of_ble_eq_true rfl) ⟨Nat.le_of_ble_eq_true rfl, Nat.le_of_ble_eq_true rfl⟩ dX3_cellOf_18 (fun x4 σ3 H locs hok hz hP hD hS => ?_)
  refine lv_aload_n hx hb dX3_cellOf_21 rfl (lv_at hl 0 rfl) ?_
  refine xg (ci := 3) S inX3 rfl hK hP cW_65 3 (by decide) rfl kw_5_132 rfl dX3_cellOf_22 ?_
  refine xg (ci := 0) S inX0 rfl hK hP cW_52 9 (by decide) rfl kw_4_234 rfl dX3_cellOf_25 ?_
  refine lv_iload_n hx hb dX3_cellOf_28 rfl (lv_at hl 1 rfl) ?_
  have h_29 := hok.1
  have hok := hok.2
  refine xiald (t0 := 0) (v := (g σ3 57 a1)) S hK hP cW_57 rfl h_29 rfl dX3_cellOf_29 ?_
  refine xiadd (v := x4 + (g σ3 57 a1)) S dX3_cellOf_30 rfl ?_
  exact yEnd S hr hlocks hP hD hS (Nat.le_of_ble_eq_true rfl) (Nat.le_of_ble_eq_true rfl) dX3_cellOf_31 hok

set_option maxHeartbeats 8000000 in
set_option maxRecDepth 100000 in
theorem v_X7_at_66 (l : Launch) (D : va_G) (cI cZ cJ : ClassId) (o : Nat) (u : Nat → Nat) (T : Nat) (ra : Nat → Nat) (ga : SG) (σ : FS) (a1 : Int32) (a2 : Int32) (Φ : Int32 → FS → Prop) (sz : Nat) (hok : (wp_X7_at 66 128 σ a1 a2 Φ)) : Met l yX7_at (uW yX7_at cX7_at 3 (some .int)) ({ frames := 1, cells := 0, slots := 0, locals := 22 }) (va_Pc [.ref (u 65), .int a1, .int a2] (aS ra ga D (tyL cI cZ cJ) (cW o u cI cZ cJ T σ) sz)) (yQi Φ D (cW o u cI cZ cJ T) (va_A (cW o u cI cZ cJ T σ) sz)) 0 0 (va_A (cW o u cI cZ cJ T σ) sz) := by
  refine aStart (lv := [(0, .ref (u 65)), (1, .int a1), (2, .int a2)]) (Qc := fun A => yQi Φ D (cW o u cI cZ cJ T) A) (by decide) (Nat.le_of_ble_eq_true rfl) rfl ?_
  intro p e s m args below meth c ls A H S hr hlocks hnm hl hK hP hD hS hA hB
  have hx := S.1
  have hb := S.2.1
  refine lv_aload_n hx hb dX7_at_0 rfl (lv_at hl 0 rfl) ?_
  refine lv_iload_n hx hb dX7_at_1 rfl (lv_at hl 1 rfl) ?_
  refine lv_iload_n hx hb dX7_at_2 rfl (lv_at hl 2 rfl) ?_
  refine yVi (As := [.int a1, .int a2]) (cw := (cW o u cI cZ cJ T)) (ci := 7) S (v_X7_has_66 l D cI cZ cJ o u T ra ga σ a1 a2 _ H.size hok) mi_X7_has kw_3_9 rfl rfl ⟨Nat.le_of_ble_eq_true rfl, Nat.le_of_ble_eq_true rfl⟩ hP hD hK hS hA hB cW_66 rfl rfl hl.1 (Nat.le_of_ble_eq_true rfl) ⟨Nat.le_of_ble_eq_true rfl, Nat.le_of_ble_eq_true rfl⟩ dX7_at_3 (fun x2 σ1 H locs hok hz hP hD hS => ?_)
  refine lv_if_eq (tgt := 25) hx hb dX7_at_6 (by decide) (fun c_6 => ?_) (fun c_6 => ?_)
  · have hok := hok.1 c_6
    refine lv_iconst (v := (-1)) hx hb dX7_at_25 (by decide) ?_
    exact yEnd S hr hlocks hP hD hS (Nat.le_of_ble_eq_true rfl) (Nat.le_of_ble_eq_true rfl) dX7_at_26 hok
  · have hok := hok.2 c_6
    refine lv_aload_n hx hb dX7_at_9 rfl (lv_at hl 0 rfl) ?_
    refine xg (ci := 7) S inX7 rfl hK hP cW_66 1 (by decide) rfl kw_5_55 rfl dX7_at_10 ?_
    refine lv_iload_n hx hb dX7_at_13 rfl (lv_at hl 1 rfl) ?_
    refine lv_aload_n hx hb dX7_at_14 rfl (lv_at hl 0 rfl) ?_
    refine xg (ci := 7) S inX7 rfl hK hP cW_66 0 (by decide) rfl kw_5_54 rfl dX7_at_15 ?_
    refine ximul (v := a1 * (σ1.1 66 0)) S dX7_at_18 rfl ?_
    refine lv_iload_n hx hb dX7_at_19 rfl (lv_at hl 2 rfl) ?_
    refine xiadd (v := (a1 * (σ1.1 66 0)) + a2) S dX7_at_20 rfl ?_
    have h_21 := hok.1
    have hok := hok.2
    refine xiald (t0 := 0) (v := (g σ1 67 ((a1 * (σ1.1 66 0)) + a2))) S hK hP cW_67 rfl h_21 rfl dX7_at_21 ?_
    refine lv_goto (tgt := 26) hx hb dX7_at_22 (by decide) ?_
    exact yEnd S hr hlocks hP hD hS (Nat.le_of_ble_eq_true rfl) (Nat.le_of_ble_eq_true rfl) dX7_at_26 hok

set_option maxHeartbeats 8000000 in
set_option maxRecDepth 100000 in
theorem v_X3_pushCell (l : Launch) (D : va_G) (cI cZ cJ : ClassId) (o : Nat) (u : Nat → Nat) (T : Nat) (ra : Nat → Nat) (ga : SG) (σ : FS) (a1 : Int32) (Φ : FS → Prop) (sz : Nat) (hok : (wp_X3_pushCell σ a1 Φ)) : Met l yX3_pushCell (uW yX3_pushCell cX3_pushCell 2 none) ({ frames := 3, cells := 0, slots := 0, locals := 68 }) (va_Pc [.ref (u 64), .int a1] (aS ra ga D (tyL cI cZ cJ) (cW o u cI cZ cJ T σ) sz)) (yQv Φ D (cW o u cI cZ cJ T) (va_A (cW o u cI cZ cJ T σ) sz)) 0 0 (va_A (cW o u cI cZ cJ T σ) sz) := by
  refine aStart (lv := [(0, .ref (u 64)), (1, .int a1)]) (Qc := fun A => yQv Φ D (cW o u cI cZ cJ T) A) (by decide) (Nat.le_of_ble_eq_true rfl) rfl ?_
  intro p e s m args below meth c ls A H S hr hlocks hnm hl hK hP hD hS hA hB
  have hx := S.1
  have hb := S.2.1
  refine lv_aload_n hx hb dX3_pushCell_0 rfl (lv_at hl 0 rfl) ?_
  refine lv_aload_n hx hb dX3_pushCell_1 rfl (lv_at hl 0 rfl) ?_
  refine xg (ci := 3) S inX3 rfl hK hP cW_65 4 (by decide) rfl kw_5_133 rfl dX3_pushCell_2 ?_
  refine lv_iload_n hx hb dX3_pushCell_5 rfl (lv_at hl 1 rfl) ?_
  refine lv_iconst (v := 0) hx hb dX3_pushCell_6 (by decide) ?_
  refine yVi (As := [.int a1, .int 0]) (cw := (cW o u cI cZ cJ T)) (ci := 7) S (v_X7_at_66 l D cI cZ cJ o u T ra ga σ a1 0 _ H.size hok) mi_X7_at kw_3_18 rfl rfl ⟨Nat.le_of_ble_eq_true rfl, Nat.le_of_ble_eq_true rfl⟩ hP hD hK hS hA hB cW_66 rfl rfl hl.1 (Nat.le_of_ble_eq_true rfl) ⟨Nat.le_of_ble_eq_true rfl, Nat.le_of_ble_eq_true rfl⟩ dX3_pushCell_7 (fun x2 σ1 H locs hok hz hP hD hS => ?_)
  refine lv_aload_n hx hb dX3_pushCell_10 rfl (lv_at hl 0 rfl) ?_
  refine xg (ci := 3) S inX3 rfl hK hP cW_65 4 (by decide) rfl kw_5_133 rfl dX3_pushCell_11 ?_
  refine lv_iload_n hx hb dX3_pushCell_14 rfl (lv_at hl 1 rfl) ?_
  refine lv_iconst (v := 1) hx hb dX3_pushCell_15 (by decide) ?_
  refine yVi (As := [.int a1, .int 1]) (cw := (cW o u cI cZ cJ T)) (ci := 7) S (v_X7_at_66 l D cI cZ cJ o u T ra ga σ1 a1 1 _ H.size hok) mi_X7_at kw_3_18 rfl rfl ⟨Nat.le_of_ble_eq_true rfl, Nat.le_of_ble_eq_true rfl⟩ hP hD hK hS hA hB cW_66 rfl rfl hl.1 (Nat.le_of_ble_eq_true rfl) ⟨Nat.le_of_ble_eq_true rfl, Nat.le_of_ble_eq_true rfl⟩ dX3_pushCell_16 (fun x4 σ3 H locs hok hz hP hD hS => ?_)
  refine yVv (As := [.int x2, .int x4]) (cw := (cW o u cI cZ cJ T)) (ci := 3) S (v_X3_push l D cI cZ cJ o u T ra ga σ3 x2 x4 _ H.size hok) mi_X3_push kw_3_43 rfl rfl ⟨Nat.le_of_ble_eq_true rfl, Nat.le_of_ble_eq_true rfl⟩ hP hD hK hS hA hB cW_65 rfl rfl hl.1 (Nat.le_of_ble_eq_true rfl) ⟨Nat.le_of_ble_eq_true rfl, Nat.le_of_ble_eq_true rfl⟩ dX3_pushCell_19 (fun σ5 H locs hok hz hP hD hS => ?_)
  exact yEndv S hr hlocks hP hD hS (Nat.le_of_ble_eq_true rfl) (Nat.le_of_ble_eq_true rfl) dX3_pushCell_22 hok

set_option maxHeartbeats 8000000 in
set_option maxRecDepth 100000 in
theorem v_X3_get (l : Launch) (D : va_G) (cI cZ cJ : ClassId) (o : Nat) (u : Nat → Nat) (T : Nat) (ra : Nat → Nat) (ga : SG) (σ : FS) (a1 : Int32) (a2 : Int32) (Φ : FS → Prop) (sz : Nat) (hok : (wp_X3_get σ a1 a2 Φ)) : Met l yX3_get (uW yX3_get cX3_get 4 none) ({ frames := 4, cells := 0, slots := 0, locals := 89 }) (va_Pc [.ref (u 64), .int a1, .int a2] (aS ra ga D (tyL cI cZ cJ) (cW o u cI cZ cJ T σ) sz)) (yQv Φ D (cW o u cI cZ cJ T) (va_A (cW o u cI cZ cJ T σ) sz)) 0 0 (va_A (cW o u cI cZ cJ T σ) sz) := by
  refine aStart (lv := [(0, .ref (u 64)), (1, .int a1), (2, .int a2)]) (Qc := fun A => yQv Φ D (cW o u cI cZ cJ T) A) (by decide) (Nat.le_of_ble_eq_true rfl) rfl ?_
  intro p e s m args below meth c ls A H S hr hlocks hnm hl hK hP hD hS hA hB
  have hx := S.1
  have hb := S.2.1
  refine lv_aload_n hx hb dX3_get_0 rfl (lv_at hl 0 rfl) ?_
  refine xg (ci := 3) S inX3 rfl hK hP cW_65 2 (by decide) rfl kw_5_131 rfl dX3_get_1 ?_
  refine xg (ci := 4) S inX4 rfl hK hP cW_20 5 (by decide) rfl kw_4_99 rfl dX3_get_4 ?_
  refine lv_aload_n hx hb dX3_get_7 rfl (lv_at hl 0 rfl) ?_
  refine xg (ci := 3) S inX3 rfl hK hP cW_65 3 (by decide) rfl kw_5_132 rfl dX3_get_8 ?_
  refine xg (ci := 0) S inX0 rfl hK hP cW_52 10 (by decide) rfl kw_4_237 rfl dX3_get_11 ?_
  refine lv_iload_n hx hb dX3_get_14 rfl (lv_at hl 2 rfl) ?_
  have h_15 := hok.1
  have hok := hok.2
  refine xiald (t0 := 0) (v := (g σ 58 a2)) S hK hP cW_58 rfl h_15 rfl dX3_get_15 ?_
  have h_16 := hok.1
  have hok := hok.2
  refine xiald (t0 := 0) (v := (g σ 24 (g σ 58 a2))) S hK hP cW_24 rfl h_16 rfl dX3_get_16 ?_
  refine lv_topi (fun x1 ex1 => ?_)
  have hok := hok x1 ex1
  refine lv_istore_n (lv' := [(3, .int x1), (0, .ref (u 64)), (1, .int a1), (2, .int a2)]) hx hb dX3_get_17 rfl hl (by decide) rfl (fun ls hl => ?_)
  refine lv_iload_n hx hb dX3_get_18 rfl (lv_at hl 0 rfl) ?_
  refine lv_iconst (v := 1) hx hb dX3_get_19 (by decide) ?_
  refine lv_icmp_ne (tgt := 48) hx hb dX3_get_20 (by decide) (fun c_20 => ?_) (fun c_20 => ?_)
  · have hok := hok.2 c_20
    refine lv_iload_n hx hb dX3_get_48 rfl (lv_at hl 0 rfl) ?_
    refine lv_iconst (v := 2) hx hb dX3_get_49 (by decide) ?_
    refine lv_icmp_ne (tgt := 94) hx hb dX3_get_50 (by decide) (fun c_50 => ?_) (fun c_50 => ?_)
    · have hok := hok.2 c_50
      refine lv_aload_n hx hb dX3_get_94 rfl (lv_at hl 1 rfl) ?_
      refine lv_iload_n hx hb dX3_get_95 rfl (lv_at hl 2 rfl) ?_
      refine yVv (As := [.int a1]) (cw := (cW o u cI cZ cJ T)) (ci := 3) S (v_X3_pushCell l D cI cZ cJ o u T ra ga σ a1 _ H.size hok) mi_X3_pushCell kw_3_59 rfl rfl ⟨Nat.le_of_ble_eq_true rfl, Nat.le_of_ble_eq_true rfl⟩ hP hD hK hS hA hB cW_65 rfl rfl hl.1 (Nat.le_of_ble_eq_true rfl) ⟨Nat.le_of_ble_eq_true rfl, Nat.le_of_ble_eq_true rfl⟩ dX3_get_96 (fun σ2 H locs hok hz hP hD hS => ?_)
      exact yEndv S hr hlocks hP hD hS (Nat.le_of_ble_eq_true rfl) (Nat.le_of_ble_eq_true rfl) dX3_get_99 hok
    · have hok := hok.1 c_50
      refine lv_aload_n hx hb dX3_get_53 rfl (lv_at hl 1 rfl) ?_
      refine lv_aload_n hx hb dX3_get_54 rfl (lv_at hl 1 rfl) ?_
      refine xg (ci := 3) S inX3 rfl hK hP cW_65 12 (by decide) rfl kw_5_141 rfl dX3_get_55 ?_
      refine lv_aload_n hx hb dX3_get_58 rfl (lv_at hl 1 rfl) ?_
      refine xg (ci := 3) S inX3 rfl hK hP cW_65 14 (by decide) rfl kw_5_143 rfl dX3_get_59 ?_
      refine yVv (As := [.int (σ.1 65 12), .int (σ.1 65 14)]) (cw := (cW o u cI cZ cJ T)) (ci := 3) S (v_X3_keepReturn l D cI cZ cJ o u T ra ga σ (σ.1 65 12) (σ.1 65 14) _ H.size hok) mi_X3_keepReturn kw_2_220 rfl rfl ⟨Nat.le_of_ble_eq_true rfl, Nat.le_of_ble_eq_true rfl⟩ hP hD hK hS hA hB cW_65 rfl rfl hl.1 (Nat.le_of_ble_eq_true rfl) ⟨Nat.le_of_ble_eq_true rfl, Nat.le_of_ble_eq_true rfl⟩ dX3_get_62 (fun σ3 H locs hok hz hP hD hS => ?_)
      refine lv_aload_n hx hb dX3_get_65 rfl (lv_at hl 1 rfl) ?_
      refine lv_aload_n hx hb dX3_get_66 rfl (lv_at hl 1 rfl) ?_
      refine xg (ci := 3) S inX3 rfl hK hP cW_65 4 (by decide) rfl kw_5_133 rfl dX3_get_67 ?_
      refine lv_iload_n hx hb dX3_get_70 rfl (lv_at hl 2 rfl) ?_
      refine lv_iconst (v := 1) hx hb dX3_get_71 (by decide) ?_
      refine yVi (As := [.int a1, .int 1]) (cw := (cW o u cI cZ cJ T)) (ci := 7) S (v_X7_at_66 l D cI cZ cJ o u T ra ga σ3 a1 1 _ H.size hok) mi_X7_at kw_3_18 rfl rfl ⟨Nat.le_of_ble_eq_true rfl, Nat.le_of_ble_eq_true rfl⟩ hP hD hK hS hA hB cW_66 rfl rfl hl.1 (Nat.le_of_ble_eq_true rfl) ⟨Nat.le_of_ble_eq_true rfl, Nat.le_of_ble_eq_true rfl⟩ dX3_get_72 (fun x5 σ4 H locs hok hz hP hD hS => ?_)
      refine yp (ci := 3) (v := .int x5) (cw := (cW o u cI cZ cJ T)) S inX3 tyX3 tyX3_ok nmX3 rfl hK hP hD hS cW_65 13 (by decide) kw_5_142 rfl rfl rfl rfl (Nat.le_of_ble_eq_true rfl) dX3_get_75 cWp_65_13 (fun σ6 H locs eσ6 hP hD hS => ?_)
      have hok := hok σ6 eσ6
      refine lv_aload_n hx hb dX3_get_78 rfl (lv_at hl 1 rfl) ?_
      refine lv_aload_n hx hb dX3_get_79 rfl (lv_at hl 1 rfl) ?_
      refine xg (ci := 3) S inX3 rfl hK hP cW_65 4 (by decide) rfl kw_5_133 rfl dX3_get_80 ?_
      refine lv_iload_n hx hb dX3_get_83 rfl (lv_at hl 2 rfl) ?_
      refine lv_iconst (v := 0) hx hb dX3_get_84 (by decide) ?_
      refine yVi (As := [.int a1, .int 0]) (cw := (cW o u cI cZ cJ T)) (ci := 7) S (v_X7_at_66 l D cI cZ cJ o u T ra ga σ6 a1 0 _ H.size hok) mi_X7_at kw_3_18 rfl rfl ⟨Nat.le_of_ble_eq_true rfl, Nat.le_of_ble_eq_true rfl⟩ hP hD hK hS hA hB cW_66 rfl rfl hl.1 (Nat.le_of_ble_eq_true rfl) ⟨Nat.le_of_ble_eq_true rfl, Nat.le_of_ble_eq_true rfl⟩ dX3_get_85 (fun x8 σ7 H locs hok hz hP hD hS => ?_)
      refine yp (ci := 3) (v := .int x8) (cw := (cW o u cI cZ cJ T)) S inX3 tyX3 tyX3_ok nmX3 rfl hK hP hD hS cW_65 12 (by decide) kw_5_141 rfl rfl rfl rfl (Nat.le_of_ble_eq_true rfl) dX3_get_88 cWp_65_12 (fun σ9 H locs eσ9 hP hD hS => ?_)
      have hok := hok σ9 eσ9
      refine lv_goto (tgt := 99) hx hb dX3_get_91 (by decide) ?_
      exact yEndv S hr hlocks hP hD hS (Nat.le_of_ble_eq_true rfl) (Nat.le_of_ble_eq_true rfl) dX3_get_99 hok
  · have hok := hok.1 c_20
    refine lv_aload_n hx hb dX3_get_23 rfl (lv_at hl 1 rfl) ?_
    refine lv_aload_n hx hb dX3_get_24 rfl (lv_at hl 1 rfl) ?_
    refine xg (ci := 3) S inX3 rfl hK hP cW_65 4 (by decide) rfl kw_5_133 rfl dX3_get_25 ?_
    refine lv_aload_n hx hb dX3_get_28 rfl (lv_at hl 1 rfl) ?_
    refine xg (ci := 3) S inX3 rfl hK hP cW_65 4 (by decide) rfl kw_5_133 rfl dX3_get_29 ?_
    refine lv_iload_n hx hb dX3_get_32 rfl (lv_at hl 2 rfl) ?_
    refine lv_iconst (v := 0) hx hb dX3_get_33 (by decide) ?_
    refine yVi (As := [.int a1, .int 0]) (cw := (cW o u cI cZ cJ T)) (ci := 7) S (v_X7_at_66 l D cI cZ cJ o u T ra ga σ a1 0 _ H.size hok) mi_X7_at kw_3_18 rfl rfl ⟨Nat.le_of_ble_eq_true rfl, Nat.le_of_ble_eq_true rfl⟩ hP hD hK hS hA hB cW_66 rfl rfl hl.1 (Nat.le_of_ble_eq_true rfl) ⟨Nat.le_of_ble_eq_true rfl, Nat.le_of_ble_eq_true rfl⟩ dX3_get_34 (fun x11 σ10 H locs hok hz hP hD hS => ?_)
    refine lv_iconst (v := 0) hx hb dX3_get_37 (by decide) ?_
    refine yVi (As := [.int x11, .int 0]) (cw := (cW o u cI cZ cJ T)) (ci := 7) S (v_X7_at_66 l D cI cZ cJ o u T ra ga σ10 x11 0 _ H.size hok) mi_X7_at kw_3_18 rfl rfl ⟨Nat.le_of_ble_eq_true rfl, Nat.le_of_ble_eq_true rfl⟩ hP hD hK hS hA hB cW_66 rfl rfl hl.1 (Nat.le_of_ble_eq_true rfl) ⟨Nat.le_of_ble_eq_true rfl, Nat.le_of_ble_eq_true rfl⟩ dX3_get_38 (fun x13 σ12 H locs hok hz hP hD hS => ?_)
    refine lv_iconst (v := 0) hx hb dX3_get_41 (by decide) ?_
    refine yVv (As := [.int x13, .int 0]) (cw := (cW o u cI cZ cJ T)) (ci := 3) S (v_X3_push l D cI cZ cJ o u T ra ga σ12 x13 0 _ H.size hok) mi_X3_push kw_3_43 rfl rfl ⟨Nat.le_of_ble_eq_true rfl, Nat.le_of_ble_eq_true rfl⟩ hP hD hK hS hA hB cW_65 rfl rfl hl.1 (Nat.le_of_ble_eq_true rfl) ⟨Nat.le_of_ble_eq_true rfl, Nat.le_of_ble_eq_true rfl⟩ dX3_get_42 (fun σ14 H locs hok hz hP hD hS => ?_)
    refine lv_goto (tgt := 99) hx hb dX3_get_45 (by decide) ?_
    exact yEndv S hr hlocks hP hD hS (Nat.le_of_ble_eq_true rfl) (Nat.le_of_ble_eq_true rfl) dX3_get_99 hok

set_option maxHeartbeats 8000000 in
set_option maxRecDepth 100000 in
theorem v_X3_pop (l : Launch) (D : va_G) (cI cZ cJ : ClassId) (o : Nat) (u : Nat → Nat) (T : Nat) (ra : Nat → Nat) (ga : SG) (σ : FS) (Φ : Int32 → FS → Prop) (sz : Nat) (hok : (wp_X3_pop σ Φ)) : Met l yX3_pop (uW yX3_pop cX3_pop 2 (some .int)) ({ frames := 2, cells := 0, slots := 0, locals := 44 }) (va_Pc [.ref (u 64)] (aS ra ga D (tyL cI cZ cJ) (cW o u cI cZ cJ T σ) sz)) (yQi Φ D (cW o u cI cZ cJ T) (va_A (cW o u cI cZ cJ T σ) sz)) 0 0 (va_A (cW o u cI cZ cJ T σ) sz) := by
  refine aStart (lv := [(0, .ref (u 64))]) (Qc := fun A => yQi Φ D (cW o u cI cZ cJ T) A) (by decide) (Nat.le_of_ble_eq_true rfl) rfl ?_
  intro p e s m args below meth c ls A H S hr hlocks hnm hl hK hP hD hS hA hB
  have hx := S.1
  have hb := S.2.1
  refine lv_aload_n hx hb dX3_pop_0 rfl (lv_at hl 0 rfl) ?_
  refine xg (ci := 3) S inX3 rfl hK hP cW_65 5 (by decide) rfl kw_5_134 rfl dX3_pop_1 ?_
  refine lv_aload_n hx hb dX3_pop_4 rfl (lv_at hl 0 rfl) ?_
  refine xg (ci := 3) S inX3 rfl hK hP cW_65 5 (by decide) rfl kw_5_134 rfl dX3_pop_5 ?_
  refine xg (ci := 7) S inX7 rfl hK hP cW_68 2 (by decide) rfl kw_5_57 rfl dX3_pop_8 ?_
  refine lv_iconst (v := 1) hx hb dX3_pop_11 (by decide) ?_
  refine xisub (v := (σ.1 68 2) - 1) S dX3_pop_12 rfl ?_
  refine lv_iconst (v := 0) hx hb dX3_pop_13 (by decide) ?_
  refine yVi (As := [.int ((σ.1 68 2) - 1), .int 0]) (cw := (cW o u cI cZ cJ T)) (ci := 7) S (v_X7_at_68 l D cI cZ cJ o u T ra ga σ ((σ.1 68 2) - 1) 0 _ H.size hok) mi_X7_at kw_3_18 rfl rfl ⟨Nat.le_of_ble_eq_true rfl, Nat.le_of_ble_eq_true rfl⟩ hP hD hK hS hA hB cW_68 rfl rfl hl.1 (Nat.le_of_ble_eq_true rfl) ⟨Nat.le_of_ble_eq_true rfl, Nat.le_of_ble_eq_true rfl⟩ dX3_pop_14 (fun x2 σ1 H locs hok hz hP hD hS => ?_)
  refine lv_istore_n (lv' := [(1, .int x2), (0, .ref (u 64))]) hx hb dX3_pop_17 rfl hl (by decide) rfl (fun ls hl => ?_)
  refine lv_aload_n hx hb dX3_pop_18 rfl (lv_at hl 1 rfl) ?_
  refine xg (ci := 3) S inX3 rfl hK hP cW_65 5 (by decide) rfl kw_5_134 rfl dX3_pop_19 ?_
  refine lv_aload_n hx hb dX3_pop_22 rfl (lv_at hl 1 rfl) ?_
  refine xg (ci := 3) S inX3 rfl hK hP cW_65 5 (by decide) rfl kw_5_134 rfl dX3_pop_23 ?_
  refine xg (ci := 7) S inX7 rfl hK hP cW_68 2 (by decide) rfl kw_5_57 rfl dX3_pop_26 ?_
  refine lv_iconst (v := 1) hx hb dX3_pop_29 (by decide) ?_
  refine xisub (v := (σ1.1 68 2) - 1) S dX3_pop_30 rfl ?_
  refine yVv (As := [.int ((σ1.1 68 2) - 1)]) (cw := (cW o u cI cZ cJ T)) (ci := 7) S (v_X7_cut_68 l D cI cZ cJ o u T ra ga σ1 ((σ1.1 68 2) - 1) _ H.size hok) mi_X7_cut kw_2_212 rfl rfl ⟨Nat.le_of_ble_eq_true rfl, Nat.le_of_ble_eq_true rfl⟩ hP hD hK hS hA hB cW_68 rfl rfl hl.1 (Nat.le_of_ble_eq_true rfl) ⟨Nat.le_of_ble_eq_true rfl, Nat.le_of_ble_eq_true rfl⟩ dX3_pop_31 (fun σ3 H locs hok hz hP hD hS => ?_)
  refine lv_iload_n hx hb dX3_pop_34 rfl (lv_at hl 0 rfl) ?_
  exact yEnd S hr hlocks hP hD hS (Nat.le_of_ble_eq_true rfl) (Nat.le_of_ble_eq_true rfl) dX3_pop_35 hok

set_option maxHeartbeats 8000000 in
set_option maxRecDepth 100000 in
theorem v_X3_pick_t84 (l : Launch) (D : va_G) (cI cZ cJ : ClassId) (o : Nat) (u : Nat → Nat) (ra : Nat → Nat) (ga : SG) (σ : FS) (a1 : Int32) (a2 : Int32) (a3 : Int32) (Φ : FS → Prop) (sz : Nat) (hok : (wp_X3_pick 84 σ a1 a2 a3 Φ)) : Met l yX3_pick (uW yX3_pick cX3_pick 6 none) ({ frames := 3, cells := 0, slots := 0, locals := 68 }) (va_Pc [.ref (u 64), .int a1, .int a2, .int a3] (aS ra ga D (tyL cI cZ cJ) (cW o u cI cZ cJ 83 σ) sz)) (yQv Φ D (cW o u cI cZ cJ 83) (va_A (cW o u cI cZ cJ 83 σ) sz)) 0 0 (va_A (cW o u cI cZ cJ 83 σ) sz) := by
  refine aStart (lv := [(0, .ref (u 64)), (1, .int a1), (2, .int a2), (3, .int a3)]) (Qc := fun A => yQv Φ D (cW o u cI cZ cJ 83) A) (by decide) (Nat.le_of_ble_eq_true rfl) rfl ?_
  intro p e s m args below meth c ls A H S hr hlocks hnm hl hK hP hD hS hA hB
  have hx := S.1
  have hb := S.2.1
  refine lv_aload_n hx hb dX3_pick_0 rfl (lv_at hl 0 rfl) ?_
  refine yVi (As := []) (cw := (cW o u cI cZ cJ 83)) (ci := 3) S (v_X3_pop l D cI cZ cJ o u 83 ra ga σ _ H.size hok) mi_X3_pop kw_3_67 rfl rfl ⟨Nat.le_of_ble_eq_true rfl, Nat.le_of_ble_eq_true rfl⟩ hP hD hK hS hA hB cW_65 rfl rfl hl.1 (Nat.le_of_ble_eq_true rfl) ⟨Nat.le_of_ble_eq_true rfl, Nat.le_of_ble_eq_true rfl⟩ dX3_pick_1 (fun x2 σ1 H locs hok hz hP hD hS => ?_)
  refine lv_istore (lv' := [(4, .int x2), (0, .ref (u 64)), (1, .int a1), (2, .int a2), (3, .int a3)]) hx hb dX3_pick_4 hl (by decide) rfl (fun ls hl => ?_)
  refine lv_aload_n hx hb dX3_pick_6 rfl (lv_at hl 1 rfl) ?_
  refine xg (ci := 3) S inX3 rfl hK hP cW_65 4 (by decide) rfl kw_5_133 rfl dX3_pick_7 ?_
  refine lv_iload_n hx hb dX3_pick_10 rfl (lv_at hl 2 rfl) ?_
  refine lv_iconst (v := 0) hx hb dX3_pick_11 (by decide) ?_
  refine yVi (As := [.int a1, .int 0]) (cw := (cW o u cI cZ cJ 83)) (ci := 7) S (v_X7_at_66 l D cI cZ cJ o u 83 ra ga σ1 a1 0 _ H.size hok) mi_X7_at kw_3_18 rfl rfl ⟨Nat.le_of_ble_eq_true rfl, Nat.le_of_ble_eq_true rfl⟩ hP hD hK hS hA hB cW_66 rfl rfl hl.1 (Nat.le_of_ble_eq_true rfl) ⟨Nat.le_of_ble_eq_true rfl, Nat.le_of_ble_eq_true rfl⟩ dX3_pick_12 (fun x4 σ3 H locs hok hz hP hD hS => ?_)
  refine lv_iload hx hb dX3_pick_15 (lv_at hl 0 rfl) ?_
  refine xiadd (v := x4 + x2) S dX3_pick_17 rfl ?_
  refine lv_topi (fun x5 ex5 => ?_)
  have hok := hok x5 ex5
  refine lv_istore (lv' := [(5, .int x5), (4, .int x2), (0, .ref (u 64)), (1, .int a1), (2, .int a2), (3, .int a3)]) hx hb dX3_pick_18 hl (by decide) rfl (fun ls hl => ?_)
  refine lv_iload hx hb dX3_pick_20 (lv_at hl 1 rfl) ?_
  refine lv_if_lt (tgt := 39) hx hb dX3_pick_22 (by decide) (fun c_22 => ?_) (fun c_22 => ?_)
  · have hok := hok.1 c_22
    refine lv_aload_n hx hb dX3_pick_39 rfl (lv_at hl 2 rfl) ?_
    refine lv_iconst (v := 2) hx hb dX3_pick_40 (by decide) ?_
    refine lv_aload_n hx hb dX3_pick_41 rfl (lv_at hl 2 rfl) ?_
    refine xg (ci := 3) S inX3 rfl hK hP cW_65 3 (by decide) rfl kw_5_132 rfl dX3_pick_42 ?_
    refine xg (ci := 0) S inX0 rfl hK hP cW_52 10 (by decide) rfl kw_4_237 rfl dX3_pick_45 ?_
    refine lv_iload_n hx hb dX3_pick_48 rfl (lv_at hl 4 rfl) ?_
    have h_49 := hok.1
    have hok := hok.2
    refine xiald (t0 := 0) (v := (g σ3 58 a2)) S hK hP cW_58 rfl h_49 rfl dX3_pick_49 ?_
    refine yVv (As := [.int 2, .int (g σ3 58 a2)]) (cw := (cW o u cI cZ cJ 83)) (ci := 3) S (v_X3_trap_t84 l D cI cZ cJ o u ra ga σ3 2 (g σ3 58 a2) _ H.size hok) mi_X3_trap kw_3_35 rfl rfl ⟨Nat.le_of_ble_eq_true rfl, Nat.le_of_ble_eq_true rfl⟩ hP hD hK hS hA hB cW_65 rfl rfl hl.1 (Nat.le_of_ble_eq_true rfl) ⟨Nat.le_of_ble_eq_true rfl, Nat.le_of_ble_eq_true rfl⟩ dX3_pick_50 (fun σ6 H locs hok hz hP hD hS => ?_)
    refine lv_goto (tgt := 80) hx hb dX3_pick_53 (by decide) ?_
    exact yEndv S hr hlocks hP hD hS (Nat.le_of_ble_eq_true rfl) (Nat.le_of_ble_eq_true rfl) dX3_pick_80 hok
  · have hok := hok.2 c_22
    refine lv_iload hx hb dX3_pick_25 (lv_at hl 1 rfl) ?_
    refine lv_aload_n hx hb dX3_pick_27 rfl (lv_at hl 2 rfl) ?_
    refine xg (ci := 3) S inX3 rfl hK hP cW_65 4 (by decide) rfl kw_5_133 rfl dX3_pick_28 ?_
    refine lv_iload_n hx hb dX3_pick_31 rfl (lv_at hl 3 rfl) ?_
    refine lv_iconst (v := 1) hx hb dX3_pick_32 (by decide) ?_
    refine yVi (As := [.int a1, .int 1]) (cw := (cW o u cI cZ cJ 83)) (ci := 7) S (v_X7_at_66 l D cI cZ cJ o u 83 ra ga σ3 a1 1 _ H.size hok) mi_X7_at kw_3_18 rfl rfl ⟨Nat.le_of_ble_eq_true rfl, Nat.le_of_ble_eq_true rfl⟩ hP hD hK hS hA hB cW_66 rfl rfl hl.1 (Nat.le_of_ble_eq_true rfl) ⟨Nat.le_of_ble_eq_true rfl, Nat.le_of_ble_eq_true rfl⟩ dX3_pick_33 (fun x8 σ7 H locs hok hz hP hD hS => ?_)
    refine lv_icmp_lt (tgt := 56) hx hb dX3_pick_36 (by decide) (fun c_36 => ?_) (fun c_36 => ?_)
    · have hok := hok.1 c_36
      refine lv_aload_n hx hb dX3_pick_56 rfl (lv_at hl 2 rfl) ?_
      refine lv_iload_n hx hb dX3_pick_57 rfl (lv_at hl 5 rfl) ?_
      refine lv_if_eq (tgt := 66) hx hb dX3_pick_58 (by decide) (fun c_58 => ?_) (fun c_58 => ?_)
      · have hok := hok.1 c_58
        refine lv_aload_n hx hb dX3_pick_66 rfl (lv_at hl 2 rfl) ?_
        refine xg (ci := 3) S inX3 rfl hK hP cW_65 4 (by decide) rfl kw_5_133 rfl dX3_pick_67 ?_
        refine lv_iload hx hb dX3_pick_70 (lv_at hl 0 rfl) ?_
        refine lv_iconst (v := 0) hx hb dX3_pick_72 (by decide) ?_
        refine yVi (As := [.int x5, .int 0]) (cw := (cW o u cI cZ cJ 83)) (ci := 7) S (v_X7_at_66 l D cI cZ cJ o u 83 ra ga σ7 x5 0 _ H.size hok) mi_X7_at kw_3_18 rfl rfl ⟨Nat.le_of_ble_eq_true rfl, Nat.le_of_ble_eq_true rfl⟩ hP hD hK hS hA hB cW_66 rfl rfl hl.1 (Nat.le_of_ble_eq_true rfl) ⟨Nat.le_of_ble_eq_true rfl, Nat.le_of_ble_eq_true rfl⟩ dX3_pick_73 (fun x10 σ9 H locs hok hz hP hD hS => ?_)
        refine lv_iconst (v := 0) hx hb dX3_pick_76 (by decide) ?_
        refine yVv (As := [.int x10, .int 0]) (cw := (cW o u cI cZ cJ 83)) (ci := 3) S (v_X3_push l D cI cZ cJ o u 83 ra ga σ9 x10 0 _ H.size hok) mi_X3_push kw_3_43 rfl rfl ⟨Nat.le_of_ble_eq_true rfl, Nat.le_of_ble_eq_true rfl⟩ hP hD hK hS hA hB cW_65 rfl rfl hl.1 (Nat.le_of_ble_eq_true rfl) ⟨Nat.le_of_ble_eq_true rfl, Nat.le_of_ble_eq_true rfl⟩ dX3_pick_77 (fun σ11 H locs hok hz hP hD hS => ?_)
        exact yEndv S hr hlocks hP hD hS (Nat.le_of_ble_eq_true rfl) (Nat.le_of_ble_eq_true rfl) dX3_pick_80 hok
      · have hok := hok.2 c_58
        refine lv_iload hx hb dX3_pick_61 (lv_at hl 0 rfl) ?_
        refine lv_goto (tgt := 76) hx hb dX3_pick_63 (by decide) ?_
        refine lv_iconst (v := 0) hx hb dX3_pick_76 (by decide) ?_
        refine yVv (As := [.int x5, .int 0]) (cw := (cW o u cI cZ cJ 83)) (ci := 3) S (v_X3_push l D cI cZ cJ o u 83 ra ga σ7 x5 0 _ H.size hok) mi_X3_push kw_3_43 rfl rfl ⟨Nat.le_of_ble_eq_true rfl, Nat.le_of_ble_eq_true rfl⟩ hP hD hK hS hA hB cW_65 rfl rfl hl.1 (Nat.le_of_ble_eq_true rfl) ⟨Nat.le_of_ble_eq_true rfl, Nat.le_of_ble_eq_true rfl⟩ dX3_pick_77 (fun σ12 H locs hok hz hP hD hS => ?_)
        exact yEndv S hr hlocks hP hD hS (Nat.le_of_ble_eq_true rfl) (Nat.le_of_ble_eq_true rfl) dX3_pick_80 hok
    · have hok := hok.2 c_36
      refine lv_aload_n hx hb dX3_pick_39 rfl (lv_at hl 2 rfl) ?_
      refine lv_iconst (v := 2) hx hb dX3_pick_40 (by decide) ?_
      refine lv_aload_n hx hb dX3_pick_41 rfl (lv_at hl 2 rfl) ?_
      refine xg (ci := 3) S inX3 rfl hK hP cW_65 3 (by decide) rfl kw_5_132 rfl dX3_pick_42 ?_
      refine xg (ci := 0) S inX0 rfl hK hP cW_52 10 (by decide) rfl kw_4_237 rfl dX3_pick_45 ?_
      refine lv_iload_n hx hb dX3_pick_48 rfl (lv_at hl 4 rfl) ?_
      have h_49 := hok.1
      have hok := hok.2
      refine xiald (t0 := 0) (v := (g σ7 58 a2)) S hK hP cW_58 rfl h_49 rfl dX3_pick_49 ?_
      refine yVv (As := [.int 2, .int (g σ7 58 a2)]) (cw := (cW o u cI cZ cJ 83)) (ci := 3) S (v_X3_trap_t84 l D cI cZ cJ o u ra ga σ7 2 (g σ7 58 a2) _ H.size hok) mi_X3_trap kw_3_35 rfl rfl ⟨Nat.le_of_ble_eq_true rfl, Nat.le_of_ble_eq_true rfl⟩ hP hD hK hS hA hB cW_65 rfl rfl hl.1 (Nat.le_of_ble_eq_true rfl) ⟨Nat.le_of_ble_eq_true rfl, Nat.le_of_ble_eq_true rfl⟩ dX3_pick_50 (fun σ13 H locs hok hz hP hD hS => ?_)
      refine lv_goto (tgt := 80) hx hb dX3_pick_53 (by decide) ?_
      exact yEndv S hr hlocks hP hD hS (Nat.le_of_ble_eq_true rfl) (Nat.le_of_ble_eq_true rfl) dX3_pick_80 hok

set_option maxHeartbeats 8000000 in
set_option maxRecDepth 100000 in
theorem v_X3_reckon_t84 (l : Launch) (D : va_G) (cI cZ cJ : ClassId) (o : Nat) (u : Nat → Nat) (ra : Nat → Nat) (ga : SG) (σ : FS) (a1 : Int32) (a2 : Int32) (Φ : FS → Prop) (sz : Nat) (hok : (wp_X3_reckon 84 σ a1 a2 Φ)) : Met l yX3_reckon (uW yX3_reckon cX3_reckon 5 none) ({ frames := 3, cells := 0, slots := 0, locals := 68 }) (va_Pc [.ref (u 64), .int a1, .int a2] (aS ra ga D (tyL cI cZ cJ) (cW o u cI cZ cJ 83 σ) sz)) (yQv Φ D (cW o u cI cZ cJ 83) (va_A (cW o u cI cZ cJ 83 σ) sz)) 0 0 (va_A (cW o u cI cZ cJ 83 σ) sz) := by
  refine aStart (lv := [(0, .ref (u 64)), (1, .int a1), (2, .int a2)]) (Qc := fun A => yQv Φ D (cW o u cI cZ cJ 83) A) (by decide) (Nat.le_of_ble_eq_true rfl) rfl ?_
  intro p e s m args below meth c ls A H S hr hlocks hnm hl hK hP hD hS hA hB
  have hx := S.1
  have hb := S.2.1
  refine lv_aload_n hx hb dX3_reckon_0 rfl (lv_at hl 0 rfl) ?_
  refine yVi (As := []) (cw := (cW o u cI cZ cJ 83)) (ci := 3) S (v_X3_pop l D cI cZ cJ o u 83 ra ga σ _ H.size hok) mi_X3_pop kw_3_67 rfl rfl ⟨Nat.le_of_ble_eq_true rfl, Nat.le_of_ble_eq_true rfl⟩ hP hD hK hS hA hB cW_65 rfl rfl hl.1 (Nat.le_of_ble_eq_true rfl) ⟨Nat.le_of_ble_eq_true rfl, Nat.le_of_ble_eq_true rfl⟩ dX3_reckon_1 (fun x2 σ1 H locs hok hz hP hD hS => ?_)
  refine lv_istore_n (lv' := [(3, .int x2), (0, .ref (u 64)), (1, .int a1), (2, .int a2)]) hx hb dX3_reckon_4 rfl hl (by decide) rfl (fun ls hl => ?_)
  refine lv_aload_n hx hb dX3_reckon_5 rfl (lv_at hl 1 rfl) ?_
  refine yVi (As := []) (cw := (cW o u cI cZ cJ 83)) (ci := 3) S (v_X3_pop l D cI cZ cJ o u 83 ra ga σ1 _ H.size hok) mi_X3_pop kw_3_67 rfl rfl ⟨Nat.le_of_ble_eq_true rfl, Nat.le_of_ble_eq_true rfl⟩ hP hD hK hS hA hB cW_65 rfl rfl hl.1 (Nat.le_of_ble_eq_true rfl) ⟨Nat.le_of_ble_eq_true rfl, Nat.le_of_ble_eq_true rfl⟩ dX3_reckon_6 (fun x4 σ3 H locs hok hz hP hD hS => ?_)
  refine lv_istore (lv' := [(4, .int x4), (3, .int x2), (0, .ref (u 64)), (1, .int a1), (2, .int a2)]) hx hb dX3_reckon_9 hl (by decide) rfl (fun ls hl => ?_)
  refine lv_iload_n hx hb dX3_reckon_11 rfl (lv_at hl 4 rfl) ?_
  refine lv_iconst (v := 1) hx hb dX3_reckon_12 (by decide) ?_
  refine xisub (v := a2 - 1) S dX3_reckon_13 rfl ?_
  refine lv_bipush (v := 6) hx hb dX3_reckon_14 (by decide) ?_
  refine lv_icmp_ne (tgt := 40) hx hb dX3_reckon_16 (by decide) (fun c_16 => ?_) (fun c_16 => ?_)
  · have hok := hok.2 c_16
    refine lv_aload_n hx hb dX3_reckon_40 rfl (lv_at hl 2 rfl) ?_
    refine lv_iload_n hx hb dX3_reckon_41 rfl (lv_at hl 4 rfl) ?_
    refine lv_iconst (v := 1) hx hb dX3_reckon_42 (by decide) ?_
    refine xisub (v := a2 - 1) S dX3_reckon_43 rfl ?_
    refine lv_iload hx hb dX3_reckon_44 (lv_at hl 0 rfl) ?_
    refine lv_iload_n hx hb dX3_reckon_46 rfl (lv_at hl 1 rfl) ?_
    refine ySi (As := [.int (a2 - 1), .int x4, .int x2]) (cw := (cW o u cI cZ cJ 83)) S (v_X4_reckon l D cI cZ cJ o u 83 ra ga σ3 (a2 - 1) x4 x2 _ H.size hok) ms_X4_reckon kw_3_129 rfl rfl ⟨Nat.le_of_ble_eq_true rfl, Nat.le_of_ble_eq_true rfl⟩ hP hD hK hS hA hB hl.1 (Nat.le_of_ble_eq_true rfl) ⟨Nat.le_of_ble_eq_true rfl, Nat.le_of_ble_eq_true rfl⟩ dX3_reckon_47 (fun x6 σ5 H locs hok hz hP hD hS => ?_)
    refine lv_iconst (v := 0) hx hb dX3_reckon_50 (by decide) ?_
    refine yVv (As := [.int x6, .int 0]) (cw := (cW o u cI cZ cJ 83)) (ci := 3) S (v_X3_push l D cI cZ cJ o u 83 ra ga σ5 x6 0 _ H.size hok) mi_X3_push kw_3_43 rfl rfl ⟨Nat.le_of_ble_eq_true rfl, Nat.le_of_ble_eq_true rfl⟩ hP hD hK hS hA hB cW_65 rfl rfl hl.1 (Nat.le_of_ble_eq_true rfl) ⟨Nat.le_of_ble_eq_true rfl, Nat.le_of_ble_eq_true rfl⟩ dX3_reckon_51 (fun σ7 H locs hok hz hP hD hS => ?_)
    exact yEndv S hr hlocks hP hD hS (Nat.le_of_ble_eq_true rfl) (Nat.le_of_ble_eq_true rfl) dX3_reckon_54 hok
  · have hok := hok.1 c_16
    refine lv_iload_n hx hb dX3_reckon_19 rfl (lv_at hl 1 rfl) ?_
    refine lv_if_ne (tgt := 40) hx hb dX3_reckon_20 (by decide) (fun c_20 => ?_) (fun c_20 => ?_)
    · have hok := hok.2 c_20
      refine lv_aload_n hx hb dX3_reckon_40 rfl (lv_at hl 2 rfl) ?_
      refine lv_iload_n hx hb dX3_reckon_41 rfl (lv_at hl 4 rfl) ?_
      refine lv_iconst (v := 1) hx hb dX3_reckon_42 (by decide) ?_
      refine xisub (v := a2 - 1) S dX3_reckon_43 rfl ?_
      refine lv_iload hx hb dX3_reckon_44 (lv_at hl 0 rfl) ?_
      refine lv_iload_n hx hb dX3_reckon_46 rfl (lv_at hl 1 rfl) ?_
      refine ySi (As := [.int (a2 - 1), .int x4, .int x2]) (cw := (cW o u cI cZ cJ 83)) S (v_X4_reckon l D cI cZ cJ o u 83 ra ga σ3 (a2 - 1) x4 x2 _ H.size hok) ms_X4_reckon kw_3_129 rfl rfl ⟨Nat.le_of_ble_eq_true rfl, Nat.le_of_ble_eq_true rfl⟩ hP hD hK hS hA hB hl.1 (Nat.le_of_ble_eq_true rfl) ⟨Nat.le_of_ble_eq_true rfl, Nat.le_of_ble_eq_true rfl⟩ dX3_reckon_47 (fun x9 σ8 H locs hok hz hP hD hS => ?_)
      refine lv_iconst (v := 0) hx hb dX3_reckon_50 (by decide) ?_
      refine yVv (As := [.int x9, .int 0]) (cw := (cW o u cI cZ cJ 83)) (ci := 3) S (v_X3_push l D cI cZ cJ o u 83 ra ga σ8 x9 0 _ H.size hok) mi_X3_push kw_3_43 rfl rfl ⟨Nat.le_of_ble_eq_true rfl, Nat.le_of_ble_eq_true rfl⟩ hP hD hK hS hA hB cW_65 rfl rfl hl.1 (Nat.le_of_ble_eq_true rfl) ⟨Nat.le_of_ble_eq_true rfl, Nat.le_of_ble_eq_true rfl⟩ dX3_reckon_51 (fun σ10 H locs hok hz hP hD hS => ?_)
      exact yEndv S hr hlocks hP hD hS (Nat.le_of_ble_eq_true rfl) (Nat.le_of_ble_eq_true rfl) dX3_reckon_54 hok
    · have hok := hok.1 c_20
      refine lv_aload_n hx hb dX3_reckon_23 rfl (lv_at hl 2 rfl) ?_
      refine lv_iconst (v := 1) hx hb dX3_reckon_24 (by decide) ?_
      refine lv_aload_n hx hb dX3_reckon_25 rfl (lv_at hl 2 rfl) ?_
      refine xg (ci := 3) S inX3 rfl hK hP cW_65 3 (by decide) rfl kw_5_132 rfl dX3_reckon_26 ?_
      refine xg (ci := 0) S inX0 rfl hK hP cW_52 10 (by decide) rfl kw_4_237 rfl dX3_reckon_29 ?_
      refine lv_iload_n hx hb dX3_reckon_32 rfl (lv_at hl 3 rfl) ?_
      have h_33 := hok.1
      have hok := hok.2
      refine xiald (t0 := 0) (v := (g σ3 58 a1)) S hK hP cW_58 rfl h_33 rfl dX3_reckon_33 ?_
      refine yVv (As := [.int 1, .int (g σ3 58 a1)]) (cw := (cW o u cI cZ cJ 83)) (ci := 3) S (v_X3_trap_t84 l D cI cZ cJ o u ra ga σ3 1 (g σ3 58 a1) _ H.size hok) mi_X3_trap kw_3_35 rfl rfl ⟨Nat.le_of_ble_eq_true rfl, Nat.le_of_ble_eq_true rfl⟩ hP hD hK hS hA hB cW_65 rfl rfl hl.1 (Nat.le_of_ble_eq_true rfl) ⟨Nat.le_of_ble_eq_true rfl, Nat.le_of_ble_eq_true rfl⟩ dX3_reckon_34 (fun σ11 H locs hok hz hP hD hS => ?_)
      refine lv_goto (tgt := 54) hx hb dX3_reckon_37 (by decide) ?_
      exact yEndv S hr hlocks hP hD hS (Nat.le_of_ble_eq_true rfl) (Nat.le_of_ble_eq_true rfl) dX3_reckon_54 hok

set_option maxHeartbeats 8000000 in
set_option maxRecDepth 100000 in
theorem v_X3_go_t84 (l : Launch) (D : va_G) (cI cZ cJ : ClassId) (o : Nat) (u : Nat → Nat) (ra : Nat → Nat) (ga : SG) (σ : FS) (a1 : Int32) (Φ : FS → Prop) (sz : Nat) (hok : (wp_X3_go 84 σ a1 Φ)) : Met l yX3_go (uW yX3_go cX3_go 4 none) ({ frames := 4, cells := 0, slots := 0, locals := 97 }) (va_Pc [.ref (u 64), .int a1] (aS ra ga D (tyL cI cZ cJ) (cW o u cI cZ cJ 83 σ) sz)) (yQv Φ D (cW o u cI cZ cJ 83) (va_A (cW o u cI cZ cJ 83 σ) sz)) 0 0 (va_A (cW o u cI cZ cJ 83 σ) sz) := by
  refine aStart (lv := [(0, .ref (u 64)), (1, .int a1)]) (Qc := fun A => yQv Φ D (cW o u cI cZ cJ 83) A) (by decide) (Nat.le_of_ble_eq_true rfl) rfl ?_
  intro p e s m args below meth c ls A H S hr hlocks hnm hl hK hP hD hS hA hB
  have hx := S.1
  have hb := S.2.1
  refine lv_aload_n hx hb dX3_go_0 rfl (lv_at hl 0 rfl) ?_
  refine xg (ci := 3) S inX3 rfl hK hP cW_65 3 (by decide) rfl kw_5_132 rfl dX3_go_1 ?_
  refine xg (ci := 0) S inX0 rfl hK hP cW_52 10 (by decide) rfl kw_4_237 rfl dX3_go_4 ?_
  refine lv_iload_n hx hb dX3_go_7 rfl (lv_at hl 1 rfl) ?_
  have h_8 := hok.1
  have hok := hok.2
  refine xiald (t0 := 0) (v := (g σ 58 a1)) S hK hP cW_58 rfl h_8 rfl dX3_go_8 ?_
  refine lv_topi (fun x1 ex1 => ?_)
  have hok := hok x1 ex1
  refine lv_istore_n (lv' := [(2, .int x1), (0, .ref (u 64)), (1, .int a1)]) hx hb dX3_go_9 rfl hl (by decide) rfl (fun ls hl => ?_)
  refine lv_aload_n hx hb dX3_go_10 rfl (lv_at hl 1 rfl) ?_
  refine xg (ci := 3) S inX3 rfl hK hP cW_65 15 (by decide) rfl kw_5_144 rfl dX3_go_11 ?_
  refine lv_aload_n hx hb dX3_go_14 rfl (lv_at hl 1 rfl) ?_
  refine xg (ci := 3) S inX3 rfl hK hP cW_65 11 (by decide) rfl kw_5_140 rfl dX3_go_15 ?_
  refine lv_icmp_lt (tgt := 29) hx hb dX3_go_18 (by decide) (fun c_18 => ?_) (fun c_18 => ?_)
  · have hok := hok.1 c_18
    refine lv_aload_n hx hb dX3_go_29 rfl (lv_at hl 1 rfl) ?_
    refine lv_aload_n hx hb dX3_go_30 rfl (lv_at hl 1 rfl) ?_
    refine xg (ci := 3) S inX3 rfl hK hP cW_65 3 (by decide) rfl kw_5_132 rfl dX3_go_31 ?_
    refine xg (ci := 0) S inX0 rfl hK hP cW_52 8 (by decide) rfl kw_4_231 rfl dX3_go_34 ?_
    refine lv_iload_n hx hb dX3_go_37 rfl (lv_at hl 2 rfl) ?_
    have h_38 := hok.1
    have hok := hok.2
    refine xiald (t0 := 0) (v := (g σ 56 a1)) S hK hP cW_56 rfl h_38 rfl dX3_go_38 ?_
    refine yVi (As := [.int (g σ 56 a1)]) (cw := (cW o u cI cZ cJ 83)) (ci := 3) S (v_X3_frameAt l D cI cZ cJ o u 83 ra ga σ (g σ 56 a1) _ H.size hok) mi_X3_frameAt kw_3_51 rfl rfl ⟨Nat.le_of_ble_eq_true rfl, Nat.le_of_ble_eq_true rfl⟩ hP hD hK hS hA hB cW_65 rfl rfl hl.1 (Nat.le_of_ble_eq_true rfl) ⟨Nat.le_of_ble_eq_true rfl, Nat.le_of_ble_eq_true rfl⟩ dX3_go_39 (fun x3 σ2 H locs hok hz hP hD hS => ?_)
    refine lv_istore_n (lv' := [(3, .int x3), (2, .int x1), (0, .ref (u 64)), (1, .int a1)]) hx hb dX3_go_42 rfl hl (by decide) rfl (fun ls hl => ?_)
    refine lv_aload_n hx hb dX3_go_43 rfl (lv_at hl 2 rfl) ?_
    refine xg (ci := 3) S inX3 rfl hK hP cW_65 1 (by decide) rfl kw_5_130 rfl dX3_go_44 ?_
    refine xg (ci := 5) S inX5 rfl hK hP cW_13 5 (by decide) rfl kw_4_63 rfl dX3_go_47 ?_
    refine lv_iload_n hx hb dX3_go_50 rfl (lv_at hl 1 rfl) ?_
    have h_51 := hok.1
    have hok := hok.2
    refine xiald (t0 := 0) (v := (g σ2 18 x1)) S hK hP cW_18 rfl h_51 rfl dX3_go_51 ?_
    refine lv_iconst (v := (-1)) hx hb dX3_go_52 (by decide) ?_
    refine lv_icmp_eq (tgt := 133) hx hb dX3_go_53 (by decide) (fun c_53 => ?_) (fun c_53 => ?_)
    · have hok := hok.1 c_53
      refine lv_aload_n hx hb dX3_go_133 rfl (lv_at hl 2 rfl) ?_
      refine lv_aload_n hx hb dX3_go_134 rfl (lv_at hl 2 rfl) ?_
      refine xg (ci := 3) S inX3 rfl hK hP cW_65 12 (by decide) rfl kw_5_141 rfl dX3_go_135 ?_
      refine lv_aload_n hx hb dX3_go_138 rfl (lv_at hl 2 rfl) ?_
      refine xg (ci := 3) S inX3 rfl hK hP cW_65 14 (by decide) rfl kw_5_143 rfl dX3_go_139 ?_
      refine yVv (As := [.int (σ2.1 65 12), .int (σ2.1 65 14)]) (cw := (cW o u cI cZ cJ 83)) (ci := 3) S (v_X3_keepReturn l D cI cZ cJ o u 83 ra ga σ2 (σ2.1 65 12) (σ2.1 65 14) _ H.size hok) mi_X3_keepReturn kw_2_220 rfl rfl ⟨Nat.le_of_ble_eq_true rfl, Nat.le_of_ble_eq_true rfl⟩ hP hD hK hS hA hB cW_65 rfl rfl hl.1 (Nat.le_of_ble_eq_true rfl) ⟨Nat.le_of_ble_eq_true rfl, Nat.le_of_ble_eq_true rfl⟩ dX3_go_142 (fun σ4 H locs hok hz hP hD hS => ?_)
      refine lv_aload_n hx hb dX3_go_145 rfl (lv_at hl 2 rfl) ?_
      refine lv_aload_n hx hb dX3_go_146 rfl (lv_at hl 2 rfl) ?_
      refine xg (ci := 3) S inX3 rfl hK hP cW_65 3 (by decide) rfl kw_5_132 rfl dX3_go_147 ?_
      refine xg (ci := 0) S inX0 rfl hK hP cW_52 9 (by decide) rfl kw_4_234 rfl dX3_go_150 ?_
      refine lv_iload_n hx hb dX3_go_153 rfl (lv_at hl 3 rfl) ?_
      have h_154 := hok.1
      have hok := hok.2
      refine xiald (t0 := 0) (v := (g σ4 57 a1)) S hK hP cW_57 rfl h_154 rfl dX3_go_154 ?_
      refine lv_iload_n hx hb dX3_go_155 rfl (lv_at hl 0 rfl) ?_
      refine yVv (As := [.int (g σ4 57 a1), .int x3]) (cw := (cW o u cI cZ cJ 83)) (ci := 3) S (v_X3_call_t84 l D cI cZ cJ o u ra ga σ4 (g σ4 57 a1) x3 _ H.size hok) mi_X3_call kw_3_14 rfl rfl ⟨Nat.le_of_ble_eq_true rfl, Nat.le_of_ble_eq_true rfl⟩ hP hD hK hS hA hB cW_65 rfl rfl hl.1 (Nat.le_of_ble_eq_true rfl) ⟨Nat.le_of_ble_eq_true rfl, Nat.le_of_ble_eq_true rfl⟩ dX3_go_156 (fun σ5 H locs hok hz hP hD hS => ?_)
      exact yEndv S hr hlocks hP hD hS (Nat.le_of_ble_eq_true rfl) (Nat.le_of_ble_eq_true rfl) dX3_go_159 hok
    · have hok := hok.2 c_53
      refine lv_aload_n hx hb dX3_go_56 rfl (lv_at hl 2 rfl) ?_
      refine xg (ci := 3) S inX3 rfl hK hP cW_65 2 (by decide) rfl kw_5_131 rfl dX3_go_57 ?_
      refine xg (ci := 4) S inX4 rfl hK hP cW_20 9 (by decide) rfl kw_4_112 rfl dX3_go_60 ?_
      refine lv_aload_n hx hb dX3_go_63 rfl (lv_at hl 2 rfl) ?_
      refine xg (ci := 3) S inX3 rfl hK hP cW_65 1 (by decide) rfl kw_5_130 rfl dX3_go_64 ?_
      refine xg (ci := 5) S inX5 rfl hK hP cW_13 5 (by decide) rfl kw_4_63 rfl dX3_go_67 ?_
      refine lv_iload_n hx hb dX3_go_70 rfl (lv_at hl 1 rfl) ?_
      have h_71 := hok.1
      have hok := hok.2
      refine xiald (t0 := 0) (v := (g σ2 18 x1)) S hK hP cW_18 rfl h_71 rfl dX3_go_71 ?_
      have h_72 := hok.1
      have hok := hok.2
      refine xzald (t0 := 1) (v := (g σ2 28 (g σ2 18 x1))) S hK hP cW_28 rfl h_72 rfl dX3_go_72 ?_
      refine lv_if_eq (tgt := 133) hx hb dX3_go_73 (by decide) (fun c_73 => ?_) (fun c_73 => ?_)
      · have hok := hok.1 c_73
        refine lv_aload_n hx hb dX3_go_133 rfl (lv_at hl 2 rfl) ?_
        refine lv_aload_n hx hb dX3_go_134 rfl (lv_at hl 2 rfl) ?_
        refine xg (ci := 3) S inX3 rfl hK hP cW_65 12 (by decide) rfl kw_5_141 rfl dX3_go_135 ?_
        refine lv_aload_n hx hb dX3_go_138 rfl (lv_at hl 2 rfl) ?_
        refine xg (ci := 3) S inX3 rfl hK hP cW_65 14 (by decide) rfl kw_5_143 rfl dX3_go_139 ?_
        refine yVv (As := [.int (σ2.1 65 12), .int (σ2.1 65 14)]) (cw := (cW o u cI cZ cJ 83)) (ci := 3) S (v_X3_keepReturn l D cI cZ cJ o u 83 ra ga σ2 (σ2.1 65 12) (σ2.1 65 14) _ H.size hok) mi_X3_keepReturn kw_2_220 rfl rfl ⟨Nat.le_of_ble_eq_true rfl, Nat.le_of_ble_eq_true rfl⟩ hP hD hK hS hA hB cW_65 rfl rfl hl.1 (Nat.le_of_ble_eq_true rfl) ⟨Nat.le_of_ble_eq_true rfl, Nat.le_of_ble_eq_true rfl⟩ dX3_go_142 (fun σ6 H locs hok hz hP hD hS => ?_)
        refine lv_aload_n hx hb dX3_go_145 rfl (lv_at hl 2 rfl) ?_
        refine lv_aload_n hx hb dX3_go_146 rfl (lv_at hl 2 rfl) ?_
        refine xg (ci := 3) S inX3 rfl hK hP cW_65 3 (by decide) rfl kw_5_132 rfl dX3_go_147 ?_
        refine xg (ci := 0) S inX0 rfl hK hP cW_52 9 (by decide) rfl kw_4_234 rfl dX3_go_150 ?_
        refine lv_iload_n hx hb dX3_go_153 rfl (lv_at hl 3 rfl) ?_
        have h_154 := hok.1
        have hok := hok.2
        refine xiald (t0 := 0) (v := (g σ6 57 a1)) S hK hP cW_57 rfl h_154 rfl dX3_go_154 ?_
        refine lv_iload_n hx hb dX3_go_155 rfl (lv_at hl 0 rfl) ?_
        refine yVv (As := [.int (g σ6 57 a1), .int x3]) (cw := (cW o u cI cZ cJ 83)) (ci := 3) S (v_X3_call_t84 l D cI cZ cJ o u ra ga σ6 (g σ6 57 a1) x3 _ H.size hok) mi_X3_call kw_3_14 rfl rfl ⟨Nat.le_of_ble_eq_true rfl, Nat.le_of_ble_eq_true rfl⟩ hP hD hK hS hA hB cW_65 rfl rfl hl.1 (Nat.le_of_ble_eq_true rfl) ⟨Nat.le_of_ble_eq_true rfl, Nat.le_of_ble_eq_true rfl⟩ dX3_go_156 (fun σ7 H locs hok hz hP hD hS => ?_)
        exact yEndv S hr hlocks hP hD hS (Nat.le_of_ble_eq_true rfl) (Nat.le_of_ble_eq_true rfl) dX3_go_159 hok
      · have hok := hok.2 c_73
        refine lv_aload_n hx hb dX3_go_76 rfl (lv_at hl 2 rfl) ?_
        refine xg (ci := 3) S inX3 rfl hK hP cW_65 8 (by decide) rfl kw_5_137 rfl dX3_go_77 ?_
        refine lv_aload_n hx hb dX3_go_80 rfl (lv_at hl 2 rfl) ?_
        refine xg (ci := 3) S inX3 rfl hK hP cW_65 7 (by decide) rfl kw_5_136 rfl dX3_go_81 ?_
        refine lv_aload_n hx hb dX3_go_84 rfl (lv_at hl 2 rfl) ?_
        refine xg (ci := 3) S inX3 rfl hK hP cW_65 7 (by decide) rfl kw_5_136 rfl dX3_go_85 ?_
        refine xg (ci := 7) S inX7 rfl hK hP cW_72 2 (by decide) rfl kw_5_57 rfl dX3_go_88 ?_
        refine lv_iconst (v := 1) hx hb dX3_go_91 (by decide) ?_
        refine xisub (v := (σ2.1 72 2) - 1) S dX3_go_92 rfl ?_
        refine lv_iconst (v := 4) hx hb dX3_go_93 (by decide) ?_
        refine yVi (As := [.int ((σ2.1 72 2) - 1), .int 4]) (cw := (cW o u cI cZ cJ 83)) (ci := 7) S (v_X7_at_72 l D cI cZ cJ o u 83 ra ga σ2 ((σ2.1 72 2) - 1) 4 _ H.size hok) mi_X7_at kw_3_18 rfl rfl ⟨Nat.le_of_ble_eq_true rfl, Nat.le_of_ble_eq_true rfl⟩ hP hD hK hS hA hB cW_72 rfl rfl hl.1 (Nat.le_of_ble_eq_true rfl) ⟨Nat.le_of_ble_eq_true rfl, Nat.le_of_ble_eq_true rfl⟩ dX3_go_94 (fun x9 σ8 H locs hok hz hP hD hS => ?_)
        refine yVv (As := [.int x9]) (cw := (cW o u cI cZ cJ 83)) (ci := 7) S (v_X7_cut_74 l D cI cZ cJ o u 83 ra ga σ8 x9 _ H.size hok) mi_X7_cut kw_2_212 rfl rfl ⟨Nat.le_of_ble_eq_true rfl, Nat.le_of_ble_eq_true rfl⟩ hP hD hK hS hA hB cW_74 rfl rfl hl.1 (Nat.le_of_ble_eq_true rfl) ⟨Nat.le_of_ble_eq_true rfl, Nat.le_of_ble_eq_true rfl⟩ dX3_go_97 (fun σ10 H locs hok hz hP hD hS => ?_)
        refine lv_aload_n hx hb dX3_go_100 rfl (lv_at hl 2 rfl) ?_
        refine lv_aload_n hx hb dX3_go_101 rfl (lv_at hl 2 rfl) ?_
        refine xg (ci := 3) S inX3 rfl hK hP cW_65 12 (by decide) rfl kw_5_141 rfl dX3_go_102 ?_
        refine lv_aload_n hx hb dX3_go_105 rfl (lv_at hl 2 rfl) ?_
        refine xg (ci := 3) S inX3 rfl hK hP cW_65 10 (by decide) rfl kw_5_139 rfl dX3_go_106 ?_
        refine lv_iconst (v := 2) hx hb dX3_go_109 (by decide) ?_
        refine xiand (v := (σ10.1 65 10) &&& 2) S dX3_go_110 rfl ?_
        refine lv_if_eq (tgt := 123) hx hb dX3_go_111 (by decide) (fun c_111 => ?_) (fun c_111 => ?_)
        · have hok := hok.1 c_111
          refine lv_aload_n hx hb dX3_go_123 rfl (lv_at hl 2 rfl) ?_
          refine xg (ci := 3) S inX3 rfl hK hP cW_65 14 (by decide) rfl kw_5_143 rfl dX3_go_124 ?_
          refine yVv (As := [.int (σ10.1 65 12), .int (σ10.1 65 14)]) (cw := (cW o u cI cZ cJ 83)) (ci := 3) S (v_X3_keepReturn l D cI cZ cJ o u 83 ra ga σ10 (σ10.1 65 12) (σ10.1 65 14) _ H.size hok) mi_X3_keepReturn kw_2_220 rfl rfl ⟨Nat.le_of_ble_eq_true rfl, Nat.le_of_ble_eq_true rfl⟩ hP hD hK hS hA hB cW_65 rfl rfl hl.1 (Nat.le_of_ble_eq_true rfl) ⟨Nat.le_of_ble_eq_true rfl, Nat.le_of_ble_eq_true rfl⟩ dX3_go_127 (fun σ11 H locs hok hz hP hD hS => ?_)
          refine lv_goto (tgt := 145) hx hb dX3_go_130 (by decide) ?_
          refine lv_aload_n hx hb dX3_go_145 rfl (lv_at hl 2 rfl) ?_
          refine lv_aload_n hx hb dX3_go_146 rfl (lv_at hl 2 rfl) ?_
          refine xg (ci := 3) S inX3 rfl hK hP cW_65 3 (by decide) rfl kw_5_132 rfl dX3_go_147 ?_
          refine xg (ci := 0) S inX0 rfl hK hP cW_52 9 (by decide) rfl kw_4_234 rfl dX3_go_150 ?_
          refine lv_iload_n hx hb dX3_go_153 rfl (lv_at hl 3 rfl) ?_
          have h_154 := hok.1
          have hok := hok.2
          refine xiald (t0 := 0) (v := (g σ11 57 a1)) S hK hP cW_57 rfl h_154 rfl dX3_go_154 ?_
          refine lv_iload_n hx hb dX3_go_155 rfl (lv_at hl 0 rfl) ?_
          refine yVv (As := [.int (g σ11 57 a1), .int x3]) (cw := (cW o u cI cZ cJ 83)) (ci := 3) S (v_X3_call_t84 l D cI cZ cJ o u ra ga σ11 (g σ11 57 a1) x3 _ H.size hok) mi_X3_call kw_3_14 rfl rfl ⟨Nat.le_of_ble_eq_true rfl, Nat.le_of_ble_eq_true rfl⟩ hP hD hK hS hA hB cW_65 rfl rfl hl.1 (Nat.le_of_ble_eq_true rfl) ⟨Nat.le_of_ble_eq_true rfl, Nat.le_of_ble_eq_true rfl⟩ dX3_go_156 (fun σ12 H locs hok hz hP hD hS => ?_)
          exact yEndv S hr hlocks hP hD hS (Nat.le_of_ble_eq_true rfl) (Nat.le_of_ble_eq_true rfl) dX3_go_159 hok
        · have hok := hok.2 c_111
          refine lv_aload_n hx hb dX3_go_114 rfl (lv_at hl 2 rfl) ?_
          refine xg (ci := 3) S inX3 rfl hK hP cW_65 14 (by decide) rfl kw_5_143 rfl dX3_go_115 ?_
          refine lv_iconst (v := 1) hx hb dX3_go_118 (by decide) ?_
          refine xisub (v := (σ10.1 65 14) - 1) S dX3_go_119 rfl ?_
          refine lv_goto (tgt := 127) hx hb dX3_go_120 (by decide) ?_
          refine yVv (As := [.int (σ10.1 65 12), .int ((σ10.1 65 14) - 1)]) (cw := (cW o u cI cZ cJ 83)) (ci := 3) S (v_X3_keepReturn l D cI cZ cJ o u 83 ra ga σ10 (σ10.1 65 12) ((σ10.1 65 14) - 1) _ H.size hok) mi_X3_keepReturn kw_2_220 rfl rfl ⟨Nat.le_of_ble_eq_true rfl, Nat.le_of_ble_eq_true rfl⟩ hP hD hK hS hA hB cW_65 rfl rfl hl.1 (Nat.le_of_ble_eq_true rfl) ⟨Nat.le_of_ble_eq_true rfl, Nat.le_of_ble_eq_true rfl⟩ dX3_go_127 (fun σ13 H locs hok hz hP hD hS => ?_)
          refine lv_goto (tgt := 145) hx hb dX3_go_130 (by decide) ?_
          refine lv_aload_n hx hb dX3_go_145 rfl (lv_at hl 2 rfl) ?_
          refine lv_aload_n hx hb dX3_go_146 rfl (lv_at hl 2 rfl) ?_
          refine xg (ci := 3) S inX3 rfl hK hP cW_65 3 (by decide) rfl kw_5_132 rfl dX3_go_147 ?_
          refine xg (ci := 0) S inX0 rfl hK hP cW_52 9 (by decide) rfl kw_4_234 rfl dX3_go_150 ?_
          refine lv_iload_n hx hb dX3_go_153 rfl (lv_at hl 3 rfl) ?_
          have h_154 := hok.1
          have hok := hok.2
          refine xiald (t0 := 0) (v := (g σ13 57 a1)) S hK hP cW_57 rfl h_154 rfl dX3_go_154 ?_
          refine lv_iload_n hx hb dX3_go_155 rfl (lv_at hl 0 rfl) ?_
          refine yVv (As := [.int (g σ13 57 a1), .int x3]) (cw := (cW o u cI cZ cJ 83)) (ci := 3) S (v_X3_call_t84 l D cI cZ cJ o u ra ga σ13 (g σ13 57 a1) x3 _ H.size hok) mi_X3_call kw_3_14 rfl rfl ⟨Nat.le_of_ble_eq_true rfl, Nat.le_of_ble_eq_true rfl⟩ hP hD hK hS hA hB cW_65 rfl rfl hl.1 (Nat.le_of_ble_eq_true rfl) ⟨Nat.le_of_ble_eq_true rfl, Nat.le_of_ble_eq_true rfl⟩ dX3_go_156 (fun σ14 H locs hok hz hP hD hS => ?_)
          exact yEndv S hr hlocks hP hD hS (Nat.le_of_ble_eq_true rfl) (Nat.le_of_ble_eq_true rfl) dX3_go_159 hok
  · have hok := hok.2 c_18
    refine lv_aload_n hx hb dX3_go_21 rfl (lv_at hl 1 rfl) ?_
    refine lv_bipush (v := 7) hx hb dX3_go_22 (by decide) ?_
    refine lv_iload_n hx hb dX3_go_24 rfl (lv_at hl 0 rfl) ?_
    refine yVv (As := [.int 7, .int x1]) (cw := (cW o u cI cZ cJ 83)) (ci := 3) S (v_X3_trap_t84 l D cI cZ cJ o u ra ga σ 7 x1 _ H.size hok) mi_X3_trap kw_3_35 rfl rfl ⟨Nat.le_of_ble_eq_true rfl, Nat.le_of_ble_eq_true rfl⟩ hP hD hK hS hA hB cW_65 rfl rfl hl.1 (Nat.le_of_ble_eq_true rfl) ⟨Nat.le_of_ble_eq_true rfl, Nat.le_of_ble_eq_true rfl⟩ dX3_go_25 (fun σ15 H locs hok hz hP hD hS => ?_)
    exact yEndv S hr hlocks hP hD hS (Nat.le_of_ble_eq_true rfl) (Nat.le_of_ble_eq_true rfl) dX3_go_28 hok

set_option maxHeartbeats 8000000 in
set_option maxRecDepth 100000 in
theorem v_X3_goByProc_t84 (l : Launch) (D : va_G) (cI cZ cJ : ClassId) (o : Nat) (u : Nat → Nat) (ra : Nat → Nat) (ga : SG) (σ : FS) (a1 : Int32) (a2 : Int32) (Φ : FS → Prop) (sz : Nat) (hok : (wp_X3_goByProc 84 σ a1 a2 Φ)) : Met l yX3_goByProc (uW yX3_goByProc cX3_goByProc 5 none) ({ frames := 4, cells := 0, slots := 0, locals := 97 }) (va_Pc [.ref (u 64), .int a1, .int a2] (aS ra ga D (tyL cI cZ cJ) (cW o u cI cZ cJ 83 σ) sz)) (yQv Φ D (cW o u cI cZ cJ 83) (va_A (cW o u cI cZ cJ 83 σ) sz)) 0 0 (va_A (cW o u cI cZ cJ 83 σ) sz) := by
  refine aStart (lv := [(0, .ref (u 64)), (1, .int a1), (2, .int a2)]) (Qc := fun A => yQv Φ D (cW o u cI cZ cJ 83) A) (by decide) (Nat.le_of_ble_eq_true rfl) rfl ?_
  intro p e s m args below meth c ls A H S hr hlocks hnm hl hK hP hD hS hA hB
  have hx := S.1
  have hb := S.2.1
  refine lv_aload_n hx hb dX3_goByProc_0 rfl (lv_at hl 0 rfl) ?_
  refine xg (ci := 3) S inX3 rfl hK hP cW_65 3 (by decide) rfl kw_5_132 rfl dX3_goByProc_1 ?_
  refine xg (ci := 0) S inX0 rfl hK hP cW_52 10 (by decide) rfl kw_4_237 rfl dX3_goByProc_4 ?_
  refine lv_iload_n hx hb dX3_goByProc_7 rfl (lv_at hl 2 rfl) ?_
  have h_8 := hok.1
  have hok := hok.2
  refine xiald (t0 := 0) (v := (g σ 58 a2)) S hK hP cW_58 rfl h_8 rfl dX3_goByProc_8 ?_
  refine lv_topi (fun x1 ex1 => ?_)
  have hok := hok x1 ex1
  refine lv_istore_n (lv' := [(3, .int x1), (0, .ref (u 64)), (1, .int a1), (2, .int a2)]) hx hb dX3_goByProc_9 rfl hl (by decide) rfl (fun ls hl => ?_)
  refine lv_aload_n hx hb dX3_goByProc_10 rfl (lv_at hl 1 rfl) ?_
  refine xg (ci := 3) S inX3 rfl hK hP cW_65 4 (by decide) rfl kw_5_133 rfl dX3_goByProc_11 ?_
  refine lv_iload_n hx hb dX3_goByProc_14 rfl (lv_at hl 2 rfl) ?_
  refine lv_iconst (v := 0) hx hb dX3_goByProc_15 (by decide) ?_
  refine yVi (As := [.int a1, .int 0]) (cw := (cW o u cI cZ cJ 83)) (ci := 7) S (v_X7_at_66 l D cI cZ cJ o u 83 ra ga σ a1 0 _ H.size hok) mi_X7_at kw_3_18 rfl rfl ⟨Nat.le_of_ble_eq_true rfl, Nat.le_of_ble_eq_true rfl⟩ hP hD hK hS hA hB cW_66 rfl rfl hl.1 (Nat.le_of_ble_eq_true rfl) ⟨Nat.le_of_ble_eq_true rfl, Nat.le_of_ble_eq_true rfl⟩ dX3_goByProc_16 (fun x3 σ2 H locs hok hz hP hD hS => ?_)
  refine lv_istore (lv' := [(4, .int x3), (3, .int x1), (0, .ref (u 64)), (1, .int a1), (2, .int a2)]) hx hb dX3_goByProc_19 hl (by decide) rfl (fun ls hl => ?_)
  refine lv_iload hx hb dX3_goByProc_21 (lv_at hl 0 rfl) ?_
  refine lv_iconst (v := (-1)) hx hb dX3_goByProc_23 (by decide) ?_
  refine lv_icmp_eq (tgt := 39) hx hb dX3_goByProc_24 (by decide) (fun c_24 => ?_) (fun c_24 => ?_)
  · have hok := hok.1 c_24
    refine lv_aload_n hx hb dX3_goByProc_39 rfl (lv_at hl 2 rfl) ?_
    refine lv_iconst (v := 3) hx hb dX3_goByProc_40 (by decide) ?_
    refine lv_iload_n hx hb dX3_goByProc_41 rfl (lv_at hl 1 rfl) ?_
    refine yVv (As := [.int 3, .int x1]) (cw := (cW o u cI cZ cJ 83)) (ci := 3) S (v_X3_trap_t84 l D cI cZ cJ o u ra ga σ2 3 x1 _ H.size hok) mi_X3_trap kw_3_35 rfl rfl ⟨Nat.le_of_ble_eq_true rfl, Nat.le_of_ble_eq_true rfl⟩ hP hD hK hS hA hB cW_65 rfl rfl hl.1 (Nat.le_of_ble_eq_true rfl) ⟨Nat.le_of_ble_eq_true rfl, Nat.le_of_ble_eq_true rfl⟩ dX3_goByProc_42 (fun σ4 H locs hok hz hP hD hS => ?_)
    refine lv_goto (tgt := 126) hx hb dX3_goByProc_45 (by decide) ?_
    exact yEndv S hr hlocks hP hD hS (Nat.le_of_ble_eq_true rfl) (Nat.le_of_ble_eq_true rfl) dX3_goByProc_126 hok
  · have hok := hok.2 c_24
    refine lv_aload_n hx hb dX3_goByProc_27 rfl (lv_at hl 2 rfl) ?_
    refine xg (ci := 3) S inX3 rfl hK hP cW_65 0 (by decide) rfl kw_5_129 rfl dX3_goByProc_28 ?_
    refine lv_iload hx hb dX3_goByProc_31 (lv_at hl 0 rfl) ?_
    refine yVi (As := [.int x3]) (cw := (cW o u cI cZ cJ 83)) (ci := 1) S (v_X1_has l D cI cZ cJ o u 83 ra ga σ2 x3 _ H.size hok) mi_X1_has kw_3_79 rfl rfl ⟨Nat.le_of_ble_eq_true rfl, Nat.le_of_ble_eq_true rfl⟩ hP hD hK hS hA hB cW_1 rfl rfl hl.1 (Nat.le_of_ble_eq_true rfl) ⟨Nat.le_of_ble_eq_true rfl, Nat.le_of_ble_eq_true rfl⟩ dX3_goByProc_33 (fun x6 σ5 H locs hok hz hP hD hS => ?_)
    refine lv_if_ne (tgt := 48) hx hb dX3_goByProc_36 (by decide) (fun c_36 => ?_) (fun c_36 => ?_)
    · have hok := hok.2 c_36
      refine lv_aload_n hx hb dX3_goByProc_48 rfl (lv_at hl 2 rfl) ?_
      refine xg (ci := 3) S inX3 rfl hK hP cW_65 1 (by decide) rfl kw_5_130 rfl dX3_goByProc_49 ?_
      refine lv_iload_n hx hb dX3_goByProc_52 rfl (lv_at hl 1 rfl) ?_
      refine yVi (As := [.int x1]) (cw := (cW o u cI cZ cJ 83)) (ci := 5) S (v_X5_argumentsOf l D cI cZ cJ o u 83 ra ga σ5 x1 _ H.size hok) mi_X5_argumentsOf kw_3_80 rfl rfl ⟨Nat.le_of_ble_eq_true rfl, Nat.le_of_ble_eq_true rfl⟩ hP hD hK hS hA hB cW_13 rfl rfl hl.1 (Nat.le_of_ble_eq_true rfl) ⟨Nat.le_of_ble_eq_true rfl, Nat.le_of_ble_eq_true rfl⟩ dX3_goByProc_53 (fun x8 σ7 H locs hok hz hP hD hS => ?_)
      refine lv_aload_n hx hb dX3_goByProc_56 rfl (lv_at hl 2 rfl) ?_
      refine xg (ci := 3) S inX3 rfl hK hP cW_65 0 (by decide) rfl kw_5_129 rfl dX3_goByProc_57 ?_
      refine xg (ci := 1) S inX1 rfl hK hP cW_1 3 (by decide) rfl kw_3_226 rfl dX3_goByProc_60 ?_
      refine lv_iload hx hb dX3_goByProc_63 (lv_at hl 0 rfl) ?_
      have h_65 := hok.1
      have hok := hok.2
      refine xiald (t0 := 0) (v := (g σ7 4 x3)) S hK hP cW_4 rfl h_65 rfl dX3_goByProc_65 ?_
      refine lv_icmp_eq (tgt := 78) hx hb dX3_goByProc_66 (by decide) (fun c_66 => ?_) (fun c_66 => ?_)
      · have hok := hok.1 c_66
        refine lv_aload_n hx hb dX3_goByProc_78 rfl (lv_at hl 2 rfl) ?_
        refine xg (ci := 3) S inX3 rfl hK hP cW_65 15 (by decide) rfl kw_5_144 rfl dX3_goByProc_79 ?_
        refine lv_aload_n hx hb dX3_goByProc_82 rfl (lv_at hl 2 rfl) ?_
        refine xg (ci := 3) S inX3 rfl hK hP cW_65 11 (by decide) rfl kw_5_140 rfl dX3_goByProc_83 ?_
        refine lv_icmp_lt (tgt := 99) hx hb dX3_goByProc_86 (by decide) (fun c_86 => ?_) (fun c_86 => ?_)
        · have hok := hok.1 c_86
          refine lv_aload_n hx hb dX3_goByProc_99 rfl (lv_at hl 2 rfl) ?_
          refine lv_aload_n hx hb dX3_goByProc_100 rfl (lv_at hl 2 rfl) ?_
          refine xg (ci := 3) S inX3 rfl hK hP cW_65 12 (by decide) rfl kw_5_141 rfl dX3_goByProc_101 ?_
          refine lv_aload_n hx hb dX3_goByProc_104 rfl (lv_at hl 2 rfl) ?_
          refine xg (ci := 3) S inX3 rfl hK hP cW_65 14 (by decide) rfl kw_5_143 rfl dX3_goByProc_105 ?_
          refine yVv (As := [.int (σ7.1 65 12), .int (σ7.1 65 14)]) (cw := (cW o u cI cZ cJ 83)) (ci := 3) S (v_X3_keepReturn l D cI cZ cJ o u 83 ra ga σ7 (σ7.1 65 12) (σ7.1 65 14) _ H.size hok) mi_X3_keepReturn kw_2_220 rfl rfl ⟨Nat.le_of_ble_eq_true rfl, Nat.le_of_ble_eq_true rfl⟩ hP hD hK hS hA hB cW_65 rfl rfl hl.1 (Nat.le_of_ble_eq_true rfl) ⟨Nat.le_of_ble_eq_true rfl, Nat.le_of_ble_eq_true rfl⟩ dX3_goByProc_108 (fun σ9 H locs hok hz hP hD hS => ?_)
          refine lv_aload_n hx hb dX3_goByProc_111 rfl (lv_at hl 2 rfl) ?_
          refine lv_iload hx hb dX3_goByProc_112 (lv_at hl 0 rfl) ?_
          refine lv_aload_n hx hb dX3_goByProc_114 rfl (lv_at hl 2 rfl) ?_
          refine xg (ci := 3) S inX3 rfl hK hP cW_65 4 (by decide) rfl kw_5_133 rfl dX3_goByProc_115 ?_
          refine lv_iload_n hx hb dX3_goByProc_118 rfl (lv_at hl 3 rfl) ?_
          refine lv_iconst (v := 1) hx hb dX3_goByProc_119 (by decide) ?_
          refine yVi (As := [.int a1, .int 1]) (cw := (cW o u cI cZ cJ 83)) (ci := 7) S (v_X7_at_66 l D cI cZ cJ o u 83 ra ga σ9 a1 1 _ H.size hok) mi_X7_at kw_3_18 rfl rfl ⟨Nat.le_of_ble_eq_true rfl, Nat.le_of_ble_eq_true rfl⟩ hP hD hK hS hA hB cW_66 rfl rfl hl.1 (Nat.le_of_ble_eq_true rfl) ⟨Nat.le_of_ble_eq_true rfl, Nat.le_of_ble_eq_true rfl⟩ dX3_goByProc_120 (fun x11 σ10 H locs hok hz hP hD hS => ?_)
          refine yVv (As := [.int x3, .int x11]) (cw := (cW o u cI cZ cJ 83)) (ci := 3) S (v_X3_call_t84 l D cI cZ cJ o u ra ga σ10 x3 x11 _ H.size hok) mi_X3_call kw_3_14 rfl rfl ⟨Nat.le_of_ble_eq_true rfl, Nat.le_of_ble_eq_true rfl⟩ hP hD hK hS hA hB cW_65 rfl rfl hl.1 (Nat.le_of_ble_eq_true rfl) ⟨Nat.le_of_ble_eq_true rfl, Nat.le_of_ble_eq_true rfl⟩ dX3_goByProc_123 (fun σ12 H locs hok hz hP hD hS => ?_)
          exact yEndv S hr hlocks hP hD hS (Nat.le_of_ble_eq_true rfl) (Nat.le_of_ble_eq_true rfl) dX3_goByProc_126 hok
        · have hok := hok.2 c_86
          refine lv_aload_n hx hb dX3_goByProc_89 rfl (lv_at hl 2 rfl) ?_
          refine lv_bipush (v := 7) hx hb dX3_goByProc_90 (by decide) ?_
          refine lv_iload_n hx hb dX3_goByProc_92 rfl (lv_at hl 1 rfl) ?_
          refine yVv (As := [.int 7, .int x1]) (cw := (cW o u cI cZ cJ 83)) (ci := 3) S (v_X3_trap_t84 l D cI cZ cJ o u ra ga σ7 7 x1 _ H.size hok) mi_X3_trap kw_3_35 rfl rfl ⟨Nat.le_of_ble_eq_true rfl, Nat.le_of_ble_eq_true rfl⟩ hP hD hK hS hA hB cW_65 rfl rfl hl.1 (Nat.le_of_ble_eq_true rfl) ⟨Nat.le_of_ble_eq_true rfl, Nat.le_of_ble_eq_true rfl⟩ dX3_goByProc_93 (fun σ13 H locs hok hz hP hD hS => ?_)
          refine lv_goto (tgt := 126) hx hb dX3_goByProc_96 (by decide) ?_
          exact yEndv S hr hlocks hP hD hS (Nat.le_of_ble_eq_true rfl) (Nat.le_of_ble_eq_true rfl) dX3_goByProc_126 hok
      · have hok := hok.2 c_66
        refine lv_aload_n hx hb dX3_goByProc_69 rfl (lv_at hl 2 rfl) ?_
        refine lv_iconst (v := 4) hx hb dX3_goByProc_70 (by decide) ?_
        refine lv_iload_n hx hb dX3_goByProc_71 rfl (lv_at hl 1 rfl) ?_
        refine yVv (As := [.int 4, .int x1]) (cw := (cW o u cI cZ cJ 83)) (ci := 3) S (v_X3_trap_t84 l D cI cZ cJ o u ra ga σ7 4 x1 _ H.size hok) mi_X3_trap kw_3_35 rfl rfl ⟨Nat.le_of_ble_eq_true rfl, Nat.le_of_ble_eq_true rfl⟩ hP hD hK hS hA hB cW_65 rfl rfl hl.1 (Nat.le_of_ble_eq_true rfl) ⟨Nat.le_of_ble_eq_true rfl, Nat.le_of_ble_eq_true rfl⟩ dX3_goByProc_72 (fun σ14 H locs hok hz hP hD hS => ?_)
        refine lv_goto (tgt := 126) hx hb dX3_goByProc_75 (by decide) ?_
        exact yEndv S hr hlocks hP hD hS (Nat.le_of_ble_eq_true rfl) (Nat.le_of_ble_eq_true rfl) dX3_goByProc_126 hok
    · have hok := hok.1 c_36
      refine lv_aload_n hx hb dX3_goByProc_39 rfl (lv_at hl 2 rfl) ?_
      refine lv_iconst (v := 3) hx hb dX3_goByProc_40 (by decide) ?_
      refine lv_iload_n hx hb dX3_goByProc_41 rfl (lv_at hl 1 rfl) ?_
      refine yVv (As := [.int 3, .int x1]) (cw := (cW o u cI cZ cJ 83)) (ci := 3) S (v_X3_trap_t84 l D cI cZ cJ o u ra ga σ5 3 x1 _ H.size hok) mi_X3_trap kw_3_35 rfl rfl ⟨Nat.le_of_ble_eq_true rfl, Nat.le_of_ble_eq_true rfl⟩ hP hD hK hS hA hB cW_65 rfl rfl hl.1 (Nat.le_of_ble_eq_true rfl) ⟨Nat.le_of_ble_eq_true rfl, Nat.le_of_ble_eq_true rfl⟩ dX3_goByProc_42 (fun σ15 H locs hok hz hP hD hS => ?_)
      refine lv_goto (tgt := 126) hx hb dX3_goByProc_45 (by decide) ?_
      exact yEndv S hr hlocks hP hD hS (Nat.le_of_ble_eq_true rfl) (Nat.le_of_ble_eq_true rfl) dX3_goByProc_126 hok

set_option maxHeartbeats 8000000 in
set_option maxRecDepth 100000 in
theorem v_X3_refer (l : Launch) (D : va_G) (cI cZ cJ : ClassId) (o : Nat) (u : Nat → Nat) (T : Nat) (ra : Nat → Nat) (ga : SG) (σ : FS) (a1 : Int32) (a2 : Int32) (Φ : FS → Prop) (sz : Nat) (hok : (wp_X3_refer σ a1 a2 Φ)) : Met l yX3_refer (uW yX3_refer cX3_refer 4 none) ({ frames := 3, cells := 0, slots := 0, locals := 68 }) (va_Pc [.ref (u 64), .int a1, .int a2] (aS ra ga D (tyL cI cZ cJ) (cW o u cI cZ cJ T σ) sz)) (yQv Φ D (cW o u cI cZ cJ T) (va_A (cW o u cI cZ cJ T σ) sz)) 0 0 (va_A (cW o u cI cZ cJ T σ) sz) := by
  refine aStart (lv := [(0, .ref (u 64)), (1, .int a1), (2, .int a2)]) (Qc := fun A => yQv Φ D (cW o u cI cZ cJ T) A) (by decide) (Nat.le_of_ble_eq_true rfl) rfl ?_
  intro p e s m args below meth c ls A H S hr hlocks hnm hl hK hP hD hS hA hB
  have hx := S.1
  have hb := S.2.1
  refine lv_aload_n hx hb dX3_refer_0 rfl (lv_at hl 0 rfl) ?_
  refine xg (ci := 3) S inX3 rfl hK hP cW_65 2 (by decide) rfl kw_5_131 rfl dX3_refer_1 ?_
  refine xg (ci := 4) S inX4 rfl hK hP cW_20 5 (by decide) rfl kw_4_99 rfl dX3_refer_4 ?_
  refine lv_aload_n hx hb dX3_refer_7 rfl (lv_at hl 0 rfl) ?_
  refine xg (ci := 3) S inX3 rfl hK hP cW_65 3 (by decide) rfl kw_5_132 rfl dX3_refer_8 ?_
  refine xg (ci := 0) S inX0 rfl hK hP cW_52 10 (by decide) rfl kw_4_237 rfl dX3_refer_11 ?_
  refine lv_iload_n hx hb dX3_refer_14 rfl (lv_at hl 2 rfl) ?_
  have h_15 := hok.1
  have hok := hok.2
  refine xiald (t0 := 0) (v := (g σ 58 a2)) S hK hP cW_58 rfl h_15 rfl dX3_refer_15 ?_
  have h_16 := hok.1
  have hok := hok.2
  refine xiald (t0 := 0) (v := (g σ 24 (g σ 58 a2))) S hK hP cW_24 rfl h_16 rfl dX3_refer_16 ?_
  refine lv_iconst (v := 1) hx hb dX3_refer_17 (by decide) ?_
  refine lv_icmp_ne (tgt := 25) hx hb dX3_refer_18 (by decide) (fun c_18 => ?_) (fun c_18 => ?_)
  · have hok := hok.2 c_18
    refine lv_iconst (v := 0) hx hb dX3_refer_25 (by decide) ?_
    refine lv_istore_n (lv' := [(3, .int 0), (0, .ref (u 64)), (1, .int a1), (2, .int a2)]) hx hb dX3_refer_26 rfl hl (by decide) rfl (fun ls hl => ?_)
    refine lv_aload_n hx hb dX3_refer_27 rfl (lv_at hl 1 rfl) ?_
    refine lv_iload_n hx hb dX3_refer_28 rfl (lv_at hl 0 rfl) ?_
    refine lv_if_eq (tgt := 44) hx hb dX3_refer_29 (by decide) (fun _ => ?_) (fun c => absurd c (by decide))
    refine lv_iload_n hx hb dX3_refer_44 rfl (lv_at hl 2 rfl) ?_
    refine lv_iconst (v := 0) hx hb dX3_refer_45 (by decide) ?_
    refine yVv (As := [.int a1, .int 0]) (cw := (cW o u cI cZ cJ T)) (ci := 3) S (v_X3_push l D cI cZ cJ o u T ra ga σ a1 0 _ H.size hok) mi_X3_push kw_3_43 rfl rfl ⟨Nat.le_of_ble_eq_true rfl, Nat.le_of_ble_eq_true rfl⟩ hP hD hK hS hA hB cW_65 rfl rfl hl.1 (Nat.le_of_ble_eq_true rfl) ⟨Nat.le_of_ble_eq_true rfl, Nat.le_of_ble_eq_true rfl⟩ dX3_refer_46 (fun σ1 H locs hok hz hP hD hS => ?_)
    exact yEndv S hr hlocks hP hD hS (Nat.le_of_ble_eq_true rfl) (Nat.le_of_ble_eq_true rfl) dX3_refer_49 hok
  · have hok := hok.1 c_18
    refine lv_iconst (v := 1) hx hb dX3_refer_21 (by decide) ?_
    refine lv_goto (tgt := 26) hx hb dX3_refer_22 (by decide) ?_
    refine lv_istore_n (lv' := [(3, .int 1), (0, .ref (u 64)), (1, .int a1), (2, .int a2)]) hx hb dX3_refer_26 rfl hl (by decide) rfl (fun ls hl => ?_)
    refine lv_aload_n hx hb dX3_refer_27 rfl (lv_at hl 1 rfl) ?_
    refine lv_iload_n hx hb dX3_refer_28 rfl (lv_at hl 0 rfl) ?_
    refine lv_if_eq (tgt := 44) hx hb dX3_refer_29 (by decide) (fun c => absurd c (by decide)) (fun _ => ?_)
    refine lv_aload_n hx hb dX3_refer_32 rfl (lv_at hl 1 rfl) ?_
    refine xg (ci := 3) S inX3 rfl hK hP cW_65 4 (by decide) rfl kw_5_133 rfl dX3_refer_33 ?_
    refine lv_iload_n hx hb dX3_refer_36 rfl (lv_at hl 2 rfl) ?_
    refine lv_iconst (v := 0) hx hb dX3_refer_37 (by decide) ?_
    refine yVi (As := [.int a1, .int 0]) (cw := (cW o u cI cZ cJ T)) (ci := 7) S (v_X7_at_66 l D cI cZ cJ o u T ra ga σ a1 0 _ H.size hok) mi_X7_at kw_3_18 rfl rfl ⟨Nat.le_of_ble_eq_true rfl, Nat.le_of_ble_eq_true rfl⟩ hP hD hK hS hA hB cW_66 rfl rfl hl.1 (Nat.le_of_ble_eq_true rfl) ⟨Nat.le_of_ble_eq_true rfl, Nat.le_of_ble_eq_true rfl⟩ dX3_refer_38 (fun x3 σ2 H locs hok hz hP hD hS => ?_)
    refine lv_goto (tgt := 45) hx hb dX3_refer_41 (by decide) ?_
    refine lv_iconst (v := 0) hx hb dX3_refer_45 (by decide) ?_
    refine yVv (As := [.int x3, .int 0]) (cw := (cW o u cI cZ cJ T)) (ci := 3) S (v_X3_push l D cI cZ cJ o u T ra ga σ2 x3 0 _ H.size hok) mi_X3_push kw_3_43 rfl rfl ⟨Nat.le_of_ble_eq_true rfl, Nat.le_of_ble_eq_true rfl⟩ hP hD hK hS hA hB cW_65 rfl rfl hl.1 (Nat.le_of_ble_eq_true rfl) ⟨Nat.le_of_ble_eq_true rfl, Nat.le_of_ble_eq_true rfl⟩ dX3_refer_46 (fun σ4 H locs hok hz hP hD hS => ?_)
    exact yEndv S hr hlocks hP hD hS (Nat.le_of_ble_eq_true rfl) (Nat.le_of_ble_eq_true rfl) dX3_refer_49 hok

set_option maxHeartbeats 8000000 in
set_option maxRecDepth 100000 in
theorem v_X3_skip (l : Launch) (D : va_G) (cI cZ cJ : ClassId) (o : Nat) (u : Nat → Nat) (T : Nat) (ra : Nat → Nat) (ga : SG) (σ : FS) (a1 : Int32) (a2 : Int32) (Φ : FS → Prop) (sz : Nat) (hok : (wp_X3_skip σ a1 a2 Φ)) : Met l yX3_skip (uW yX3_skip cX3_skip 4 none) ({ frames := 2, cells := 0, slots := 0, locals := 44 }) (va_Pc [.ref (u 64), .int a1, .int a2] (aS ra ga D (tyL cI cZ cJ) (cW o u cI cZ cJ T σ) sz)) (yQv Φ D (cW o u cI cZ cJ T) (va_A (cW o u cI cZ cJ T σ) sz)) 0 0 (va_A (cW o u cI cZ cJ T σ) sz) := by
  refine aStart (lv := [(0, .ref (u 64)), (1, .int a1), (2, .int a2)]) (Qc := fun A => yQv Φ D (cW o u cI cZ cJ T) A) (by decide) (Nat.le_of_ble_eq_true rfl) rfl ?_
  intro p e s m args below meth c ls A H S hr hlocks hnm hl hK hP hD hS hA hB
  have hx := S.1
  have hb := S.2.1
  refine lv_aload_n hx hb dX3_skip_0 rfl (lv_at hl 0 rfl) ?_
  refine xg (ci := 3) S inX3 rfl hK hP cW_65 6 (by decide) rfl kw_5_135 rfl dX3_skip_1 ?_
  refine lv_aload_n hx hb dX3_skip_4 rfl (lv_at hl 0 rfl) ?_
  refine xg (ci := 3) S inX3 rfl hK hP cW_65 13 (by decide) rfl kw_5_142 rfl dX3_skip_5 ?_
  refine lv_iconst (v := 0) hx hb dX3_skip_8 (by decide) ?_
  refine yVi (As := [.int (σ.1 65 13), .int 0]) (cw := (cW o u cI cZ cJ T)) (ci := 7) S (v_X7_at_70 l D cI cZ cJ o u T ra ga σ (σ.1 65 13) 0 _ H.size hok) mi_X7_at kw_3_18 rfl rfl ⟨Nat.le_of_ble_eq_true rfl, Nat.le_of_ble_eq_true rfl⟩ hP hD hK hS hA hB cW_70 rfl rfl hl.1 (Nat.le_of_ble_eq_true rfl) ⟨Nat.le_of_ble_eq_true rfl, Nat.le_of_ble_eq_true rfl⟩ dX3_skip_9 (fun x2 σ1 H locs hok hz hP hD hS => ?_)
  refine lv_istore_n (lv' := [(3, .int x2), (0, .ref (u 64)), (1, .int a1), (2, .int a2)]) hx hb dX3_skip_12 rfl hl (by decide) rfl (fun ls hl => ?_)
  refine lv_iload_n hx hb dX3_skip_13 rfl (lv_at hl 2 rfl) ?_
  refine lv_if_eq (tgt := 43) hx hb dX3_skip_14 (by decide) (fun c_14 => ?_) (fun c_14 => ?_)
  · have hok := hok.1 c_14
    exact yEndv S hr hlocks hP hD hS (Nat.le_of_ble_eq_true rfl) (Nat.le_of_ble_eq_true rfl) dX3_skip_43 hok
  · have hok := hok.2 c_14
    refine lv_aload_n hx hb dX3_skip_17 rfl (lv_at hl 1 rfl) ?_
    refine xg (ci := 3) S inX3 rfl hK hP cW_65 0 (by decide) rfl kw_5_129 rfl dX3_skip_18 ?_
    refine lv_iload_n hx hb dX3_skip_21 rfl (lv_at hl 0 rfl) ?_
    refine yVi (As := [.int x2]) (cw := (cW o u cI cZ cJ T)) (ci := 1) S (v_X1_has l D cI cZ cJ o u T ra ga σ1 x2 _ H.size hok) mi_X1_has kw_3_79 rfl rfl ⟨Nat.le_of_ble_eq_true rfl, Nat.le_of_ble_eq_true rfl⟩ hP hD hK hS hA hB cW_1 rfl rfl hl.1 (Nat.le_of_ble_eq_true rfl) ⟨Nat.le_of_ble_eq_true rfl, Nat.le_of_ble_eq_true rfl⟩ dX3_skip_22 (fun x4 σ3 H locs hok hz hP hD hS => ?_)
    refine lv_if_eq (tgt := 43) hx hb dX3_skip_25 (by decide) (fun c_25 => ?_) (fun c_25 => ?_)
    · have hok := hok.1 c_25
      exact yEndv S hr hlocks hP hD hS (Nat.le_of_ble_eq_true rfl) (Nat.le_of_ble_eq_true rfl) dX3_skip_43 hok
    · have hok := hok.2 c_25
      refine lv_aload_n hx hb dX3_skip_28 rfl (lv_at hl 1 rfl) ?_
      refine lv_aload_n hx hb dX3_skip_29 rfl (lv_at hl 1 rfl) ?_
      refine xg (ci := 3) S inX3 rfl hK hP cW_65 3 (by decide) rfl kw_5_132 rfl dX3_skip_30 ?_
      refine xg (ci := 0) S inX0 rfl hK hP cW_52 5 (by decide) rfl kw_4_224 rfl dX3_skip_33 ?_
      refine lv_iload_n hx hb dX3_skip_36 rfl (lv_at hl 0 rfl) ?_
      have h_37 := hok.1
      have hok := hok.2
      refine xiald (t0 := 0) (v := (g σ3 53 x2)) S hK hP cW_53 rfl h_37 rfl dX3_skip_37 ?_
      refine lv_iload_n hx hb dX3_skip_38 rfl (lv_at hl 3 rfl) ?_
      refine xiadd (v := (g σ3 53 x2) + a2) S dX3_skip_39 rfl ?_
      refine yp (ci := 3) (v := .int ((g σ3 53 x2) + a2)) (cw := (cW o u cI cZ cJ T)) S inX3 tyX3 tyX3_ok nmX3 rfl hK hP hD hS cW_65 12 (by decide) kw_5_141 rfl rfl rfl rfl (Nat.le_of_ble_eq_true rfl) dX3_skip_40 cWp_65_12 (fun σ5 H locs eσ5 hP hD hS => ?_)
      have hok := hok σ5 eσ5
      exact yEndv S hr hlocks hP hD hS (Nat.le_of_ble_eq_true rfl) (Nat.le_of_ble_eq_true rfl) dX3_skip_43 hok

set_option maxHeartbeats 8000000 in
set_option maxRecDepth 100000 in
theorem v_X3_later (l : Launch) (D : va_G) (cI cZ cJ : ClassId) (o : Nat) (u : Nat → Nat) (T : Nat) (ra : Nat → Nat) (ga : SG) (σ : FS) (a1 : Int32) (Φ : FS → Prop) (sz : Nat) (hok : (wp_X3_later σ a1 Φ)) : Met l yX3_later (uW yX3_later cX3_later 2 none) ({ frames := 3, cells := 0, slots := 0, locals := 68 }) (va_Pc [.ref (u 64), .int a1] (aS ra ga D (tyL cI cZ cJ) (cW o u cI cZ cJ T σ) sz)) (yQv Φ D (cW o u cI cZ cJ T) (va_A (cW o u cI cZ cJ T σ) sz)) 0 0 (va_A (cW o u cI cZ cJ T σ) sz) := by
  refine aStart (lv := [(0, .ref (u 64)), (1, .int a1)]) (Qc := fun A => yQv Φ D (cW o u cI cZ cJ T) A) (by decide) (Nat.le_of_ble_eq_true rfl) rfl ?_
  intro p e s m args below meth c ls A H S hr hlocks hnm hl hK hP hD hS hA hB
  have hx := S.1
  have hb := S.2.1
  refine lv_aload_n hx hb dX3_later_0 rfl (lv_at hl 0 rfl) ?_
  refine lv_aload_n hx hb dX3_later_1 rfl (lv_at hl 0 rfl) ?_
  refine xg (ci := 3) S inX3 rfl hK hP cW_65 12 (by decide) rfl kw_5_141 rfl dX3_later_2 ?_
  refine lv_aload_n hx hb dX3_later_5 rfl (lv_at hl 0 rfl) ?_
  refine xg (ci := 3) S inX3 rfl hK hP cW_65 13 (by decide) rfl kw_5_142 rfl dX3_later_6 ?_
  refine yVv (As := [.int (σ.1 65 12), .int (σ.1 65 13)]) (cw := (cW o u cI cZ cJ T)) (ci := 3) S (v_X3_push l D cI cZ cJ o u T ra ga σ (σ.1 65 12) (σ.1 65 13) _ H.size hok) mi_X3_push kw_3_43 rfl rfl ⟨Nat.le_of_ble_eq_true rfl, Nat.le_of_ble_eq_true rfl⟩ hP hD hK hS hA hB cW_65 rfl rfl hl.1 (Nat.le_of_ble_eq_true rfl) ⟨Nat.le_of_ble_eq_true rfl, Nat.le_of_ble_eq_true rfl⟩ dX3_later_9 (fun σ1 H locs hok hz hP hD hS => ?_)
  refine lv_aload_n hx hb dX3_later_12 rfl (lv_at hl 0 rfl) ?_
  refine lv_iconst (v := 1) hx hb dX3_later_13 (by decide) ?_
  refine lv_aload_n hx hb dX3_later_14 rfl (lv_at hl 0 rfl) ?_
  refine xg (ci := 3) S inX3 rfl hK hP cW_65 3 (by decide) rfl kw_5_132 rfl dX3_later_15 ?_
  refine xg (ci := 0) S inX0 rfl hK hP cW_52 8 (by decide) rfl kw_4_231 rfl dX3_later_18 ?_
  refine lv_iload_n hx hb dX3_later_21 rfl (lv_at hl 1 rfl) ?_
  have h_22 := hok.1
  have hok := hok.2
  refine xiald (t0 := 0) (v := (g σ1 56 a1)) S hK hP cW_56 rfl h_22 rfl dX3_later_22 ?_
  refine yVv (As := [.int 1, .int (g σ1 56 a1)]) (cw := (cW o u cI cZ cJ T)) (ci := 3) S (v_X3_skip l D cI cZ cJ o u T ra ga σ1 1 (g σ1 56 a1) _ H.size hok) mi_X3_skip kw_3_89 rfl rfl ⟨Nat.le_of_ble_eq_true rfl, Nat.le_of_ble_eq_true rfl⟩ hP hD hK hS hA hB cW_65 rfl rfl hl.1 (Nat.le_of_ble_eq_true rfl) ⟨Nat.le_of_ble_eq_true rfl, Nat.le_of_ble_eq_true rfl⟩ dX3_later_23 (fun σ2 H locs hok hz hP hD hS => ?_)
  exact yEndv S hr hlocks hP hD hS (Nat.le_of_ble_eq_true rfl) (Nat.le_of_ble_eq_true rfl) dX3_later_26 hok

set_option maxHeartbeats 8000000 in
set_option maxRecDepth 100000 in
theorem v_X3_goBack_t84 (l : Launch) (D : va_G) (cI cZ cJ : ClassId) (o : Nat) (u : Nat → Nat) (ra : Nat → Nat) (ga : SG) (σ : FS) (Φ : FS → Prop) (sz : Nat) (hok : (wp_X3_goBack 84 σ Φ)) : Met l yX3_goBack (uW yX3_goBack cX3_goBack 2 none) ({ frames := 3, cells := 0, slots := 0, locals := 65 }) (va_Pc [.ref (u 64)] (aS ra ga D (tyL cI cZ cJ) (cW o u cI cZ cJ 83 σ) sz)) (yQv Φ D (cW o u cI cZ cJ 83) (va_A (cW o u cI cZ cJ 83 σ) sz)) 0 0 (va_A (cW o u cI cZ cJ 83 σ) sz) := by
  refine aStart (lv := [(0, .ref (u 64))]) (Qc := fun A => yQv Φ D (cW o u cI cZ cJ 83) A) (by decide) (Nat.le_of_ble_eq_true rfl) rfl ?_
  intro p e s m args below meth c ls A H S hr hlocks hnm hl hK hP hD hS hA hB
  have hx := S.1
  have hb := S.2.1
  refine lv_aload_n hx hb dX3_goBack_0 rfl (lv_at hl 0 rfl) ?_
  refine xg (ci := 3) S inX3 rfl hK hP cW_65 7 (by decide) rfl kw_5_136 rfl dX3_goBack_1 ?_
  refine xg (ci := 7) S inX7 rfl hK hP cW_72 2 (by decide) rfl kw_5_57 rfl dX3_goBack_4 ?_
  refine lv_iconst (v := 1) hx hb dX3_goBack_7 (by decide) ?_
  refine xisub (v := (σ.1 72 2) - 1) S dX3_goBack_8 rfl ?_
  refine lv_topi (fun x1 ex1 => ?_)
  have hok := hok x1 ex1
  refine lv_istore_n (lv' := [(1, .int x1), (0, .ref (u 64))]) hx hb dX3_goBack_9 rfl hl (by decide) rfl (fun ls hl => ?_)
  refine lv_aload_n hx hb dX3_goBack_10 rfl (lv_at hl 1 rfl) ?_
  refine lv_aload_n hx hb dX3_goBack_11 rfl (lv_at hl 1 rfl) ?_
  refine xg (ci := 3) S inX3 rfl hK hP cW_65 7 (by decide) rfl kw_5_136 rfl dX3_goBack_12 ?_
  refine lv_iload_n hx hb dX3_goBack_15 rfl (lv_at hl 0 rfl) ?_
  refine lv_iconst (v := 0) hx hb dX3_goBack_16 (by decide) ?_
  refine yVi (As := [.int x1, .int 0]) (cw := (cW o u cI cZ cJ 83)) (ci := 7) S (v_X7_at_72 l D cI cZ cJ o u 83 ra ga σ x1 0 _ H.size hok) mi_X7_at kw_3_18 rfl rfl ⟨Nat.le_of_ble_eq_true rfl, Nat.le_of_ble_eq_true rfl⟩ hP hD hK hS hA hB cW_72 rfl rfl hl.1 (Nat.le_of_ble_eq_true rfl) ⟨Nat.le_of_ble_eq_true rfl, Nat.le_of_ble_eq_true rfl⟩ dX3_goBack_17 (fun x3 σ2 H locs hok hz hP hD hS => ?_)
  refine yp (ci := 3) (v := .int x3) (cw := (cW o u cI cZ cJ 83)) S inX3 tyX3 tyX3_ok nmX3 rfl hK hP hD hS cW_65 12 (by decide) kw_5_141 rfl rfl rfl rfl (Nat.le_of_ble_eq_true rfl) dX3_goBack_20 cWp_65_12 (fun σ4 H locs eσ4 hP hD hS => ?_)
  have hok := hok σ4 eσ4
  refine lv_aload_n hx hb dX3_goBack_23 rfl (lv_at hl 1 rfl) ?_
  refine lv_aload_n hx hb dX3_goBack_24 rfl (lv_at hl 1 rfl) ?_
  refine xg (ci := 3) S inX3 rfl hK hP cW_65 7 (by decide) rfl kw_5_136 rfl dX3_goBack_25 ?_
  refine lv_iload_n hx hb dX3_goBack_28 rfl (lv_at hl 0 rfl) ?_
  refine lv_iconst (v := 1) hx hb dX3_goBack_29 (by decide) ?_
  refine yVi (As := [.int x1, .int 1]) (cw := (cW o u cI cZ cJ 83)) (ci := 7) S (v_X7_at_72 l D cI cZ cJ o u 83 ra ga σ4 x1 1 _ H.size hok) mi_X7_at kw_3_18 rfl rfl ⟨Nat.le_of_ble_eq_true rfl, Nat.le_of_ble_eq_true rfl⟩ hP hD hK hS hA hB cW_72 rfl rfl hl.1 (Nat.le_of_ble_eq_true rfl) ⟨Nat.le_of_ble_eq_true rfl, Nat.le_of_ble_eq_true rfl⟩ dX3_goBack_30 (fun x6 σ5 H locs hok hz hP hD hS => ?_)
  refine yp (ci := 3) (v := .int x6) (cw := (cW o u cI cZ cJ 83)) S inX3 tyX3 tyX3_ok nmX3 rfl hK hP hD hS cW_65 13 (by decide) kw_5_142 rfl rfl rfl rfl (Nat.le_of_ble_eq_true rfl) dX3_goBack_33 cWp_65_13 (fun σ7 H locs eσ7 hP hD hS => ?_)
  have hok := hok σ7 eσ7
  refine lv_aload_n hx hb dX3_goBack_36 rfl (lv_at hl 1 rfl) ?_
  refine lv_aload_n hx hb dX3_goBack_37 rfl (lv_at hl 1 rfl) ?_
  refine xg (ci := 3) S inX3 rfl hK hP cW_65 7 (by decide) rfl kw_5_136 rfl dX3_goBack_38 ?_
  refine lv_iload_n hx hb dX3_goBack_41 rfl (lv_at hl 0 rfl) ?_
  refine lv_iconst (v := 2) hx hb dX3_goBack_42 (by decide) ?_
  refine yVi (As := [.int x1, .int 2]) (cw := (cW o u cI cZ cJ 83)) (ci := 7) S (v_X7_at_72 l D cI cZ cJ o u 83 ra ga σ7 x1 2 _ H.size hok) mi_X7_at kw_3_18 rfl rfl ⟨Nat.le_of_ble_eq_true rfl, Nat.le_of_ble_eq_true rfl⟩ hP hD hK hS hA hB cW_72 rfl rfl hl.1 (Nat.le_of_ble_eq_true rfl) ⟨Nat.le_of_ble_eq_true rfl, Nat.le_of_ble_eq_true rfl⟩ dX3_goBack_43 (fun x9 σ8 H locs hok hz hP hD hS => ?_)
  refine yp (ci := 3) (v := .int x9) (cw := (cW o u cI cZ cJ 83)) S inX3 tyX3 tyX3_ok nmX3 rfl hK hP hD hS cW_65 14 (by decide) kw_5_143 rfl rfl rfl rfl (Nat.le_of_ble_eq_true rfl) dX3_goBack_46 cWp_65_14 (fun σ10 H locs eσ10 hP hD hS => ?_)
  have hok := hok σ10 eσ10
  refine lv_aload_n hx hb dX3_goBack_49 rfl (lv_at hl 1 rfl) ?_
  refine lv_aload_n hx hb dX3_goBack_50 rfl (lv_at hl 1 rfl) ?_
  refine xg (ci := 3) S inX3 rfl hK hP cW_65 7 (by decide) rfl kw_5_136 rfl dX3_goBack_51 ?_
  refine lv_iload_n hx hb dX3_goBack_54 rfl (lv_at hl 0 rfl) ?_
  refine lv_iconst (v := 3) hx hb dX3_goBack_55 (by decide) ?_
  refine yVi (As := [.int x1, .int 3]) (cw := (cW o u cI cZ cJ 83)) (ci := 7) S (v_X7_at_72 l D cI cZ cJ o u 83 ra ga σ10 x1 3 _ H.size hok) mi_X7_at kw_3_18 rfl rfl ⟨Nat.le_of_ble_eq_true rfl, Nat.le_of_ble_eq_true rfl⟩ hP hD hK hS hA hB cW_72 rfl rfl hl.1 (Nat.le_of_ble_eq_true rfl) ⟨Nat.le_of_ble_eq_true rfl, Nat.le_of_ble_eq_true rfl⟩ dX3_goBack_56 (fun x12 σ11 H locs hok hz hP hD hS => ?_)
  refine yp (ci := 3) (v := .int x12) (cw := (cW o u cI cZ cJ 83)) S inX3 tyX3 tyX3_ok nmX3 rfl hK hP hD hS cW_65 15 (by decide) kw_5_144 rfl rfl rfl rfl (Nat.le_of_ble_eq_true rfl) dX3_goBack_59 cWp_65_15 (fun σ13 H locs eσ13 hP hD hS => ?_)
  have hok := hok σ13 eσ13
  refine lv_aload_n hx hb dX3_goBack_62 rfl (lv_at hl 1 rfl) ?_
  refine xg (ci := 3) S inX3 rfl hK hP cW_65 8 (by decide) rfl kw_5_137 rfl dX3_goBack_63 ?_
  refine lv_aload_n hx hb dX3_goBack_66 rfl (lv_at hl 1 rfl) ?_
  refine xg (ci := 3) S inX3 rfl hK hP cW_65 7 (by decide) rfl kw_5_136 rfl dX3_goBack_67 ?_
  refine lv_iload_n hx hb dX3_goBack_70 rfl (lv_at hl 0 rfl) ?_
  refine lv_iconst (v := 4) hx hb dX3_goBack_71 (by decide) ?_
  refine yVi (As := [.int x1, .int 4]) (cw := (cW o u cI cZ cJ 83)) (ci := 7) S (v_X7_at_72 l D cI cZ cJ o u 83 ra ga σ13 x1 4 _ H.size hok) mi_X7_at kw_3_18 rfl rfl ⟨Nat.le_of_ble_eq_true rfl, Nat.le_of_ble_eq_true rfl⟩ hP hD hK hS hA hB cW_72 rfl rfl hl.1 (Nat.le_of_ble_eq_true rfl) ⟨Nat.le_of_ble_eq_true rfl, Nat.le_of_ble_eq_true rfl⟩ dX3_goBack_72 (fun x15 σ14 H locs hok hz hP hD hS => ?_)
  refine yVv (As := [.int x15]) (cw := (cW o u cI cZ cJ 83)) (ci := 7) S (v_X7_cut_74 l D cI cZ cJ o u 83 ra ga σ14 x15 _ H.size hok) mi_X7_cut kw_2_212 rfl rfl ⟨Nat.le_of_ble_eq_true rfl, Nat.le_of_ble_eq_true rfl⟩ hP hD hK hS hA hB cW_74 rfl rfl hl.1 (Nat.le_of_ble_eq_true rfl) ⟨Nat.le_of_ble_eq_true rfl, Nat.le_of_ble_eq_true rfl⟩ dX3_goBack_75 (fun σ16 H locs hok hz hP hD hS => ?_)
  refine lv_aload_n hx hb dX3_goBack_78 rfl (lv_at hl 1 rfl) ?_
  refine xg (ci := 3) S inX3 rfl hK hP cW_65 7 (by decide) rfl kw_5_136 rfl dX3_goBack_79 ?_
  refine lv_iload_n hx hb dX3_goBack_82 rfl (lv_at hl 0 rfl) ?_
  refine yVv (As := [.int x1]) (cw := (cW o u cI cZ cJ 83)) (ci := 7) S (v_X7_cut_72 l D cI cZ cJ o u 83 ra ga σ16 x1 _ H.size hok) mi_X7_cut kw_2_212 rfl rfl ⟨Nat.le_of_ble_eq_true rfl, Nat.le_of_ble_eq_true rfl⟩ hP hD hK hS hA hB cW_72 rfl rfl hl.1 (Nat.le_of_ble_eq_true rfl) ⟨Nat.le_of_ble_eq_true rfl, Nat.le_of_ble_eq_true rfl⟩ dX3_goBack_83 (fun σ17 H locs hok hz hP hD hS => ?_)
  refine lv_iload_n hx hb dX3_goBack_86 rfl (lv_at hl 0 rfl) ?_
  refine lv_if_ne (tgt := 106) hx hb dX3_goBack_87 (by decide) (fun c_87 => ?_) (fun c_87 => ?_)
  · have hok := hok.2 c_87
    exact yEndv S hr hlocks hP hD hS (Nat.le_of_ble_eq_true rfl) (Nat.le_of_ble_eq_true rfl) dX3_goBack_106 hok
  · have hok := hok.1 c_87
    refine lv_aload_n hx hb dX3_goBack_90 rfl (lv_at hl 1 rfl) ?_
    refine xg (ci := 3) S inX3 rfl hK hP cW_65 9 (by decide) rfl kw_5_138 rfl dX3_goBack_91 ?_
    refine lv_aload_n hx hb dX3_goBack_94 rfl (lv_at hl 1 rfl) ?_
    refine yVi (As := []) (cw := (cW o u cI cZ cJ 83)) (ci := 3) S (v_X3_pop l D cI cZ cJ o u 83 ra ga σ17 _ H.size hok) mi_X3_pop kw_3_67 rfl rfl ⟨Nat.le_of_ble_eq_true rfl, Nat.le_of_ble_eq_true rfl⟩ hP hD hK hS hA hB cW_65 rfl rfl hl.1 (Nat.le_of_ble_eq_true rfl) ⟨Nat.le_of_ble_eq_true rfl, Nat.le_of_ble_eq_true rfl⟩ dX3_goBack_95 (fun x19 σ18 H locs hok hz hP hD hS => ?_)
    refine yp (ci := 6) (v := .int x19) (cw := (cW o u cI cZ cJ 83)) S inX6 tyX6 tyX6_ok nmX6 rfl hK hP hD hS cW_84 9 (by decide) kw_5_92 rfl rfl rfl rfl (Nat.le_of_ble_eq_true rfl) dX3_goBack_98 cWp_84_9 (fun σ20 H locs eσ20 hP hD hS => ?_)
    have hok := hok σ20 eσ20
    refine lv_aload_n hx hb dX3_goBack_101 rfl (lv_at hl 1 rfl) ?_
    refine lv_iconst (v := 1) hx hb dX3_goBack_102 (by decide) ?_
    refine yp (ci := 3) (v := .int 1) (cw := (cW o u cI cZ cJ 83)) S inX3 tyX3 tyX3_ok nmX3 rfl hK hP hD hS cW_65 16 (by decide) kw_5_145 rfl rfl rfl rfl (Nat.le_of_ble_eq_true rfl) dX3_goBack_103 cWp_65_16 (fun σ21 H locs eσ21 hP hD hS => ?_)
    have hok := hok σ21 eσ21
    exact yEndv S hr hlocks hP hD hS (Nat.le_of_ble_eq_true rfl) (Nat.le_of_ble_eq_true rfl) dX3_goBack_106 hok

set_option maxHeartbeats 8000000 in
set_option maxRecDepth 100000 in
theorem v_X3_copy (l : Launch) (D : va_G) (cI cZ cJ : ClassId) (o : Nat) (u : Nat → Nat) (T : Nat) (ra : Nat → Nat) (ga : SG) (σ : FS) (a1 : Int32) (Φ : FS → Prop) (sz : Nat) (hok : (wp_X3_copy σ a1 Φ)) : Met l yX3_copy (uW yX3_copy cX3_copy 6 none) ({ frames := 3, cells := 0, slots := 0, locals := 68 }) (va_Pc [.ref (u 64), .int a1] (aS ra ga D (tyL cI cZ cJ) (cW o u cI cZ cJ T σ) sz)) (yQv Φ D (cW o u cI cZ cJ T) (va_A (cW o u cI cZ cJ T σ) sz)) 0 0 (va_A (cW o u cI cZ cJ T σ) sz) := by
  refine aStart (lv := [(0, .ref (u 64)), (1, .int a1)]) (Qc := fun A => yQv Φ D (cW o u cI cZ cJ T) A) (by decide) (Nat.le_of_ble_eq_true rfl) rfl ?_
  intro p e s m args below meth c ls A H S hr hlocks hnm hl hK hP hD hS hA hB
  have hx := S.1
  have hb := S.2.1
  refine lv_aload_n hx hb dX3_copy_0 rfl (lv_at hl 0 rfl) ?_
  refine xg (ci := 3) S inX3 rfl hK hP cW_65 4 (by decide) rfl kw_5_133 rfl dX3_copy_1 ?_
  refine lv_iload_n hx hb dX3_copy_4 rfl (lv_at hl 1 rfl) ?_
  refine lv_iconst (v := 0) hx hb dX3_copy_5 (by decide) ?_
  refine yVi (As := [.int a1, .int 0]) (cw := (cW o u cI cZ cJ T)) (ci := 7) S (v_X7_at_66 l D cI cZ cJ o u T ra ga σ a1 0 _ H.size hok) mi_X7_at kw_3_18 rfl rfl ⟨Nat.le_of_ble_eq_true rfl, Nat.le_of_ble_eq_true rfl⟩ hP hD hK hS hA hB cW_66 rfl rfl hl.1 (Nat.le_of_ble_eq_true rfl) ⟨Nat.le_of_ble_eq_true rfl, Nat.le_of_ble_eq_true rfl⟩ dX3_copy_6 (fun x2 σ1 H locs hok hz hP hD hS => ?_)
  refine lv_istore_n (lv' := [(2, .int x2), (0, .ref (u 64)), (1, .int a1)]) hx hb dX3_copy_9 rfl hl (by decide) rfl (fun ls hl => ?_)
  refine lv_aload_n hx hb dX3_copy_10 rfl (lv_at hl 1 rfl) ?_
  refine xg (ci := 3) S inX3 rfl hK hP cW_65 4 (by decide) rfl kw_5_133 rfl dX3_copy_11 ?_
  refine lv_iload_n hx hb dX3_copy_14 rfl (lv_at hl 2 rfl) ?_
  refine lv_iconst (v := 1) hx hb dX3_copy_15 (by decide) ?_
  refine yVi (As := [.int a1, .int 1]) (cw := (cW o u cI cZ cJ T)) (ci := 7) S (v_X7_at_66 l D cI cZ cJ o u T ra ga σ1 a1 1 _ H.size hok) mi_X7_at kw_3_18 rfl rfl ⟨Nat.le_of_ble_eq_true rfl, Nat.le_of_ble_eq_true rfl⟩ hP hD hK hS hA hB cW_66 rfl rfl hl.1 (Nat.le_of_ble_eq_true rfl) ⟨Nat.le_of_ble_eq_true rfl, Nat.le_of_ble_eq_true rfl⟩ dX3_copy_16 (fun x4 σ3 H locs hok hz hP hD hS => ?_)
  refine lv_istore_n (lv' := [(3, .int x4), (2, .int x2), (0, .ref (u 64)), (1, .int a1)]) hx hb dX3_copy_19 rfl hl (by decide) rfl (fun ls hl => ?_)
  refine lv_aload_n hx hb dX3_copy_20 rfl (lv_at hl 2 rfl) ?_
  refine xg (ci := 3) S inX3 rfl hK hP cW_65 4 (by decide) rfl kw_5_133 rfl dX3_copy_21 ?_
  refine xg (ci := 7) S inX7 rfl hK hP cW_66 2 (by decide) rfl kw_5_57 rfl dX3_copy_24 ?_
  refine lv_topi (fun x5 ex5 => ?_)
  have hok := hok x5 ex5
  refine lv_istore (lv' := [(4, .int x5), (3, .int x4), (2, .int x2), (0, .ref (u 64)), (1, .int a1)]) hx hb dX3_copy_27 hl (by decide) rfl (fun ls hl => ?_)
  refine lv_iconst (v := 0) hx hb dX3_copy_29 (by decide) ?_
  refine lv_istore (lv' := [(5, .int 0), (4, .int x5), (3, .int x4), (2, .int x2), (0, .ref (u 64)), (1, .int a1)]) hx hb dX3_copy_30 hl (by decide) rfl (fun ls hl => ?_)
  have lp32 : ∀ (K : FS → Int32 → Prop), (∀ (τ0 : FS) (l5_0 : Int32) (H : Heap) (locs : List Loc) (ls : Array Slot), K τ0 l5_0 → lv_has ls 6 [(5, .int l5_0), (4, .int x5), (3, .int x4), (2, .int x2), (0, .ref (u 64)), (1, .int a1)] → va_P D vwCl (cW o u cI cZ cJ T τ0) H → va_D A (cW o u cI cZ cJ T τ0) → va_S A s.heap H locs → W p l e ({ frames := 3, cells := 0, slots := 0, locals := 68 }) s m args below meth c H locs 0 0 (MQ below (yQv Φ D (cW o u cI cZ cJ T) A) args s 0 0 A) (F0 m 71 ls [])) → ∀ (n0 : Nat) (τ0 : FS) (l5_0 : Int32) (H : Heap) (locs : List Loc) (ls : Array Slot), wp_X3_copy_32 a1 x2 x4 x5 Φ K n0 τ0 l5_0 → lv_has ls 6 [(5, .int l5_0), (4, .int x5), (3, .int x4), (2, .int x2), (0, .ref (u 64)), (1, .int a1)] → va_P D vwCl (cW o u cI cZ cJ T τ0) H → va_D A (cW o u cI cZ cJ T τ0) → va_S A s.heap H locs → W p l e ({ frames := 3, cells := 0, slots := 0, locals := 68 }) s m args below meth c H locs 0 0 (MQ below (yQv Φ D (cW o u cI cZ cJ T) A) args s 0 0 A) (F0 m 32 ls []) := by
    intro K hk n0
    induction n0 with
    | zero => intro τ0 l5_0 H locs ls hok; exact False.elim hok
    | succ n0 ih32 =>
      intro τ0 l5_0 H locs ls hok hl hP hD hS
      refine lv_iload hx hb dX3_copy_32 (lv_at hl 0 rfl) ?_
      refine lv_iload_n hx hb dX3_copy_34 rfl (lv_at hl 2 rfl) ?_
      refine lv_icmp_ge (tgt := 71) hx hb dX3_copy_35 (by decide) (fun c_35 => ?_) (fun c_35 => ?_)
      · have hok := hok.1 c_35
        exact hk τ0 l5_0 H locs ls hok (lv_sub hl [0, 1, 2, 3, 4, 5] rfl) hP hD hS
      · have hok := hok.2 c_35
        refine lv_aload_n hx hb dX3_copy_38 rfl (lv_at hl 4 rfl) ?_
        refine xg (ci := 3) S inX3 rfl hK hP cW_65 4 (by decide) rfl kw_5_133 rfl dX3_copy_39 ?_
        refine lv_aload_n hx hb dX3_copy_42 rfl (lv_at hl 4 rfl) ?_
        refine xg (ci := 3) S inX3 rfl hK hP cW_65 4 (by decide) rfl kw_5_133 rfl dX3_copy_43 ?_
        refine yVi (As := []) (cw := (cW o u cI cZ cJ T)) (ci := 7) S (v_X7_add_66 l D cI cZ cJ o u T ra ga τ0 _ H.size hok) mi_X7_add kw_2_224 rfl rfl ⟨Nat.le_of_ble_eq_true rfl, Nat.le_of_ble_eq_true rfl⟩ hP hD hK hS hA hB cW_66 rfl rfl hl.1 (Nat.le_of_ble_eq_true rfl) ⟨Nat.le_of_ble_eq_true rfl, Nat.le_of_ble_eq_true rfl⟩ dX3_copy_46 (fun x7 σ6 H locs hok hz hP hD hS => ?_)
        refine lv_iconst (v := 0) hx hb dX3_copy_49 (by decide) ?_
        refine lv_aload_n hx hb dX3_copy_50 rfl (lv_at hl 4 rfl) ?_
        refine xg (ci := 3) S inX3 rfl hK hP cW_65 4 (by decide) rfl kw_5_133 rfl dX3_copy_51 ?_
        refine lv_iload_n hx hb dX3_copy_54 rfl (lv_at hl 3 rfl) ?_
        refine lv_iload hx hb dX3_copy_55 (lv_at hl 0 rfl) ?_
        refine xiadd (v := x2 + l5_0) S dX3_copy_57 rfl ?_
        refine lv_iconst (v := 0) hx hb dX3_copy_58 (by decide) ?_
        refine yVi (As := [.int (x2 + l5_0), .int 0]) (cw := (cW o u cI cZ cJ T)) (ci := 7) S (v_X7_at_66 l D cI cZ cJ o u T ra ga σ6 (x2 + l5_0) 0 _ H.size hok) mi_X7_at kw_3_18 rfl rfl ⟨Nat.le_of_ble_eq_true rfl, Nat.le_of_ble_eq_true rfl⟩ hP hD hK hS hA hB cW_66 rfl rfl hl.1 (Nat.le_of_ble_eq_true rfl) ⟨Nat.le_of_ble_eq_true rfl, Nat.le_of_ble_eq_true rfl⟩ dX3_copy_59 (fun x9 σ8 H locs hok hz hP hD hS => ?_)
        refine yVv (As := [.int x7, .int 0, .int x9]) (cw := (cW o u cI cZ cJ T)) (ci := 7) S (v_X7_put_66 l D cI cZ cJ o u T ra ga σ8 x7 0 x9 _ H.size hok) mi_X7_put kw_3_5 rfl rfl ⟨Nat.le_of_ble_eq_true rfl, Nat.le_of_ble_eq_true rfl⟩ hP hD hK hS hA hB cW_66 rfl rfl hl.1 (Nat.le_of_ble_eq_true rfl) ⟨Nat.le_of_ble_eq_true rfl, Nat.le_of_ble_eq_true rfl⟩ dX3_copy_62 (fun σ10 H locs hok hz hP hD hS => ?_)
        refine lv_iinc (v := l5_0 + 1) (lv' := [(5, .int (l5_0 + 1)), (4, .int x5), (3, .int x4), (2, .int x2), (0, .ref (u 64)), (1, .int a1)]) hx hb dX3_copy_65 hl (k := 0) rfl rfl (by decide) rfl (fun ls hl => ?_)
        refine lv_goto (tgt := 32) hx hb dX3_copy_68 (by decide) ?_
        exact ih32 σ10 (l5_0 + 1) H locs ls hok (lv_sub hl [0, 1, 2, 3, 4, 5] rfl) hP hD hS
  refine lp32 _ ?_ FUEL σ3 0 _ _ _ hok (lv_sub hl [0, 1, 2, 3, 4, 5] rfl) hP hD hS
  intro σ11 x12 H locs ls hok hl hP hD hS
  refine lv_aload_n hx hb dX3_copy_71 rfl (lv_at hl 4 rfl) ?_
  refine lv_iload hx hb dX3_copy_72 (lv_at hl 1 rfl) ?_
  refine lv_iload_n hx hb dX3_copy_74 rfl (lv_at hl 2 rfl) ?_
  refine yVv (As := [.int x5, .int x4]) (cw := (cW o u cI cZ cJ T)) (ci := 3) S (v_X3_push l D cI cZ cJ o u T ra ga σ11 x5 x4 _ H.size hok) mi_X3_push kw_3_43 rfl rfl ⟨Nat.le_of_ble_eq_true rfl, Nat.le_of_ble_eq_true rfl⟩ hP hD hK hS hA hB cW_65 rfl rfl hl.1 (Nat.le_of_ble_eq_true rfl) ⟨Nat.le_of_ble_eq_true rfl, Nat.le_of_ble_eq_true rfl⟩ dX3_copy_75 (fun σ13 H locs hok hz hP hD hS => ?_)
  exact yEndv S hr hlocks hP hD hS (Nat.le_of_ble_eq_true rfl) (Nat.le_of_ble_eq_true rfl) dX3_copy_78 hok

set_option maxHeartbeats 8000000 in
set_option maxRecDepth 100000 in
theorem v_X3_put (l : Launch) (D : va_G) (cI cZ cJ : ClassId) (o : Nat) (u : Nat → Nat) (T : Nat) (ra : Nat → Nat) (ga : SG) (σ : FS) (a1 : Int32) (a2 : Int32) (Φ : FS → Prop) (sz : Nat) (hok : (wp_X3_put σ a1 a2 Φ)) : Met l yX3_put (uW yX3_put cX3_put 5 none) ({ frames := 3, cells := 0, slots := 0, locals := 65 }) (va_Pc [.ref (u 64), .int a1, .int a2] (aS ra ga D (tyL cI cZ cJ) (cW o u cI cZ cJ T σ) sz)) (yQv Φ D (cW o u cI cZ cJ T) (va_A (cW o u cI cZ cJ T σ) sz)) 0 0 (va_A (cW o u cI cZ cJ T σ) sz) := by
  refine aStart (lv := [(0, .ref (u 64)), (1, .int a1), (2, .int a2)]) (Qc := fun A => yQv Φ D (cW o u cI cZ cJ T) A) (by decide) (Nat.le_of_ble_eq_true rfl) rfl ?_
  intro p e s m args below meth c ls A H S hr hlocks hnm hl hK hP hD hS hA hB
  have hx := S.1
  have hb := S.2.1
  refine lv_aload_n hx hb dX3_put_0 rfl (lv_at hl 0 rfl) ?_
  refine xg (ci := 3) S inX3 rfl hK hP cW_65 2 (by decide) rfl kw_5_131 rfl dX3_put_1 ?_
  refine xg (ci := 4) S inX4 rfl hK hP cW_20 5 (by decide) rfl kw_4_99 rfl dX3_put_4 ?_
  refine lv_aload_n hx hb dX3_put_7 rfl (lv_at hl 0 rfl) ?_
  refine xg (ci := 3) S inX3 rfl hK hP cW_65 3 (by decide) rfl kw_5_132 rfl dX3_put_8 ?_
  refine xg (ci := 0) S inX0 rfl hK hP cW_52 10 (by decide) rfl kw_4_237 rfl dX3_put_11 ?_
  refine lv_iload_n hx hb dX3_put_14 rfl (lv_at hl 2 rfl) ?_
  have h_15 := hok.1
  have hok := hok.2
  refine xiald (t0 := 0) (v := (g σ 58 a2)) S hK hP cW_58 rfl h_15 rfl dX3_put_15 ?_
  have h_16 := hok.1
  have hok := hok.2
  refine xiald (t0 := 0) (v := (g σ 24 (g σ 58 a2))) S hK hP cW_24 rfl h_16 rfl dX3_put_16 ?_
  refine lv_iconst (v := 1) hx hb dX3_put_17 (by decide) ?_
  refine lv_icmp_ne (tgt := 25) hx hb dX3_put_18 (by decide) (fun c_18 => ?_) (fun c_18 => ?_)
  · have hok := hok.2 c_18
    refine lv_iconst (v := 0) hx hb dX3_put_25 (by decide) ?_
    refine lv_istore_n (lv' := [(3, .int 0), (0, .ref (u 64)), (1, .int a1), (2, .int a2)]) hx hb dX3_put_26 rfl hl (by decide) rfl (fun ls hl => ?_)
    refine lv_iload_n hx hb dX3_put_27 rfl (lv_at hl 0 rfl) ?_
    refine lv_if_eq (tgt := 43) hx hb dX3_put_28 (by decide) (fun _ => ?_) (fun c => absurd c (by decide))
    refine lv_iload_n hx hb dX3_put_43 rfl (lv_at hl 2 rfl) ?_
    refine lv_istore (lv' := [(4, .int a1), (3, .int 0), (0, .ref (u 64)), (1, .int a1), (2, .int a2)]) hx hb dX3_put_44 hl (by decide) rfl (fun ls hl => ?_)
    refine lv_aload_n hx hb dX3_put_46 rfl (lv_at hl 2 rfl) ?_
    refine xg (ci := 3) S inX3 rfl hK hP cW_65 4 (by decide) rfl kw_5_133 rfl dX3_put_47 ?_
    refine lv_iload hx hb dX3_put_50 (lv_at hl 0 rfl) ?_
    refine lv_iconst (v := 1) hx hb dX3_put_52 (by decide) ?_
    refine lv_aload_n hx hb dX3_put_53 rfl (lv_at hl 2 rfl) ?_
    refine xg (ci := 3) S inX3 rfl hK hP cW_65 5 (by decide) rfl kw_5_134 rfl dX3_put_54 ?_
    refine lv_aload_n hx hb dX3_put_57 rfl (lv_at hl 2 rfl) ?_
    refine xg (ci := 3) S inX3 rfl hK hP cW_65 5 (by decide) rfl kw_5_134 rfl dX3_put_58 ?_
    refine xg (ci := 7) S inX7 rfl hK hP cW_68 2 (by decide) rfl kw_5_57 rfl dX3_put_61 ?_
    refine lv_iconst (v := 1) hx hb dX3_put_64 (by decide) ?_
    refine xisub (v := (σ.1 68 2) - 1) S dX3_put_65 rfl ?_
    refine lv_iconst (v := 1) hx hb dX3_put_66 (by decide) ?_
    refine yVi (As := [.int ((σ.1 68 2) - 1), .int 1]) (cw := (cW o u cI cZ cJ T)) (ci := 7) S (v_X7_at_68 l D cI cZ cJ o u T ra ga σ ((σ.1 68 2) - 1) 1 _ H.size hok) mi_X7_at kw_3_18 rfl rfl ⟨Nat.le_of_ble_eq_true rfl, Nat.le_of_ble_eq_true rfl⟩ hP hD hK hS hA hB cW_68 rfl rfl hl.1 (Nat.le_of_ble_eq_true rfl) ⟨Nat.le_of_ble_eq_true rfl, Nat.le_of_ble_eq_true rfl⟩ dX3_put_67 (fun x2 σ1 H locs hok hz hP hD hS => ?_)
    refine yVv (As := [.int a1, .int 1, .int x2]) (cw := (cW o u cI cZ cJ T)) (ci := 7) S (v_X7_put_66 l D cI cZ cJ o u T ra ga σ1 a1 1 x2 _ H.size hok) mi_X7_put kw_3_5 rfl rfl ⟨Nat.le_of_ble_eq_true rfl, Nat.le_of_ble_eq_true rfl⟩ hP hD hK hS hA hB cW_66 rfl rfl hl.1 (Nat.le_of_ble_eq_true rfl) ⟨Nat.le_of_ble_eq_true rfl, Nat.le_of_ble_eq_true rfl⟩ dX3_put_70 (fun σ3 H locs hok hz hP hD hS => ?_)
    refine lv_aload_n hx hb dX3_put_73 rfl (lv_at hl 2 rfl) ?_
    refine xg (ci := 3) S inX3 rfl hK hP cW_65 4 (by decide) rfl kw_5_133 rfl dX3_put_74 ?_
    refine lv_iload hx hb dX3_put_77 (lv_at hl 0 rfl) ?_
    refine lv_iconst (v := 0) hx hb dX3_put_79 (by decide) ?_
    refine lv_aload_n hx hb dX3_put_80 rfl (lv_at hl 2 rfl) ?_
    refine yVi (As := []) (cw := (cW o u cI cZ cJ T)) (ci := 3) S (v_X3_pop l D cI cZ cJ o u T ra ga σ3 _ H.size hok) mi_X3_pop kw_3_67 rfl rfl ⟨Nat.le_of_ble_eq_true rfl, Nat.le_of_ble_eq_true rfl⟩ hP hD hK hS hA hB cW_65 rfl rfl hl.1 (Nat.le_of_ble_eq_true rfl) ⟨Nat.le_of_ble_eq_true rfl, Nat.le_of_ble_eq_true rfl⟩ dX3_put_81 (fun x5 σ4 H locs hok hz hP hD hS => ?_)
    refine yVv (As := [.int a1, .int 0, .int x5]) (cw := (cW o u cI cZ cJ T)) (ci := 7) S (v_X7_put_66 l D cI cZ cJ o u T ra ga σ4 a1 0 x5 _ H.size hok) mi_X7_put kw_3_5 rfl rfl ⟨Nat.le_of_ble_eq_true rfl, Nat.le_of_ble_eq_true rfl⟩ hP hD hK hS hA hB cW_66 rfl rfl hl.1 (Nat.le_of_ble_eq_true rfl) ⟨Nat.le_of_ble_eq_true rfl, Nat.le_of_ble_eq_true rfl⟩ dX3_put_84 (fun σ6 H locs hok hz hP hD hS => ?_)
    exact yEndv S hr hlocks hP hD hS (Nat.le_of_ble_eq_true rfl) (Nat.le_of_ble_eq_true rfl) dX3_put_87 hok
  · have hok := hok.1 c_18
    refine lv_iconst (v := 1) hx hb dX3_put_21 (by decide) ?_
    refine lv_goto (tgt := 26) hx hb dX3_put_22 (by decide) ?_
    refine lv_istore_n (lv' := [(3, .int 1), (0, .ref (u 64)), (1, .int a1), (2, .int a2)]) hx hb dX3_put_26 rfl hl (by decide) rfl (fun ls hl => ?_)
    refine lv_iload_n hx hb dX3_put_27 rfl (lv_at hl 0 rfl) ?_
    refine lv_if_eq (tgt := 43) hx hb dX3_put_28 (by decide) (fun c => absurd c (by decide)) (fun _ => ?_)
    refine lv_aload_n hx hb dX3_put_31 rfl (lv_at hl 1 rfl) ?_
    refine xg (ci := 3) S inX3 rfl hK hP cW_65 4 (by decide) rfl kw_5_133 rfl dX3_put_32 ?_
    refine lv_iload_n hx hb dX3_put_35 rfl (lv_at hl 2 rfl) ?_
    refine lv_iconst (v := 0) hx hb dX3_put_36 (by decide) ?_
    refine yVi (As := [.int a1, .int 0]) (cw := (cW o u cI cZ cJ T)) (ci := 7) S (v_X7_at_66 l D cI cZ cJ o u T ra ga σ a1 0 _ H.size hok) mi_X7_at kw_3_18 rfl rfl ⟨Nat.le_of_ble_eq_true rfl, Nat.le_of_ble_eq_true rfl⟩ hP hD hK hS hA hB cW_66 rfl rfl hl.1 (Nat.le_of_ble_eq_true rfl) ⟨Nat.le_of_ble_eq_true rfl, Nat.le_of_ble_eq_true rfl⟩ dX3_put_37 (fun x8 σ7 H locs hok hz hP hD hS => ?_)
    refine lv_goto (tgt := 44) hx hb dX3_put_40 (by decide) ?_
    refine lv_istore (lv' := [(4, .int x8), (3, .int 1), (0, .ref (u 64)), (1, .int a1), (2, .int a2)]) hx hb dX3_put_44 hl (by decide) rfl (fun ls hl => ?_)
    refine lv_aload_n hx hb dX3_put_46 rfl (lv_at hl 2 rfl) ?_
    refine xg (ci := 3) S inX3 rfl hK hP cW_65 4 (by decide) rfl kw_5_133 rfl dX3_put_47 ?_
    refine lv_iload hx hb dX3_put_50 (lv_at hl 0 rfl) ?_
    refine lv_iconst (v := 1) hx hb dX3_put_52 (by decide) ?_
    refine lv_aload_n hx hb dX3_put_53 rfl (lv_at hl 2 rfl) ?_
    refine xg (ci := 3) S inX3 rfl hK hP cW_65 5 (by decide) rfl kw_5_134 rfl dX3_put_54 ?_
    refine lv_aload_n hx hb dX3_put_57 rfl (lv_at hl 2 rfl) ?_
    refine xg (ci := 3) S inX3 rfl hK hP cW_65 5 (by decide) rfl kw_5_134 rfl dX3_put_58 ?_
    refine xg (ci := 7) S inX7 rfl hK hP cW_68 2 (by decide) rfl kw_5_57 rfl dX3_put_61 ?_
    refine lv_iconst (v := 1) hx hb dX3_put_64 (by decide) ?_
    refine xisub (v := (σ7.1 68 2) - 1) S dX3_put_65 rfl ?_
    refine lv_iconst (v := 1) hx hb dX3_put_66 (by decide) ?_
    refine yVi (As := [.int ((σ7.1 68 2) - 1), .int 1]) (cw := (cW o u cI cZ cJ T)) (ci := 7) S (v_X7_at_68 l D cI cZ cJ o u T ra ga σ7 ((σ7.1 68 2) - 1) 1 _ H.size hok) mi_X7_at kw_3_18 rfl rfl ⟨Nat.le_of_ble_eq_true rfl, Nat.le_of_ble_eq_true rfl⟩ hP hD hK hS hA hB cW_68 rfl rfl hl.1 (Nat.le_of_ble_eq_true rfl) ⟨Nat.le_of_ble_eq_true rfl, Nat.le_of_ble_eq_true rfl⟩ dX3_put_67 (fun x10 σ9 H locs hok hz hP hD hS => ?_)
    refine yVv (As := [.int x8, .int 1, .int x10]) (cw := (cW o u cI cZ cJ T)) (ci := 7) S (v_X7_put_66 l D cI cZ cJ o u T ra ga σ9 x8 1 x10 _ H.size hok) mi_X7_put kw_3_5 rfl rfl ⟨Nat.le_of_ble_eq_true rfl, Nat.le_of_ble_eq_true rfl⟩ hP hD hK hS hA hB cW_66 rfl rfl hl.1 (Nat.le_of_ble_eq_true rfl) ⟨Nat.le_of_ble_eq_true rfl, Nat.le_of_ble_eq_true rfl⟩ dX3_put_70 (fun σ11 H locs hok hz hP hD hS => ?_)
    refine lv_aload_n hx hb dX3_put_73 rfl (lv_at hl 2 rfl) ?_
    refine xg (ci := 3) S inX3 rfl hK hP cW_65 4 (by decide) rfl kw_5_133 rfl dX3_put_74 ?_
    refine lv_iload hx hb dX3_put_77 (lv_at hl 0 rfl) ?_
    refine lv_iconst (v := 0) hx hb dX3_put_79 (by decide) ?_
    refine lv_aload_n hx hb dX3_put_80 rfl (lv_at hl 2 rfl) ?_
    refine yVi (As := []) (cw := (cW o u cI cZ cJ T)) (ci := 3) S (v_X3_pop l D cI cZ cJ o u T ra ga σ11 _ H.size hok) mi_X3_pop kw_3_67 rfl rfl ⟨Nat.le_of_ble_eq_true rfl, Nat.le_of_ble_eq_true rfl⟩ hP hD hK hS hA hB cW_65 rfl rfl hl.1 (Nat.le_of_ble_eq_true rfl) ⟨Nat.le_of_ble_eq_true rfl, Nat.le_of_ble_eq_true rfl⟩ dX3_put_81 (fun x13 σ12 H locs hok hz hP hD hS => ?_)
    refine yVv (As := [.int x8, .int 0, .int x13]) (cw := (cW o u cI cZ cJ T)) (ci := 7) S (v_X7_put_66 l D cI cZ cJ o u T ra ga σ12 x8 0 x13 _ H.size hok) mi_X7_put kw_3_5 rfl rfl ⟨Nat.le_of_ble_eq_true rfl, Nat.le_of_ble_eq_true rfl⟩ hP hD hK hS hA hB cW_66 rfl rfl hl.1 (Nat.le_of_ble_eq_true rfl) ⟨Nat.le_of_ble_eq_true rfl, Nat.le_of_ble_eq_true rfl⟩ dX3_put_84 (fun σ14 H locs hok hz hP hD hS => ?_)
    exact yEndv S hr hlocks hP hD hS (Nat.le_of_ble_eq_true rfl) (Nat.le_of_ble_eq_true rfl) dX3_put_87 hok

set_option maxHeartbeats 8000000 in
set_option maxRecDepth 100000 in
theorem v_X3_stow_t84 (l : Launch) (D : va_G) (cI cZ cJ : ClassId) (o : Nat) (u : Nat → Nat) (ra : Nat → Nat) (ga : SG) (σ : FS) (a1 : Int32) (a2 : Int32) (Φ : FS → Prop) (sz : Nat) (hok : (wp_X3_stow 84 σ a1 a2 Φ)) : Met l yX3_stow (uW yX3_stow cX3_stow 5 none) ({ frames := 3, cells := 0, slots := 0, locals := 65 }) (va_Pc [.ref (u 64), .int a1, .int a2] (aS ra ga D (tyL cI cZ cJ) (cW o u cI cZ cJ 83 σ) sz)) (yQv Φ D (cW o u cI cZ cJ 83) (va_A (cW o u cI cZ cJ 83 σ) sz)) 0 0 (va_A (cW o u cI cZ cJ 83 σ) sz) := by
  refine aStart (lv := [(0, .ref (u 64)), (1, .int a1), (2, .int a2)]) (Qc := fun A => yQv Φ D (cW o u cI cZ cJ 83) A) (by decide) (Nat.le_of_ble_eq_true rfl) rfl ?_
  intro p e s m args below meth c ls A H S hr hlocks hnm hl hK hP hD hS hA hB
  have hx := S.1
  have hb := S.2.1
  refine lv_aload_n hx hb dX3_stow_0 rfl (lv_at hl 0 rfl) ?_
  refine yVi (As := []) (cw := (cW o u cI cZ cJ 83)) (ci := 3) S (v_X3_pop l D cI cZ cJ o u 83 ra ga σ _ H.size hok) mi_X3_pop kw_3_67 rfl rfl ⟨Nat.le_of_ble_eq_true rfl, Nat.le_of_ble_eq_true rfl⟩ hP hD hK hS hA hB cW_65 rfl rfl hl.1 (Nat.le_of_ble_eq_true rfl) ⟨Nat.le_of_ble_eq_true rfl, Nat.le_of_ble_eq_true rfl⟩ dX3_stow_1 (fun x2 σ1 H locs hok hz hP hD hS => ?_)
  refine lv_istore_n (lv' := [(3, .int x2), (0, .ref (u 64)), (1, .int a1), (2, .int a2)]) hx hb dX3_stow_4 rfl hl (by decide) rfl (fun ls hl => ?_)
  refine lv_aload_n hx hb dX3_stow_5 rfl (lv_at hl 1 rfl) ?_
  refine yVi (As := []) (cw := (cW o u cI cZ cJ 83)) (ci := 3) S (v_X3_pop l D cI cZ cJ o u 83 ra ga σ1 _ H.size hok) mi_X3_pop kw_3_67 rfl rfl ⟨Nat.le_of_ble_eq_true rfl, Nat.le_of_ble_eq_true rfl⟩ hP hD hK hS hA hB cW_65 rfl rfl hl.1 (Nat.le_of_ble_eq_true rfl) ⟨Nat.le_of_ble_eq_true rfl, Nat.le_of_ble_eq_true rfl⟩ dX3_stow_6 (fun x4 σ3 H locs hok hz hP hD hS => ?_)
  refine lv_istore (lv' := [(4, .int x4), (3, .int x2), (0, .ref (u 64)), (1, .int a1), (2, .int a2)]) hx hb dX3_stow_9 hl (by decide) rfl (fun ls hl => ?_)
  refine lv_iload hx hb dX3_stow_11 (lv_at hl 0 rfl) ?_
  refine lv_if_lt (tgt := 30) hx hb dX3_stow_13 (by decide) (fun c_13 => ?_) (fun c_13 => ?_)
  · have hok := hok.1 c_13
    refine lv_aload_n hx hb dX3_stow_30 rfl (lv_at hl 2 rfl) ?_
    refine lv_iconst (v := 2) hx hb dX3_stow_31 (by decide) ?_
    refine lv_aload_n hx hb dX3_stow_32 rfl (lv_at hl 2 rfl) ?_
    refine xg (ci := 3) S inX3 rfl hK hP cW_65 3 (by decide) rfl kw_5_132 rfl dX3_stow_33 ?_
    refine xg (ci := 0) S inX0 rfl hK hP cW_52 10 (by decide) rfl kw_4_237 rfl dX3_stow_36 ?_
    refine lv_iload_n hx hb dX3_stow_39 rfl (lv_at hl 4 rfl) ?_
    have h_40 := hok.1
    have hok := hok.2
    refine xiald (t0 := 0) (v := (g σ3 58 a2)) S hK hP cW_58 rfl h_40 rfl dX3_stow_40 ?_
    refine yVv (As := [.int 2, .int (g σ3 58 a2)]) (cw := (cW o u cI cZ cJ 83)) (ci := 3) S (v_X3_trap_t84 l D cI cZ cJ o u ra ga σ3 2 (g σ3 58 a2) _ H.size hok) mi_X3_trap kw_3_35 rfl rfl ⟨Nat.le_of_ble_eq_true rfl, Nat.le_of_ble_eq_true rfl⟩ hP hD hK hS hA hB cW_65 rfl rfl hl.1 (Nat.le_of_ble_eq_true rfl) ⟨Nat.le_of_ble_eq_true rfl, Nat.le_of_ble_eq_true rfl⟩ dX3_stow_41 (fun σ5 H locs hok hz hP hD hS => ?_)
    refine lv_goto (tgt := 68) hx hb dX3_stow_44 (by decide) ?_
    exact yEndv S hr hlocks hP hD hS (Nat.le_of_ble_eq_true rfl) (Nat.le_of_ble_eq_true rfl) dX3_stow_68 hok
  · have hok := hok.2 c_13
    refine lv_iload hx hb dX3_stow_16 (lv_at hl 0 rfl) ?_
    refine lv_aload_n hx hb dX3_stow_18 rfl (lv_at hl 2 rfl) ?_
    refine xg (ci := 3) S inX3 rfl hK hP cW_65 4 (by decide) rfl kw_5_133 rfl dX3_stow_19 ?_
    refine lv_iload_n hx hb dX3_stow_22 rfl (lv_at hl 3 rfl) ?_
    refine lv_iconst (v := 1) hx hb dX3_stow_23 (by decide) ?_
    refine yVi (As := [.int a1, .int 1]) (cw := (cW o u cI cZ cJ 83)) (ci := 7) S (v_X7_at_66 l D cI cZ cJ o u 83 ra ga σ3 a1 1 _ H.size hok) mi_X7_at kw_3_18 rfl rfl ⟨Nat.le_of_ble_eq_true rfl, Nat.le_of_ble_eq_true rfl⟩ hP hD hK hS hA hB cW_66 rfl rfl hl.1 (Nat.le_of_ble_eq_true rfl) ⟨Nat.le_of_ble_eq_true rfl, Nat.le_of_ble_eq_true rfl⟩ dX3_stow_24 (fun x7 σ6 H locs hok hz hP hD hS => ?_)
    refine lv_icmp_lt (tgt := 47) hx hb dX3_stow_27 (by decide) (fun c_27 => ?_) (fun c_27 => ?_)
    · have hok := hok.1 c_27
      refine lv_aload_n hx hb dX3_stow_47 rfl (lv_at hl 2 rfl) ?_
      refine xg (ci := 3) S inX3 rfl hK hP cW_65 4 (by decide) rfl kw_5_133 rfl dX3_stow_48 ?_
      refine lv_aload_n hx hb dX3_stow_51 rfl (lv_at hl 2 rfl) ?_
      refine xg (ci := 3) S inX3 rfl hK hP cW_65 4 (by decide) rfl kw_5_133 rfl dX3_stow_52 ?_
      refine lv_iload_n hx hb dX3_stow_55 rfl (lv_at hl 3 rfl) ?_
      refine lv_iconst (v := 0) hx hb dX3_stow_56 (by decide) ?_
      refine yVi (As := [.int a1, .int 0]) (cw := (cW o u cI cZ cJ 83)) (ci := 7) S (v_X7_at_66 l D cI cZ cJ o u 83 ra ga σ6 a1 0 _ H.size hok) mi_X7_at kw_3_18 rfl rfl ⟨Nat.le_of_ble_eq_true rfl, Nat.le_of_ble_eq_true rfl⟩ hP hD hK hS hA hB cW_66 rfl rfl hl.1 (Nat.le_of_ble_eq_true rfl) ⟨Nat.le_of_ble_eq_true rfl, Nat.le_of_ble_eq_true rfl⟩ dX3_stow_57 (fun x9 σ8 H locs hok hz hP hD hS => ?_)
      refine lv_iload hx hb dX3_stow_60 (lv_at hl 0 rfl) ?_
      refine xiadd (v := x9 + x4) S dX3_stow_62 rfl ?_
      refine lv_iconst (v := 0) hx hb dX3_stow_63 (by decide) ?_
      refine lv_iload_n hx hb dX3_stow_64 rfl (lv_at hl 1 rfl) ?_
      refine yVv (As := [.int (x9 + x4), .int 0, .int x2]) (cw := (cW o u cI cZ cJ 83)) (ci := 7) S (v_X7_put_66 l D cI cZ cJ o u 83 ra ga σ8 (x9 + x4) 0 x2 _ H.size hok) mi_X7_put kw_3_5 rfl rfl ⟨Nat.le_of_ble_eq_true rfl, Nat.le_of_ble_eq_true rfl⟩ hP hD hK hS hA hB cW_66 rfl rfl hl.1 (Nat.le_of_ble_eq_true rfl) ⟨Nat.le_of_ble_eq_true rfl, Nat.le_of_ble_eq_true rfl⟩ dX3_stow_65 (fun σ10 H locs hok hz hP hD hS => ?_)
      exact yEndv S hr hlocks hP hD hS (Nat.le_of_ble_eq_true rfl) (Nat.le_of_ble_eq_true rfl) dX3_stow_68 hok
    · have hok := hok.2 c_27
      refine lv_aload_n hx hb dX3_stow_30 rfl (lv_at hl 2 rfl) ?_
      refine lv_iconst (v := 2) hx hb dX3_stow_31 (by decide) ?_
      refine lv_aload_n hx hb dX3_stow_32 rfl (lv_at hl 2 rfl) ?_
      refine xg (ci := 3) S inX3 rfl hK hP cW_65 3 (by decide) rfl kw_5_132 rfl dX3_stow_33 ?_
      refine xg (ci := 0) S inX0 rfl hK hP cW_52 10 (by decide) rfl kw_4_237 rfl dX3_stow_36 ?_
      refine lv_iload_n hx hb dX3_stow_39 rfl (lv_at hl 4 rfl) ?_
      have h_40 := hok.1
      have hok := hok.2
      refine xiald (t0 := 0) (v := (g σ6 58 a2)) S hK hP cW_58 rfl h_40 rfl dX3_stow_40 ?_
      refine yVv (As := [.int 2, .int (g σ6 58 a2)]) (cw := (cW o u cI cZ cJ 83)) (ci := 3) S (v_X3_trap_t84 l D cI cZ cJ o u ra ga σ6 2 (g σ6 58 a2) _ H.size hok) mi_X3_trap kw_3_35 rfl rfl ⟨Nat.le_of_ble_eq_true rfl, Nat.le_of_ble_eq_true rfl⟩ hP hD hK hS hA hB cW_65 rfl rfl hl.1 (Nat.le_of_ble_eq_true rfl) ⟨Nat.le_of_ble_eq_true rfl, Nat.le_of_ble_eq_true rfl⟩ dX3_stow_41 (fun σ11 H locs hok hz hP hD hS => ?_)
      refine lv_goto (tgt := 68) hx hb dX3_stow_44 (by decide) ?_
      exact yEndv S hr hlocks hP hD hS (Nat.le_of_ble_eq_true rfl) (Nat.le_of_ble_eq_true rfl) dX3_stow_68 hok

set_option maxHeartbeats 8000000 in
set_option maxRecDepth 100000 in
theorem v_X7_add_74 (l : Launch) (D : va_G) (cI cZ cJ : ClassId) (o : Nat) (u : Nat → Nat) (T : Nat) (ra : Nat → Nat) (ga : SG) (σ : FS) (Φ : Int32 → FS → Prop) (sz : Nat) (hok : (wp_X7_add 74 320 σ Φ)) : Met l yX7_add (uW yX7_add cX7_add 3 (some .int)) ({ frames := 0, cells := 0, slots := 0, locals := 0 }) (va_Pc [.ref (u 73)] (aS ra ga D (tyL cI cZ cJ) (cW o u cI cZ cJ T σ) sz)) (yQi Φ D (cW o u cI cZ cJ T) (va_A (cW o u cI cZ cJ T σ) sz)) 0 0 (va_A (cW o u cI cZ cJ T σ) sz) := by
  refine aStart (lv := [(0, .ref (u 73))]) (Qc := fun A => yQi Φ D (cW o u cI cZ cJ T) A) (by decide) (Nat.le_of_ble_eq_true rfl) rfl ?_
  intro p e s m args below meth c ls A H S hr hlocks hnm hl hK hP hD hS hA hB
  have hx := S.1
  have hb := S.2.1
  refine lv_aload_n hx hb dX7_add_0 rfl (lv_at hl 0 rfl) ?_
  refine xg (ci := 7) S inX7 rfl hK hP cW_74 2 (by decide) rfl kw_5_56 rfl dX7_add_1 ?_
  refine lv_iconst (v := 1) hx hb dX7_add_4 (by decide) ?_
  refine xiadd (v := (σ.1 74 2) + 1) S dX7_add_5 rfl ?_
  refine lv_aload_n hx hb dX7_add_6 rfl (lv_at hl 0 rfl) ?_
  refine xg (ci := 7) S inX7 rfl hK hP cW_74 0 (by decide) rfl kw_5_54 rfl dX7_add_7 ?_
  refine ximul (v := ((σ.1 74 2) + 1) * (σ.1 74 0)) S dX7_add_10 rfl ?_
  refine lv_topi (fun x1 ex1 => ?_)
  have hok := hok x1 ex1
  refine lv_istore_n (lv' := [(1, .int x1), (0, .ref (u 73))]) hx hb dX7_add_11 rfl hl (by decide) rfl (fun ls hl => ?_)
  refine lv_iload_n hx hb dX7_add_12 rfl (lv_at hl 0 rfl) ?_
  refine lv_aload_n hx hb dX7_add_13 rfl (lv_at hl 1 rfl) ?_
  refine xg (ci := 7) S inX7 rfl hK hP cW_74 1 (by decide) rfl kw_5_55 rfl dX7_add_14 ?_
  refine xalen (t0 := 0) (v := (nI 320)) S hK hP cW_75 rfl rfl dX7_add_17 ?_
  refine lv_icmp_le (tgt := 49) hx hb dX7_add_18 (by decide) (fun c_18 => ?_) (fun c_18 => ?_)
  · have hok := hok.1 c_18
    refine lv_iload_n hx hb dX7_add_49 rfl (lv_at hl 0 rfl) ?_
    refine lv_aload_n hx hb dX7_add_50 rfl (lv_at hl 1 rfl) ?_
    refine xg (ci := 7) S inX7 rfl hK hP cW_74 1 (by decide) rfl kw_5_55 rfl dX7_add_51 ?_
    refine xalen (t0 := 0) (v := (nI 320)) S hK hP cW_75 rfl rfl dX7_add_54 ?_
    refine lv_icmp_le (tgt := 60) hx hb dX7_add_55 (by decide) (fun c_55 => ?_) (fun c_55 => ?_)
    · have hok := hok.1 c_55
      refine lv_iload_n hx hb dX7_add_60 rfl (lv_at hl 0 rfl) ?_
      refine lv_aload_n hx hb dX7_add_61 rfl (lv_at hl 1 rfl) ?_
      refine xg (ci := 7) S inX7 rfl hK hP cW_74 0 (by decide) rfl kw_5_54 rfl dX7_add_62 ?_
      refine xisub (v := x1 - (σ.1 74 0)) S dX7_add_65 rfl ?_
      refine lv_topi (fun x2 ex2 => ?_)
      have hok := hok x2 ex2
      refine lv_istore_n (lv' := [(2, .int x2), (1, .int x1), (0, .ref (u 73))]) hx hb dX7_add_66 rfl hl (by decide) rfl (fun ls hl => ?_)
      have lp67 : ∀ (K : FS → Int32 → Prop), (∀ (τ0 : FS) (l2_0 : Int32) (H : Heap) (locs : List Loc) (ls : Array Slot), K τ0 l2_0 → lv_has ls 3 [(2, .int l2_0), (1, .int x1), (0, .ref (u 73))] → va_P D vwCl (cW o u cI cZ cJ T τ0) H → va_D A (cW o u cI cZ cJ T τ0) → va_S A s.heap H locs → W p l e ({ frames := 0, cells := 0, slots := 0, locals := 0 }) s m args below meth c H locs 0 0 (MQ below (yQi Φ D (cW o u cI cZ cJ T) A) args s 0 0 A) (F0 m 85 ls [])) → ∀ (n0 : Nat) (τ0 : FS) (l2_0 : Int32) (H : Heap) (locs : List Loc) (ls : Array Slot), wp_X7_add_67 74 320 x1 Φ K n0 τ0 l2_0 → lv_has ls 3 [(2, .int l2_0), (1, .int x1), (0, .ref (u 73))] → va_P D vwCl (cW o u cI cZ cJ T τ0) H → va_D A (cW o u cI cZ cJ T τ0) → va_S A s.heap H locs → W p l e ({ frames := 0, cells := 0, slots := 0, locals := 0 }) s m args below meth c H locs 0 0 (MQ below (yQi Φ D (cW o u cI cZ cJ T) A) args s 0 0 A) (F0 m 67 ls []) := by
        intro K hk n0
        induction n0 with
        | zero => intro τ0 l2_0 H locs ls hok; exact False.elim hok
        | succ n0 ih67 =>
          intro τ0 l2_0 H locs ls hok hl hP hD hS
          refine lv_iload_n hx hb dX7_add_67 rfl (lv_at hl 0 rfl) ?_
          refine lv_iload_n hx hb dX7_add_68 rfl (lv_at hl 1 rfl) ?_
          refine lv_icmp_ge (tgt := 85) hx hb dX7_add_69 (by decide) (fun c_69 => ?_) (fun c_69 => ?_)
          · have hok := hok.1 c_69
            exact hk τ0 l2_0 H locs ls hok (lv_sub hl [0, 1, 2] rfl) hP hD hS
          · have hok := hok.2 c_69
            refine lv_aload_n hx hb dX7_add_72 rfl (lv_at hl 2 rfl) ?_
            refine xg (ci := 7) S inX7 rfl hK hP cW_74 1 (by decide) rfl kw_5_55 rfl dX7_add_73 ?_
            refine lv_iload_n hx hb dX7_add_76 rfl (lv_at hl 0 rfl) ?_
            refine lv_iconst (v := 0) hx hb dX7_add_77 (by decide) ?_
            have h_78 := hok.1
            have hok := hok.2
            refine yiast (t0 := 0) (cw := (cW o u cI cZ cJ T)) S hK hP hD hS cW_75 rfl h_78 dX7_add_78 cWa_75 (fun σ3 H locs eσ3 hP hD hS => ?_)
            have hok := hok σ3 eσ3
            refine lv_iinc (v := l2_0 + 1) (lv' := [(2, .int (l2_0 + 1)), (1, .int x1), (0, .ref (u 73))]) hx hb dX7_add_79 hl (k := 0) rfl rfl (by decide) rfl (fun ls hl => ?_)
            refine lv_goto (tgt := 67) hx hb dX7_add_82 (by decide) ?_
            exact ih67 σ3 (l2_0 + 1) H locs ls hok (lv_sub hl [0, 1, 2] rfl) hP hD hS
      refine lp67 _ ?_ FUEL σ x2 _ _ _ hok (lv_sub hl [0, 1, 2] rfl) hP hD hS
      intro σ4 x5 H locs ls hok hl hP hD hS
      refine lv_aload_n hx hb dX7_add_85 rfl (lv_at hl 2 rfl) ?_
      refine lv_dup hx hb dX7_add_86 rfl ?_
      refine xg (ci := 7) S inX7 rfl hK hP cW_74 2 (by decide) rfl kw_5_56 rfl dX7_add_87 ?_
      refine lv_iconst (v := 1) hx hb dX7_add_90 (by decide) ?_
      refine xiadd (v := (σ4.1 74 2) + 1) S dX7_add_91 rfl ?_
      refine yp (ci := 7) (v := .int ((σ4.1 74 2) + 1)) (cw := (cW o u cI cZ cJ T)) S inX7 tyX7 tyX7_ok nmX7 rfl hK hP hD hS cW_74 2 (by decide) kw_5_56 rfl rfl rfl rfl (Nat.le_of_ble_eq_true rfl) dX7_add_92 cWp_74_2 (fun σ6 H locs eσ6 hP hD hS => ?_)
      have hok := hok σ6 eσ6
      refine lv_aload_n hx hb dX7_add_95 rfl (lv_at hl 2 rfl) ?_
      refine xg (ci := 7) S inX7 rfl hK hP cW_74 2 (by decide) rfl kw_5_56 rfl dX7_add_96 ?_
      refine lv_iconst (v := 1) hx hb dX7_add_99 (by decide) ?_
      refine xisub (v := (σ6.1 74 2) - 1) S dX7_add_100 rfl ?_
      exact yEnd S hr hlocks hP hD hS (Nat.le_of_ble_eq_true rfl) (Nat.le_of_ble_eq_true rfl) dX7_add_101 hok
    · have hok := hok.2 c_55
      refine lv_iconst (v := (-1)) hx hb dX7_add_58 (by decide) ?_
      exact yEnd S hr hlocks hP hD hS (Nat.le_of_ble_eq_true rfl) (Nat.le_of_ble_eq_true rfl) dX7_add_59 hok
  · have hok := hok.2 c_18
    refine lv_aload_n hx hb dX7_add_21 rfl (lv_at hl 1 rfl) ?_
    refine xg (ci := 7) S inX7 rfl hK hP cW_74 1 (by decide) rfl kw_5_55 rfl dX7_add_22 ?_
    refine xalen (t0 := 0) (v := (nI 320)) S hK hP cW_75 rfl rfl dX7_add_25 ?_
    refine lv_ldc hx hb S.2.2.2.1 (S.2.2.2.2 _ kw_2_228) dX7_add_26 ?_
    refine lv_icmp_gt (tgt := 49) hx hb dX7_add_28 (by decide) (fun c_28 => ?_) (fun c_28 => ?_)
    · have hok := hok.1 c_28
      refine lv_iload_n hx hb dX7_add_49 rfl (lv_at hl 0 rfl) ?_
      refine lv_aload_n hx hb dX7_add_50 rfl (lv_at hl 1 rfl) ?_
      refine xg (ci := 7) S inX7 rfl hK hP cW_74 1 (by decide) rfl kw_5_55 rfl dX7_add_51 ?_
      refine xalen (t0 := 0) (v := (nI 320)) S hK hP cW_75 rfl rfl dX7_add_54 ?_
      refine lv_icmp_le (tgt := 60) hx hb dX7_add_55 (by decide) (fun c_55 => ?_) (fun c_55 => ?_)
      · have hok := hok.1 c_55
        refine lv_iload_n hx hb dX7_add_60 rfl (lv_at hl 0 rfl) ?_
        refine lv_aload_n hx hb dX7_add_61 rfl (lv_at hl 1 rfl) ?_
        refine xg (ci := 7) S inX7 rfl hK hP cW_74 0 (by decide) rfl kw_5_54 rfl dX7_add_62 ?_
        refine xisub (v := x1 - (σ.1 74 0)) S dX7_add_65 rfl ?_
        refine lv_topi (fun x7 ex7 => ?_)
        have hok := hok x7 ex7
        refine lv_istore_n (lv' := [(2, .int x7), (1, .int x1), (0, .ref (u 73))]) hx hb dX7_add_66 rfl hl (by decide) rfl (fun ls hl => ?_)
        have lp67 : ∀ (K : FS → Int32 → Prop), (∀ (τ0 : FS) (l2_0 : Int32) (H : Heap) (locs : List Loc) (ls : Array Slot), K τ0 l2_0 → lv_has ls 3 [(2, .int l2_0), (1, .int x1), (0, .ref (u 73))] → va_P D vwCl (cW o u cI cZ cJ T τ0) H → va_D A (cW o u cI cZ cJ T τ0) → va_S A s.heap H locs → W p l e ({ frames := 0, cells := 0, slots := 0, locals := 0 }) s m args below meth c H locs 0 0 (MQ below (yQi Φ D (cW o u cI cZ cJ T) A) args s 0 0 A) (F0 m 85 ls [])) → ∀ (n0 : Nat) (τ0 : FS) (l2_0 : Int32) (H : Heap) (locs : List Loc) (ls : Array Slot), wp_X7_add_67 74 320 x1 Φ K n0 τ0 l2_0 → lv_has ls 3 [(2, .int l2_0), (1, .int x1), (0, .ref (u 73))] → va_P D vwCl (cW o u cI cZ cJ T τ0) H → va_D A (cW o u cI cZ cJ T τ0) → va_S A s.heap H locs → W p l e ({ frames := 0, cells := 0, slots := 0, locals := 0 }) s m args below meth c H locs 0 0 (MQ below (yQi Φ D (cW o u cI cZ cJ T) A) args s 0 0 A) (F0 m 67 ls []) := by
          intro K hk n0
          induction n0 with
          | zero => intro τ0 l2_0 H locs ls hok; exact False.elim hok
          | succ n0 ih67 =>
            intro τ0 l2_0 H locs ls hok hl hP hD hS
            refine lv_iload_n hx hb dX7_add_67 rfl (lv_at hl 0 rfl) ?_
            refine lv_iload_n hx hb dX7_add_68 rfl (lv_at hl 1 rfl) ?_
            refine lv_icmp_ge (tgt := 85) hx hb dX7_add_69 (by decide) (fun c_69 => ?_) (fun c_69 => ?_)
            · have hok := hok.1 c_69
              exact hk τ0 l2_0 H locs ls hok (lv_sub hl [0, 1, 2] rfl) hP hD hS
            · have hok := hok.2 c_69
              refine lv_aload_n hx hb dX7_add_72 rfl (lv_at hl 2 rfl) ?_
              refine xg (ci := 7) S inX7 rfl hK hP cW_74 1 (by decide) rfl kw_5_55 rfl dX7_add_73 ?_
              refine lv_iload_n hx hb dX7_add_76 rfl (lv_at hl 0 rfl) ?_
              refine lv_iconst (v := 0) hx hb dX7_add_77 (by decide) ?_
              have h_78 := hok.1
              have hok := hok.2
              refine yiast (t0 := 0) (cw := (cW o u cI cZ cJ T)) S hK hP hD hS cW_75 rfl h_78 dX7_add_78 cWa_75 (fun σ8 H locs eσ8 hP hD hS => ?_)
              have hok := hok σ8 eσ8
              refine lv_iinc (v := l2_0 + 1) (lv' := [(2, .int (l2_0 + 1)), (1, .int x1), (0, .ref (u 73))]) hx hb dX7_add_79 hl (k := 0) rfl rfl (by decide) rfl (fun ls hl => ?_)
              refine lv_goto (tgt := 67) hx hb dX7_add_82 (by decide) ?_
              exact ih67 σ8 (l2_0 + 1) H locs ls hok (lv_sub hl [0, 1, 2] rfl) hP hD hS
        refine lp67 _ ?_ FUEL σ x7 _ _ _ hok (lv_sub hl [0, 1, 2] rfl) hP hD hS
        intro σ9 x10 H locs ls hok hl hP hD hS
        refine lv_aload_n hx hb dX7_add_85 rfl (lv_at hl 2 rfl) ?_
        refine lv_dup hx hb dX7_add_86 rfl ?_
        refine xg (ci := 7) S inX7 rfl hK hP cW_74 2 (by decide) rfl kw_5_56 rfl dX7_add_87 ?_
        refine lv_iconst (v := 1) hx hb dX7_add_90 (by decide) ?_
        refine xiadd (v := (σ9.1 74 2) + 1) S dX7_add_91 rfl ?_
        refine yp (ci := 7) (v := .int ((σ9.1 74 2) + 1)) (cw := (cW o u cI cZ cJ T)) S inX7 tyX7 tyX7_ok nmX7 rfl hK hP hD hS cW_74 2 (by decide) kw_5_56 rfl rfl rfl rfl (Nat.le_of_ble_eq_true rfl) dX7_add_92 cWp_74_2 (fun σ11 H locs eσ11 hP hD hS => ?_)
        have hok := hok σ11 eσ11
        refine lv_aload_n hx hb dX7_add_95 rfl (lv_at hl 2 rfl) ?_
        refine xg (ci := 7) S inX7 rfl hK hP cW_74 2 (by decide) rfl kw_5_56 rfl dX7_add_96 ?_
        refine lv_iconst (v := 1) hx hb dX7_add_99 (by decide) ?_
        refine xisub (v := (σ11.1 74 2) - 1) S dX7_add_100 rfl ?_
        exact yEnd S hr hlocks hP hD hS (Nat.le_of_ble_eq_true rfl) (Nat.le_of_ble_eq_true rfl) dX7_add_101 hok
      · have hok := hok.2 c_55
        refine lv_iconst (v := (-1)) hx hb dX7_add_58 (by decide) ?_
        exact yEnd S hr hlocks hP hD hS (Nat.le_of_ble_eq_true rfl) (Nat.le_of_ble_eq_true rfl) dX7_add_59 hok
    · have hok := hok.2 c_28
      refine lv_aload_n hx hb dX7_add_31 rfl (lv_at hl 1 rfl) ?_
      refine lv_aload_n hx hb dX7_add_32 rfl (lv_at hl 1 rfl) ?_
      refine xg (ci := 7) S inX7 rfl hK hP cW_74 1 (by decide) rfl kw_5_55 rfl dX7_add_33 ?_
      refine lv_aload_n hx hb dX7_add_36 rfl (lv_at hl 1 rfl) ?_
      refine xg (ci := 7) S inX7 rfl hK hP cW_74 1 (by decide) rfl kw_5_55 rfl dX7_add_37 ?_
      refine xalen (t0 := 0) (v := (nI 320)) S hK hP cW_75 rfl rfl dX7_add_40 ?_
      refine lv_iconst (v := 2) hx hb dX7_add_41 (by decide) ?_
      refine ximul (v := (nI 320) * 2) S dX7_add_42 rfl ?_
      exact False.elim hok

set_option maxHeartbeats 8000000 in
set_option maxRecDepth 100000 in
theorem v_X7_has_74 (l : Launch) (D : va_G) (cI cZ cJ : ClassId) (o : Nat) (u : Nat → Nat) (T : Nat) (ra : Nat → Nat) (ga : SG) (σ : FS) (a1 : Int32) (a2 : Int32) (Φ : Int32 → FS → Prop) (sz : Nat) (hok : (wp_X7_has 74 320 σ a1 a2 Φ)) : Met l yX7_has (uW yX7_has cX7_has 3 (some .boolean)) ({ frames := 0, cells := 0, slots := 0, locals := 0 }) (va_Pc [.ref (u 73), .int a1, .int a2] (aS ra ga D (tyL cI cZ cJ) (cW o u cI cZ cJ T σ) sz)) (yQi Φ D (cW o u cI cZ cJ T) (va_A (cW o u cI cZ cJ T σ) sz)) 0 0 (va_A (cW o u cI cZ cJ T σ) sz) := by
  refine aStart (lv := [(0, .ref (u 73)), (1, .int a1), (2, .int a2)]) (Qc := fun A => yQi Φ D (cW o u cI cZ cJ T) A) (by decide) (Nat.le_of_ble_eq_true rfl) rfl ?_
  intro p e s m args below meth c ls A H S hr hlocks hnm hl hK hP hD hS hA hB
  have hx := S.1
  have hb := S.2.1
  refine lv_iload_n hx hb dX7_has_0 rfl (lv_at hl 1 rfl) ?_
  refine lv_if_lt (tgt := 28) hx hb dX7_has_1 (by decide) (fun c_1 => ?_) (fun c_1 => ?_)
  · have hok := hok.1 c_1
    refine lv_iconst (v := 0) hx hb dX7_has_28 (by decide) ?_
    exact yEndZ S hr hlocks hP hD hS (Nat.le_of_ble_eq_true rfl) (Nat.le_of_ble_eq_true rfl) dX7_has_29 rfl hok
  · have hok := hok.2 c_1
    refine lv_iload_n hx hb dX7_has_4 rfl (lv_at hl 1 rfl) ?_
    refine lv_aload_n hx hb dX7_has_5 rfl (lv_at hl 0 rfl) ?_
    refine xg (ci := 7) S inX7 rfl hK hP cW_74 2 (by decide) rfl kw_5_56 rfl dX7_has_6 ?_
    refine lv_icmp_ge (tgt := 28) hx hb dX7_has_9 (by decide) (fun c_9 => ?_) (fun c_9 => ?_)
    · have hok := hok.1 c_9
      refine lv_iconst (v := 0) hx hb dX7_has_28 (by decide) ?_
      exact yEndZ S hr hlocks hP hD hS (Nat.le_of_ble_eq_true rfl) (Nat.le_of_ble_eq_true rfl) dX7_has_29 rfl hok
    · have hok := hok.2 c_9
      refine lv_iload_n hx hb dX7_has_12 rfl (lv_at hl 2 rfl) ?_
      refine lv_if_lt (tgt := 28) hx hb dX7_has_13 (by decide) (fun c_13 => ?_) (fun c_13 => ?_)
      · have hok := hok.1 c_13
        refine lv_iconst (v := 0) hx hb dX7_has_28 (by decide) ?_
        exact yEndZ S hr hlocks hP hD hS (Nat.le_of_ble_eq_true rfl) (Nat.le_of_ble_eq_true rfl) dX7_has_29 rfl hok
      · have hok := hok.2 c_13
        refine lv_iload_n hx hb dX7_has_16 rfl (lv_at hl 2 rfl) ?_
        refine lv_aload_n hx hb dX7_has_17 rfl (lv_at hl 0 rfl) ?_
        refine xg (ci := 7) S inX7 rfl hK hP cW_74 0 (by decide) rfl kw_5_54 rfl dX7_has_18 ?_
        refine lv_icmp_ge (tgt := 28) hx hb dX7_has_21 (by decide) (fun c_21 => ?_) (fun c_21 => ?_)
        · have hok := hok.1 c_21
          refine lv_iconst (v := 0) hx hb dX7_has_28 (by decide) ?_
          exact yEndZ S hr hlocks hP hD hS (Nat.le_of_ble_eq_true rfl) (Nat.le_of_ble_eq_true rfl) dX7_has_29 rfl hok
        · have hok := hok.2 c_21
          refine lv_iconst (v := 1) hx hb dX7_has_24 (by decide) ?_
          refine lv_goto (tgt := 29) hx hb dX7_has_25 (by decide) ?_
          exact yEndZ S hr hlocks hP hD hS (Nat.le_of_ble_eq_true rfl) (Nat.le_of_ble_eq_true rfl) dX7_has_29 rfl hok

set_option maxHeartbeats 8000000 in
set_option maxRecDepth 100000 in
theorem v_X7_put_74 (l : Launch) (D : va_G) (cI cZ cJ : ClassId) (o : Nat) (u : Nat → Nat) (T : Nat) (ra : Nat → Nat) (ga : SG) (σ : FS) (a1 : Int32) (a2 : Int32) (a3 : Int32) (Φ : FS → Prop) (sz : Nat) (hok : (wp_X7_put 74 320 σ a1 a2 a3 Φ)) : Met l yX7_put (uW yX7_put cX7_put 4 none) ({ frames := 1, cells := 0, slots := 0, locals := 22 }) (va_Pc [.ref (u 73), .int a1, .int a2, .int a3] (aS ra ga D (tyL cI cZ cJ) (cW o u cI cZ cJ T σ) sz)) (yQv Φ D (cW o u cI cZ cJ T) (va_A (cW o u cI cZ cJ T σ) sz)) 0 0 (va_A (cW o u cI cZ cJ T σ) sz) := by
  refine aStart (lv := [(0, .ref (u 73)), (1, .int a1), (2, .int a2), (3, .int a3)]) (Qc := fun A => yQv Φ D (cW o u cI cZ cJ T) A) (by decide) (Nat.le_of_ble_eq_true rfl) rfl ?_
  intro p e s m args below meth c ls A H S hr hlocks hnm hl hK hP hD hS hA hB
  have hx := S.1
  have hb := S.2.1
  refine lv_aload_n hx hb dX7_put_0 rfl (lv_at hl 0 rfl) ?_
  refine lv_iload_n hx hb dX7_put_1 rfl (lv_at hl 1 rfl) ?_
  refine lv_iload_n hx hb dX7_put_2 rfl (lv_at hl 2 rfl) ?_
  refine yVi (As := [.int a1, .int a2]) (cw := (cW o u cI cZ cJ T)) (ci := 7) S (v_X7_has_74 l D cI cZ cJ o u T ra ga σ a1 a2 _ H.size hok) mi_X7_has kw_3_9 rfl rfl ⟨Nat.le_of_ble_eq_true rfl, Nat.le_of_ble_eq_true rfl⟩ hP hD hK hS hA hB cW_74 rfl rfl hl.1 (Nat.le_of_ble_eq_true rfl) ⟨Nat.le_of_ble_eq_true rfl, Nat.le_of_ble_eq_true rfl⟩ dX7_put_3 (fun x2 σ1 H locs hok hz hP hD hS => ?_)
  refine lv_if_eq (tgt := 23) hx hb dX7_put_6 (by decide) (fun c_6 => ?_) (fun c_6 => ?_)
  · have hok := hok.1 c_6
    exact yEndv S hr hlocks hP hD hS (Nat.le_of_ble_eq_true rfl) (Nat.le_of_ble_eq_true rfl) dX7_put_23 hok
  · have hok := hok.2 c_6
    refine lv_aload_n hx hb dX7_put_9 rfl (lv_at hl 0 rfl) ?_
    refine xg (ci := 7) S inX7 rfl hK hP cW_74 1 (by decide) rfl kw_5_55 rfl dX7_put_10 ?_
    refine lv_iload_n hx hb dX7_put_13 rfl (lv_at hl 1 rfl) ?_
    refine lv_aload_n hx hb dX7_put_14 rfl (lv_at hl 0 rfl) ?_
    refine xg (ci := 7) S inX7 rfl hK hP cW_74 0 (by decide) rfl kw_5_54 rfl dX7_put_15 ?_
    refine ximul (v := a1 * (σ1.1 74 0)) S dX7_put_18 rfl ?_
    refine lv_iload_n hx hb dX7_put_19 rfl (lv_at hl 2 rfl) ?_
    refine xiadd (v := (a1 * (σ1.1 74 0)) + a2) S dX7_put_20 rfl ?_
    refine lv_iload_n hx hb dX7_put_21 rfl (lv_at hl 3 rfl) ?_
    have h_22 := hok.1
    have hok := hok.2
    refine yiast (t0 := 0) (cw := (cW o u cI cZ cJ T)) S hK hP hD hS cW_75 rfl h_22 dX7_put_22 cWa_75 (fun σ3 H locs eσ3 hP hD hS => ?_)
    have hok := hok σ3 eσ3
    exact yEndv S hr hlocks hP hD hS (Nat.le_of_ble_eq_true rfl) (Nat.le_of_ble_eq_true rfl) dX7_put_23 hok

set_option maxHeartbeats 8000000 in
set_option maxRecDepth 100000 in
theorem v_X3_open (l : Launch) (D : va_G) (cI cZ cJ : ClassId) (o : Nat) (u : Nat → Nat) (T : Nat) (ra : Nat → Nat) (ga : SG) (σ : FS) (a1 : Int32) (Φ : FS → Prop) (sz : Nat) (hok : (wp_X3_open σ a1 Φ)) : Met l yX3_open (uW yX3_open cX3_open 4 none) ({ frames := 2, cells := 0, slots := 0, locals := 45 }) (va_Pc [.ref (u 64), .int a1] (aS ra ga D (tyL cI cZ cJ) (cW o u cI cZ cJ T σ) sz)) (yQv Φ D (cW o u cI cZ cJ T) (va_A (cW o u cI cZ cJ T σ) sz)) 0 0 (va_A (cW o u cI cZ cJ T σ) sz) := by
  refine aStart (lv := [(0, .ref (u 64)), (1, .int a1)]) (Qc := fun A => yQv Φ D (cW o u cI cZ cJ T) A) (by decide) (Nat.le_of_ble_eq_true rfl) rfl ?_
  intro p e s m args below meth c ls A H S hr hlocks hnm hl hK hP hD hS hA hB
  have hx := S.1
  have hb := S.2.1
  refine lv_aload_n hx hb dX3_open_0 rfl (lv_at hl 0 rfl) ?_
  refine xg (ci := 3) S inX3 rfl hK hP cW_65 3 (by decide) rfl kw_5_132 rfl dX3_open_1 ?_
  refine xg (ci := 0) S inX0 rfl hK hP cW_52 10 (by decide) rfl kw_4_237 rfl dX3_open_4 ?_
  refine lv_iload_n hx hb dX3_open_7 rfl (lv_at hl 1 rfl) ?_
  have h_8 := hok.1
  have hok := hok.2
  refine xiald (t0 := 0) (v := (g σ 58 a1)) S hK hP cW_58 rfl h_8 rfl dX3_open_8 ?_
  refine lv_topi (fun x1 ex1 => ?_)
  have hok := hok x1 ex1
  refine lv_istore_n (lv' := [(2, .int x1), (0, .ref (u 64)), (1, .int a1)]) hx hb dX3_open_9 rfl hl (by decide) rfl (fun ls hl => ?_)
  refine lv_aload_n hx hb dX3_open_10 rfl (lv_at hl 1 rfl) ?_
  refine xg (ci := 3) S inX3 rfl hK hP cW_65 8 (by decide) rfl kw_5_137 rfl dX3_open_11 ?_
  refine yVi (As := []) (cw := (cW o u cI cZ cJ T)) (ci := 7) S (v_X7_add_74 l D cI cZ cJ o u T ra ga σ _ H.size hok) mi_X7_add kw_2_224 rfl rfl ⟨Nat.le_of_ble_eq_true rfl, Nat.le_of_ble_eq_true rfl⟩ hP hD hK hS hA hB cW_74 rfl rfl hl.1 (Nat.le_of_ble_eq_true rfl) ⟨Nat.le_of_ble_eq_true rfl, Nat.le_of_ble_eq_true rfl⟩ dX3_open_14 (fun x3 σ2 H locs hok hz hP hD hS => ?_)
  refine lv_istore_n (lv' := [(3, .int x3), (2, .int x1), (0, .ref (u 64)), (1, .int a1)]) hx hb dX3_open_17 rfl hl (by decide) rfl (fun ls hl => ?_)
  refine lv_aload_n hx hb dX3_open_18 rfl (lv_at hl 2 rfl) ?_
  refine xg (ci := 3) S inX3 rfl hK hP cW_65 8 (by decide) rfl kw_5_137 rfl dX3_open_19 ?_
  refine lv_iload_n hx hb dX3_open_22 rfl (lv_at hl 0 rfl) ?_
  refine lv_iconst (v := 0) hx hb dX3_open_23 (by decide) ?_
  refine lv_aload_n hx hb dX3_open_24 rfl (lv_at hl 2 rfl) ?_
  refine xg (ci := 3) S inX3 rfl hK hP cW_65 13 (by decide) rfl kw_5_142 rfl dX3_open_25 ?_
  refine yVv (As := [.int x3, .int 0, .int (σ2.1 65 13)]) (cw := (cW o u cI cZ cJ T)) (ci := 7) S (v_X7_put_74 l D cI cZ cJ o u T ra ga σ2 x3 0 (σ2.1 65 13) _ H.size hok) mi_X7_put kw_3_5 rfl rfl ⟨Nat.le_of_ble_eq_true rfl, Nat.le_of_ble_eq_true rfl⟩ hP hD hK hS hA hB cW_74 rfl rfl hl.1 (Nat.le_of_ble_eq_true rfl) ⟨Nat.le_of_ble_eq_true rfl, Nat.le_of_ble_eq_true rfl⟩ dX3_open_28 (fun σ4 H locs hok hz hP hD hS => ?_)
  refine lv_aload_n hx hb dX3_open_31 rfl (lv_at hl 2 rfl) ?_
  refine xg (ci := 3) S inX3 rfl hK hP cW_65 8 (by decide) rfl kw_5_137 rfl dX3_open_32 ?_
  refine lv_iload_n hx hb dX3_open_35 rfl (lv_at hl 0 rfl) ?_
  refine lv_iconst (v := 1) hx hb dX3_open_36 (by decide) ?_
  refine lv_aload_n hx hb dX3_open_37 rfl (lv_at hl 2 rfl) ?_
  refine xg (ci := 3) S inX3 rfl hK hP cW_65 3 (by decide) rfl kw_5_132 rfl dX3_open_38 ?_
  refine xg (ci := 0) S inX0 rfl hK hP cW_52 8 (by decide) rfl kw_4_231 rfl dX3_open_41 ?_
  refine lv_iload_n hx hb dX3_open_44 rfl (lv_at hl 3 rfl) ?_
  have h_45 := hok.1
  have hok := hok.2
  refine xiald (t0 := 0) (v := (g σ4 56 a1)) S hK hP cW_56 rfl h_45 rfl dX3_open_45 ?_
  refine yVv (As := [.int x3, .int 1, .int (g σ4 56 a1)]) (cw := (cW o u cI cZ cJ T)) (ci := 7) S (v_X7_put_74 l D cI cZ cJ o u T ra ga σ4 x3 1 (g σ4 56 a1) _ H.size hok) mi_X7_put kw_3_5 rfl rfl ⟨Nat.le_of_ble_eq_true rfl, Nat.le_of_ble_eq_true rfl⟩ hP hD hK hS hA hB cW_74 rfl rfl hl.1 (Nat.le_of_ble_eq_true rfl) ⟨Nat.le_of_ble_eq_true rfl, Nat.le_of_ble_eq_true rfl⟩ dX3_open_46 (fun σ5 H locs hok hz hP hD hS => ?_)
  refine lv_aload_n hx hb dX3_open_49 rfl (lv_at hl 2 rfl) ?_
  refine xg (ci := 3) S inX3 rfl hK hP cW_65 8 (by decide) rfl kw_5_137 rfl dX3_open_50 ?_
  refine lv_iload_n hx hb dX3_open_53 rfl (lv_at hl 0 rfl) ?_
  refine lv_iconst (v := 2) hx hb dX3_open_54 (by decide) ?_
  refine lv_aload_n hx hb dX3_open_55 rfl (lv_at hl 2 rfl) ?_
  refine xg (ci := 3) S inX3 rfl hK hP cW_65 7 (by decide) rfl kw_5_136 rfl dX3_open_56 ?_
  refine xg (ci := 7) S inX7 rfl hK hP cW_72 2 (by decide) rfl kw_5_57 rfl dX3_open_59 ?_
  refine yVv (As := [.int x3, .int 2, .int (σ5.1 72 2)]) (cw := (cW o u cI cZ cJ T)) (ci := 7) S (v_X7_put_74 l D cI cZ cJ o u T ra ga σ5 x3 2 (σ5.1 72 2) _ H.size hok) mi_X7_put kw_3_5 rfl rfl ⟨Nat.le_of_ble_eq_true rfl, Nat.le_of_ble_eq_true rfl⟩ hP hD hK hS hA hB cW_74 rfl rfl hl.1 (Nat.le_of_ble_eq_true rfl) ⟨Nat.le_of_ble_eq_true rfl, Nat.le_of_ble_eq_true rfl⟩ dX3_open_62 (fun σ6 H locs hok hz hP hD hS => ?_)
  refine lv_aload_n hx hb dX3_open_65 rfl (lv_at hl 2 rfl) ?_
  refine xg (ci := 3) S inX3 rfl hK hP cW_65 8 (by decide) rfl kw_5_137 rfl dX3_open_66 ?_
  refine lv_iload_n hx hb dX3_open_69 rfl (lv_at hl 0 rfl) ?_
  refine lv_iconst (v := 3) hx hb dX3_open_70 (by decide) ?_
  refine lv_aload_n hx hb dX3_open_71 rfl (lv_at hl 2 rfl) ?_
  refine xg (ci := 3) S inX3 rfl hK hP cW_65 5 (by decide) rfl kw_5_134 rfl dX3_open_72 ?_
  refine xg (ci := 7) S inX7 rfl hK hP cW_68 2 (by decide) rfl kw_5_57 rfl dX3_open_75 ?_
  refine yVv (As := [.int x3, .int 3, .int (σ6.1 68 2)]) (cw := (cW o u cI cZ cJ T)) (ci := 7) S (v_X7_put_74 l D cI cZ cJ o u T ra ga σ6 x3 3 (σ6.1 68 2) _ H.size hok) mi_X7_put kw_3_5 rfl rfl ⟨Nat.le_of_ble_eq_true rfl, Nat.le_of_ble_eq_true rfl⟩ hP hD hK hS hA hB cW_74 rfl rfl hl.1 (Nat.le_of_ble_eq_true rfl) ⟨Nat.le_of_ble_eq_true rfl, Nat.le_of_ble_eq_true rfl⟩ dX3_open_78 (fun σ7 H locs hok hz hP hD hS => ?_)
  refine lv_aload_n hx hb dX3_open_81 rfl (lv_at hl 2 rfl) ?_
  refine xg (ci := 3) S inX3 rfl hK hP cW_65 8 (by decide) rfl kw_5_137 rfl dX3_open_82 ?_
  refine lv_iload_n hx hb dX3_open_85 rfl (lv_at hl 0 rfl) ?_
  refine lv_iconst (v := 4) hx hb dX3_open_86 (by decide) ?_
  refine lv_aload_n hx hb dX3_open_87 rfl (lv_at hl 2 rfl) ?_
  refine xg (ci := 3) S inX3 rfl hK hP cW_65 3 (by decide) rfl kw_5_132 rfl dX3_open_88 ?_
  refine xg (ci := 0) S inX0 rfl hK hP cW_52 13 (by decide) rfl kw_5_3 rfl dX3_open_91 ?_
  refine lv_iload_n hx hb dX3_open_94 rfl (lv_at hl 1 rfl) ?_
  have h_95 := hok.1
  have hok := hok.2
  refine xiald (t0 := 0) (v := (g σ7 61 x1)) S hK hP cW_61 rfl h_95 rfl dX3_open_95 ?_
  refine lv_aload_n hx hb dX3_open_96 rfl (lv_at hl 2 rfl) ?_
  refine xg (ci := 3) S inX3 rfl hK hP cW_65 3 (by decide) rfl kw_5_132 rfl dX3_open_97 ?_
  refine xg (ci := 0) S inX0 rfl hK hP cW_52 14 (by decide) rfl kw_5_5 rfl dX3_open_100 ?_
  refine lv_iload_n hx hb dX3_open_103 rfl (lv_at hl 1 rfl) ?_
  have h_104 := hok.1
  have hok := hok.2
  refine xiald (t0 := 0) (v := (g σ7 62 x1)) S hK hP cW_62 rfl h_104 rfl dX3_open_104 ?_
  refine xiadd (v := (g σ7 61 x1) + (g σ7 62 x1)) S dX3_open_105 rfl ?_
  refine lv_iconst (v := 1) hx hb dX3_open_106 (by decide) ?_
  refine xisub (v := ((g σ7 61 x1) + (g σ7 62 x1)) - 1) S dX3_open_107 rfl ?_
  refine yVv (As := [.int x3, .int 4, .int (((g σ7 61 x1) + (g σ7 62 x1)) - 1)]) (cw := (cW o u cI cZ cJ T)) (ci := 7) S (v_X7_put_74 l D cI cZ cJ o u T ra ga σ7 x3 4 (((g σ7 61 x1) + (g σ7 62 x1)) - 1) _ H.size hok) mi_X7_put kw_3_5 rfl rfl ⟨Nat.le_of_ble_eq_true rfl, Nat.le_of_ble_eq_true rfl⟩ hP hD hK hS hA hB cW_74 rfl rfl hl.1 (Nat.le_of_ble_eq_true rfl) ⟨Nat.le_of_ble_eq_true rfl, Nat.le_of_ble_eq_true rfl⟩ dX3_open_108 (fun σ8 H locs hok hz hP hD hS => ?_)
  exact yEndv S hr hlocks hP hD hS (Nat.le_of_ble_eq_true rfl) (Nat.le_of_ble_eq_true rfl) dX3_open_111 hok

set_option maxHeartbeats 8000000 in
set_option maxRecDepth 100000 in
theorem v_X7_at_74 (l : Launch) (D : va_G) (cI cZ cJ : ClassId) (o : Nat) (u : Nat → Nat) (T : Nat) (ra : Nat → Nat) (ga : SG) (σ : FS) (a1 : Int32) (a2 : Int32) (Φ : Int32 → FS → Prop) (sz : Nat) (hok : (wp_X7_at 74 320 σ a1 a2 Φ)) : Met l yX7_at (uW yX7_at cX7_at 3 (some .int)) ({ frames := 1, cells := 0, slots := 0, locals := 22 }) (va_Pc [.ref (u 73), .int a1, .int a2] (aS ra ga D (tyL cI cZ cJ) (cW o u cI cZ cJ T σ) sz)) (yQi Φ D (cW o u cI cZ cJ T) (va_A (cW o u cI cZ cJ T σ) sz)) 0 0 (va_A (cW o u cI cZ cJ T σ) sz) := by
  refine aStart (lv := [(0, .ref (u 73)), (1, .int a1), (2, .int a2)]) (Qc := fun A => yQi Φ D (cW o u cI cZ cJ T) A) (by decide) (Nat.le_of_ble_eq_true rfl) rfl ?_
  intro p e s m args below meth c ls A H S hr hlocks hnm hl hK hP hD hS hA hB
  have hx := S.1
  have hb := S.2.1
  refine lv_aload_n hx hb dX7_at_0 rfl (lv_at hl 0 rfl) ?_
  refine lv_iload_n hx hb dX7_at_1 rfl (lv_at hl 1 rfl) ?_
  refine lv_iload_n hx hb dX7_at_2 rfl (lv_at hl 2 rfl) ?_
  refine yVi (As := [.int a1, .int a2]) (cw := (cW o u cI cZ cJ T)) (ci := 7) S (v_X7_has_74 l D cI cZ cJ o u T ra ga σ a1 a2 _ H.size hok) mi_X7_has kw_3_9 rfl rfl ⟨Nat.le_of_ble_eq_true rfl, Nat.le_of_ble_eq_true rfl⟩ hP hD hK hS hA hB cW_74 rfl rfl hl.1 (Nat.le_of_ble_eq_true rfl) ⟨Nat.le_of_ble_eq_true rfl, Nat.le_of_ble_eq_true rfl⟩ dX7_at_3 (fun x2 σ1 H locs hok hz hP hD hS => ?_)
  refine lv_if_eq (tgt := 25) hx hb dX7_at_6 (by decide) (fun c_6 => ?_) (fun c_6 => ?_)
  · have hok := hok.1 c_6
    refine lv_iconst (v := (-1)) hx hb dX7_at_25 (by decide) ?_
    exact yEnd S hr hlocks hP hD hS (Nat.le_of_ble_eq_true rfl) (Nat.le_of_ble_eq_true rfl) dX7_at_26 hok
  · have hok := hok.2 c_6
    refine lv_aload_n hx hb dX7_at_9 rfl (lv_at hl 0 rfl) ?_
    refine xg (ci := 7) S inX7 rfl hK hP cW_74 1 (by decide) rfl kw_5_55 rfl dX7_at_10 ?_
    refine lv_iload_n hx hb dX7_at_13 rfl (lv_at hl 1 rfl) ?_
    refine lv_aload_n hx hb dX7_at_14 rfl (lv_at hl 0 rfl) ?_
    refine xg (ci := 7) S inX7 rfl hK hP cW_74 0 (by decide) rfl kw_5_54 rfl dX7_at_15 ?_
    refine ximul (v := a1 * (σ1.1 74 0)) S dX7_at_18 rfl ?_
    refine lv_iload_n hx hb dX7_at_19 rfl (lv_at hl 2 rfl) ?_
    refine xiadd (v := (a1 * (σ1.1 74 0)) + a2) S dX7_at_20 rfl ?_
    have h_21 := hok.1
    have hok := hok.2
    refine xiald (t0 := 0) (v := (g σ1 75 ((a1 * (σ1.1 74 0)) + a2))) S hK hP cW_75 rfl h_21 rfl dX7_at_21 ?_
    refine lv_goto (tgt := 26) hx hb dX7_at_22 (by decide) ?_
    exact yEnd S hr hlocks hP hD hS (Nat.le_of_ble_eq_true rfl) (Nat.le_of_ble_eq_true rfl) dX7_at_26 hok

set_option maxHeartbeats 8000000 in
set_option maxRecDepth 100000 in
theorem v_X3_isLoopOf (l : Launch) (D : va_G) (cI cZ cJ : ClassId) (o : Nat) (u : Nat → Nat) (T : Nat) (ra : Nat → Nat) (ga : SG) (σ : FS) (a1 : Int32) (a2 : Int32) (a3 : Int32) (Φ : Int32 → FS → Prop) (sz : Nat) (hok : (wp_X3_isLoopOf σ a1 a2 a3 Φ)) : Met l yX3_isLoopOf (uW yX3_isLoopOf cX3_isLoopOf 4 (some .boolean)) ({ frames := 2, cells := 0, slots := 0, locals := 44 }) (va_Pc [.ref (u 64), .int a1, .int a2, .int a3] (aS ra ga D (tyL cI cZ cJ) (cW o u cI cZ cJ T σ) sz)) (yQi Φ D (cW o u cI cZ cJ T) (va_A (cW o u cI cZ cJ T σ) sz)) 0 0 (va_A (cW o u cI cZ cJ T σ) sz) := by
  refine aStart (lv := [(0, .ref (u 64)), (1, .int a1), (2, .int a2), (3, .int a3)]) (Qc := fun A => yQi Φ D (cW o u cI cZ cJ T) A) (by decide) (Nat.le_of_ble_eq_true rfl) rfl ?_
  intro p e s m args below meth c ls A H S hr hlocks hnm hl hK hP hD hS hA hB
  have hx := S.1
  have hb := S.2.1
  refine lv_aload_n hx hb dX3_isLoopOf_0 rfl (lv_at hl 0 rfl) ?_
  refine xg (ci := 3) S inX3 rfl hK hP cW_65 8 (by decide) rfl kw_5_137 rfl dX3_isLoopOf_1 ?_
  refine lv_iload_n hx hb dX3_isLoopOf_4 rfl (lv_at hl 1 rfl) ?_
  refine lv_iconst (v := 0) hx hb dX3_isLoopOf_5 (by decide) ?_
  refine yVi (As := [.int a1, .int 0]) (cw := (cW o u cI cZ cJ T)) (ci := 7) S (v_X7_at_74 l D cI cZ cJ o u T ra ga σ a1 0 _ H.size hok) mi_X7_at kw_3_18 rfl rfl ⟨Nat.le_of_ble_eq_true rfl, Nat.le_of_ble_eq_true rfl⟩ hP hD hK hS hA hB cW_74 rfl rfl hl.1 (Nat.le_of_ble_eq_true rfl) ⟨Nat.le_of_ble_eq_true rfl, Nat.le_of_ble_eq_true rfl⟩ dX3_isLoopOf_6 (fun x2 σ1 H locs hok hz hP hD hS => ?_)
  refine lv_iload_n hx hb dX3_isLoopOf_9 rfl (lv_at hl 2 rfl) ?_
  refine lv_icmp_ne (tgt := 30) hx hb dX3_isLoopOf_10 (by decide) (fun c_10 => ?_) (fun c_10 => ?_)
  · have hok := hok.2 c_10
    refine lv_iconst (v := 0) hx hb dX3_isLoopOf_30 (by decide) ?_
    exact yEndZ S hr hlocks hP hD hS (Nat.le_of_ble_eq_true rfl) (Nat.le_of_ble_eq_true rfl) dX3_isLoopOf_31 rfl hok
  · have hok := hok.1 c_10
    refine lv_aload_n hx hb dX3_isLoopOf_13 rfl (lv_at hl 0 rfl) ?_
    refine xg (ci := 3) S inX3 rfl hK hP cW_65 8 (by decide) rfl kw_5_137 rfl dX3_isLoopOf_14 ?_
    refine lv_iload_n hx hb dX3_isLoopOf_17 rfl (lv_at hl 1 rfl) ?_
    refine lv_iconst (v := 1) hx hb dX3_isLoopOf_18 (by decide) ?_
    refine yVi (As := [.int a1, .int 1]) (cw := (cW o u cI cZ cJ T)) (ci := 7) S (v_X7_at_74 l D cI cZ cJ o u T ra ga σ1 a1 1 _ H.size hok) mi_X7_at kw_3_18 rfl rfl ⟨Nat.le_of_ble_eq_true rfl, Nat.le_of_ble_eq_true rfl⟩ hP hD hK hS hA hB cW_74 rfl rfl hl.1 (Nat.le_of_ble_eq_true rfl) ⟨Nat.le_of_ble_eq_true rfl, Nat.le_of_ble_eq_true rfl⟩ dX3_isLoopOf_19 (fun x4 σ3 H locs hok hz hP hD hS => ?_)
    refine lv_iload_n hx hb dX3_isLoopOf_22 rfl (lv_at hl 3 rfl) ?_
    refine lv_icmp_ne (tgt := 30) hx hb dX3_isLoopOf_23 (by decide) (fun c_23 => ?_) (fun c_23 => ?_)
    · have hok := hok.2 c_23
      refine lv_iconst (v := 0) hx hb dX3_isLoopOf_30 (by decide) ?_
      exact yEndZ S hr hlocks hP hD hS (Nat.le_of_ble_eq_true rfl) (Nat.le_of_ble_eq_true rfl) dX3_isLoopOf_31 rfl hok
    · have hok := hok.1 c_23
      refine lv_iconst (v := 1) hx hb dX3_isLoopOf_26 (by decide) ?_
      refine lv_goto (tgt := 31) hx hb dX3_isLoopOf_27 (by decide) ?_
      exact yEndZ S hr hlocks hP hD hS (Nat.le_of_ble_eq_true rfl) (Nat.le_of_ble_eq_true rfl) dX3_isLoopOf_31 rfl hok

set_option maxHeartbeats 8000000 in
set_option maxRecDepth 100000 in
theorem v_X3_leave_t84 (l : Launch) (D : va_G) (cI cZ cJ : ClassId) (o : Nat) (u : Nat → Nat) (ra : Nat → Nat) (ga : SG) (σ : FS) (a1 : Int32) (Φ : FS → Prop) (sz : Nat) (hok : (wp_X3_leave 84 σ a1 Φ)) : Met l yX3_leave (uW yX3_leave cX3_leave 6 none) ({ frames := 4, cells := 0, slots := 0, locals := 86 }) (va_Pc [.ref (u 64), .int a1] (aS ra ga D (tyL cI cZ cJ) (cW o u cI cZ cJ 83 σ) sz)) (yQv Φ D (cW o u cI cZ cJ 83) (va_A (cW o u cI cZ cJ 83 σ) sz)) 0 0 (va_A (cW o u cI cZ cJ 83 σ) sz) := by
  refine aStart (lv := [(0, .ref (u 64)), (1, .int a1)]) (Qc := fun A => yQv Φ D (cW o u cI cZ cJ 83) A) (by decide) (Nat.le_of_ble_eq_true rfl) rfl ?_
  intro p e s m args below meth c ls A H S hr hlocks hnm hl hK hP hD hS hA hB
  have hx := S.1
  have hb := S.2.1
  refine lv_aload_n hx hb dX3_leave_0 rfl (lv_at hl 0 rfl) ?_
  refine lv_aload_n hx hb dX3_leave_1 rfl (lv_at hl 0 rfl) ?_
  refine xg (ci := 3) S inX3 rfl hK hP cW_65 3 (by decide) rfl kw_5_132 rfl dX3_leave_2 ?_
  refine xg (ci := 0) S inX0 rfl hK hP cW_52 8 (by decide) rfl kw_4_231 rfl dX3_leave_5 ?_
  refine lv_iload_n hx hb dX3_leave_8 rfl (lv_at hl 1 rfl) ?_
  have h_9 := hok.1
  have hok := hok.2
  refine xiald (t0 := 0) (v := (g σ 56 a1)) S hK hP cW_56 rfl h_9 rfl dX3_leave_9 ?_
  refine yVi (As := [.int (g σ 56 a1)]) (cw := (cW o u cI cZ cJ 83)) (ci := 3) S (v_X3_frameAt l D cI cZ cJ o u 83 ra ga σ (g σ 56 a1) _ H.size hok) mi_X3_frameAt kw_3_51 rfl rfl ⟨Nat.le_of_ble_eq_true rfl, Nat.le_of_ble_eq_true rfl⟩ hP hD hK hS hA hB cW_65 rfl rfl hl.1 (Nat.le_of_ble_eq_true rfl) ⟨Nat.le_of_ble_eq_true rfl, Nat.le_of_ble_eq_true rfl⟩ dX3_leave_10 (fun x2 σ1 H locs hok hz hP hD hS => ?_)
  refine lv_istore_n (lv' := [(2, .int x2), (0, .ref (u 64)), (1, .int a1)]) hx hb dX3_leave_13 rfl hl (by decide) rfl (fun ls hl => ?_)
  refine lv_aload_n hx hb dX3_leave_14 rfl (lv_at hl 1 rfl) ?_
  refine xg (ci := 3) S inX3 rfl hK hP cW_65 8 (by decide) rfl kw_5_137 rfl dX3_leave_15 ?_
  refine xg (ci := 7) S inX7 rfl hK hP cW_74 2 (by decide) rfl kw_5_57 rfl dX3_leave_18 ?_
  refine lv_iconst (v := 1) hx hb dX3_leave_21 (by decide) ?_
  refine xisub (v := (σ1.1 74 2) - 1) S dX3_leave_22 rfl ?_
  refine lv_topi (fun x3 ex3 => ?_)
  have hok := hok x3 ex3
  refine lv_istore_n (lv' := [(3, .int x3), (2, .int x2), (0, .ref (u 64)), (1, .int a1)]) hx hb dX3_leave_23 rfl hl (by decide) rfl (fun ls hl => ?_)
  have lp24 : ∀ (K : FS → Int32 → Prop), (∀ (τ0 : FS) (l3_0 : Int32) (H : Heap) (locs : List Loc) (ls : Array Slot), K τ0 l3_0 → lv_has ls 6 [(3, .int l3_0), (2, .int x2), (0, .ref (u 64)), (1, .int a1)] → va_P D vwCl (cW o u cI cZ cJ 83 τ0) H → va_D A (cW o u cI cZ cJ 83 τ0) → va_S A s.heap H locs → W p l e ({ frames := 4, cells := 0, slots := 0, locals := 86 }) s m args below meth c H locs 0 0 (MQ below (yQv Φ D (cW o u cI cZ cJ 83) A) args s 0 0 A) (F0 m 52 ls [])) → ∀ (n0 : Nat) (τ0 : FS) (l3_0 : Int32) (H : Heap) (locs : List Loc) (ls : Array Slot), wp_X3_leave_24 84 a1 x2 Φ K n0 τ0 l3_0 → lv_has ls 6 [(3, .int l3_0), (2, .int x2), (0, .ref (u 64)), (1, .int a1)] → va_P D vwCl (cW o u cI cZ cJ 83 τ0) H → va_D A (cW o u cI cZ cJ 83 τ0) → va_S A s.heap H locs → W p l e ({ frames := 4, cells := 0, slots := 0, locals := 86 }) s m args below meth c H locs 0 0 (MQ below (yQv Φ D (cW o u cI cZ cJ 83) A) args s 0 0 A) (F0 m 24 ls []) := by
    intro K hk n0
    induction n0 with
    | zero => intro τ0 l3_0 H locs ls hok; exact False.elim hok
    | succ n0 ih24 =>
      intro τ0 l3_0 H locs ls hok hl hP hD hS
      refine lv_iload_n hx hb dX3_leave_24 rfl (lv_at hl 0 rfl) ?_
      refine lv_if_lt (tgt := 52) hx hb dX3_leave_25 (by decide) (fun c_25 => ?_) (fun c_25 => ?_)
      · have hok := hok.1 c_25
        exact hk τ0 l3_0 H locs ls hok (lv_sub hl [0, 1, 2, 3] rfl) hP hD hS
      · have hok := hok.2 c_25
        refine lv_aload_n hx hb dX3_leave_28 rfl (lv_at hl 2 rfl) ?_
        refine lv_iload_n hx hb dX3_leave_29 rfl (lv_at hl 0 rfl) ?_
        refine lv_iload_n hx hb dX3_leave_30 rfl (lv_at hl 1 rfl) ?_
        refine lv_aload_n hx hb dX3_leave_31 rfl (lv_at hl 2 rfl) ?_
        refine xg (ci := 3) S inX3 rfl hK hP cW_65 3 (by decide) rfl kw_5_132 rfl dX3_leave_32 ?_
        refine xg (ci := 0) S inX0 rfl hK hP cW_52 9 (by decide) rfl kw_4_234 rfl dX3_leave_35 ?_
        refine lv_iload_n hx hb dX3_leave_38 rfl (lv_at hl 3 rfl) ?_
        have h_39 := hok.1
        have hok := hok.2
        refine xiald (t0 := 0) (v := (g τ0 57 a1)) S hK hP cW_57 rfl h_39 rfl dX3_leave_39 ?_
        refine yVi (As := [.int l3_0, .int x2, .int (g τ0 57 a1)]) (cw := (cW o u cI cZ cJ 83)) (ci := 3) S (v_X3_isLoopOf l D cI cZ cJ o u 83 ra ga τ0 l3_0 x2 (g τ0 57 a1) _ H.size hok) mi_X3_isLoopOf kw_3_117 rfl rfl ⟨Nat.le_of_ble_eq_true rfl, Nat.le_of_ble_eq_true rfl⟩ hP hD hK hS hA hB cW_65 rfl rfl hl.1 (Nat.le_of_ble_eq_true rfl) ⟨Nat.le_of_ble_eq_true rfl, Nat.le_of_ble_eq_true rfl⟩ dX3_leave_40 (fun x5 σ4 H locs hok hz hP hD hS => ?_)
        refine lv_if_ne (tgt := 52) hx hb dX3_leave_43 (by decide) (fun c_43 => ?_) (fun c_43 => ?_)
        · have hok := hok.2 c_43
          exact hk σ4 l3_0 H locs ls hok (lv_sub hl [0, 1, 2, 3] rfl) hP hD hS
        · have hok := hok.1 c_43
          refine lv_iinc (v := l3_0 + (-1)) (lv' := [(3, .int (l3_0 + (-1))), (2, .int x2), (0, .ref (u 64)), (1, .int a1)]) hx hb dX3_leave_46 hl (k := 0) rfl rfl (by decide) rfl (fun ls hl => ?_)
          refine lv_goto (tgt := 24) hx hb dX3_leave_49 (by decide) ?_
          exact ih24 σ4 (l3_0 + (-1)) H locs ls hok (lv_sub hl [0, 1, 2, 3] rfl) hP hD hS
  refine lp24 _ ?_ FUEL σ1 x3 _ _ _ hok (lv_sub hl [0, 1, 2, 3] rfl) hP hD hS
  intro σ6 x7 H locs ls hok hl hP hD hS
  refine lv_iload_n hx hb dX3_leave_52 rfl (lv_at hl 0 rfl) ?_
  refine lv_if_ge (tgt := 71) hx hb dX3_leave_53 (by decide) (fun c_53 => ?_) (fun c_53 => ?_)
  · have hok := hok.1 c_53
    refine lv_aload_n hx hb dX3_leave_71 rfl (lv_at hl 2 rfl) ?_
    refine xg (ci := 3) S inX3 rfl hK hP cW_65 8 (by decide) rfl kw_5_137 rfl dX3_leave_72 ?_
    refine lv_iload_n hx hb dX3_leave_75 rfl (lv_at hl 0 rfl) ?_
    refine lv_iconst (v := 2) hx hb dX3_leave_76 (by decide) ?_
    refine yVi (As := [.int x7, .int 2]) (cw := (cW o u cI cZ cJ 83)) (ci := 7) S (v_X7_at_74 l D cI cZ cJ o u 83 ra ga σ6 x7 2 _ H.size hok) mi_X7_at kw_3_18 rfl rfl ⟨Nat.le_of_ble_eq_true rfl, Nat.le_of_ble_eq_true rfl⟩ hP hD hK hS hA hB cW_74 rfl rfl hl.1 (Nat.le_of_ble_eq_true rfl) ⟨Nat.le_of_ble_eq_true rfl, Nat.le_of_ble_eq_true rfl⟩ dX3_leave_77 (fun x9 σ8 H locs hok hz hP hD hS => ?_)
    refine lv_istore (lv' := [(4, .int x9), (3, .int x7), (2, .int x2), (0, .ref (u 64)), (1, .int a1)]) hx hb dX3_leave_80 hl (by decide) rfl (fun ls hl => ?_)
    refine lv_aload_n hx hb dX3_leave_82 rfl (lv_at hl 3 rfl) ?_
    refine xg (ci := 3) S inX3 rfl hK hP cW_65 7 (by decide) rfl kw_5_136 rfl dX3_leave_83 ?_
    refine xg (ci := 7) S inX7 rfl hK hP cW_72 2 (by decide) rfl kw_5_57 rfl dX3_leave_86 ?_
    refine lv_topi (fun x10 ex10 => ?_)
    have hok := hok x10 ex10
    refine lv_istore (lv' := [(5, .int x10), (4, .int x9), (3, .int x7), (2, .int x2), (0, .ref (u 64)), (1, .int a1)]) hx hb dX3_leave_89 hl (by decide) rfl (fun ls hl => ?_)
    have lp91 : ∀ (K : FS → Int32 → Prop), (∀ (τ0 : FS) (l5_0 : Int32) (H : Heap) (locs : List Loc) (ls : Array Slot), K τ0 l5_0 → lv_has ls 6 [(5, .int l5_0), (4, .int x9), (3, .int x7), (2, .int x2), (0, .ref (u 64)), (1, .int a1)] → va_P D vwCl (cW o u cI cZ cJ 83 τ0) H → va_D A (cW o u cI cZ cJ 83 τ0) → va_S A s.heap H locs → W p l e ({ frames := 4, cells := 0, slots := 0, locals := 86 }) s m args below meth c H locs 0 0 (MQ below (yQv Φ D (cW o u cI cZ cJ 83) A) args s 0 0 A) (F0 m 108 ls [])) → ∀ (n0 : Nat) (τ0 : FS) (l5_0 : Int32) (H : Heap) (locs : List Loc) (ls : Array Slot), wp_X3_leave_91 84 a1 x2 x7 x9 Φ K n0 τ0 l5_0 → lv_has ls 6 [(5, .int l5_0), (4, .int x9), (3, .int x7), (2, .int x2), (0, .ref (u 64)), (1, .int a1)] → va_P D vwCl (cW o u cI cZ cJ 83 τ0) H → va_D A (cW o u cI cZ cJ 83 τ0) → va_S A s.heap H locs → W p l e ({ frames := 4, cells := 0, slots := 0, locals := 86 }) s m args below meth c H locs 0 0 (MQ below (yQv Φ D (cW o u cI cZ cJ 83) A) args s 0 0 A) (F0 m 91 ls []) := by
      intro K hk n0
      induction n0 with
      | zero => intro τ0 l5_0 H locs ls hok; exact False.elim hok
      | succ n0 ih91 =>
        intro τ0 l5_0 H locs ls hok hl hP hD hS
        refine lv_iload hx hb dX3_leave_91 (lv_at hl 0 rfl) ?_
        refine lv_iload hx hb dX3_leave_93 (lv_at hl 1 rfl) ?_
        refine lv_icmp_le (tgt := 108) hx hb dX3_leave_95 (by decide) (fun c_95 => ?_) (fun c_95 => ?_)
        · have hok := hok.1 c_95
          exact hk τ0 l5_0 H locs ls hok (lv_sub hl [0, 1, 2, 3, 4, 5] rfl) hP hD hS
        · have hok := hok.2 c_95
          refine lv_aload_n hx hb dX3_leave_98 rfl (lv_at hl 4 rfl) ?_
          refine yVv (As := []) (cw := (cW o u cI cZ cJ 83)) (ci := 3) S (v_X3_goBack_t84 l D cI cZ cJ o u ra ga τ0 _ H.size hok) mi_X3_goBack kw_3_93 rfl rfl ⟨Nat.le_of_ble_eq_true rfl, Nat.le_of_ble_eq_true rfl⟩ hP hD hK hS hA hB cW_65 rfl rfl hl.1 (Nat.le_of_ble_eq_true rfl) ⟨Nat.le_of_ble_eq_true rfl, Nat.le_of_ble_eq_true rfl⟩ dX3_leave_99 (fun σ11 H locs hok hz hP hD hS => ?_)
          refine lv_iinc (v := l5_0 + (-1)) (lv' := [(5, .int (l5_0 + (-1))), (4, .int x9), (3, .int x7), (2, .int x2), (0, .ref (u 64)), (1, .int a1)]) hx hb dX3_leave_102 hl (k := 0) rfl rfl (by decide) rfl (fun ls hl => ?_)
          refine lv_goto (tgt := 91) hx hb dX3_leave_105 (by decide) ?_
          exact ih91 σ11 (l5_0 + (-1)) H locs ls hok (lv_sub hl [0, 1, 2, 3, 4, 5] rfl) hP hD hS
    refine lp91 _ ?_ FUEL σ8 x10 _ _ _ hok (lv_sub hl [0, 1, 2, 3, 4, 5] rfl) hP hD hS
    intro σ12 x13 H locs ls hok hl hP hD hS
    refine lv_aload_n hx hb dX3_leave_108 rfl (lv_at hl 4 rfl) ?_
    refine xg (ci := 3) S inX3 rfl hK hP cW_65 5 (by decide) rfl kw_5_134 rfl dX3_leave_109 ?_
    refine lv_aload_n hx hb dX3_leave_112 rfl (lv_at hl 4 rfl) ?_
    refine xg (ci := 3) S inX3 rfl hK hP cW_65 8 (by decide) rfl kw_5_137 rfl dX3_leave_113 ?_
    refine lv_iload_n hx hb dX3_leave_116 rfl (lv_at hl 2 rfl) ?_
    refine lv_iconst (v := 3) hx hb dX3_leave_117 (by decide) ?_
    refine yVi (As := [.int x7, .int 3]) (cw := (cW o u cI cZ cJ 83)) (ci := 7) S (v_X7_at_74 l D cI cZ cJ o u 83 ra ga σ12 x7 3 _ H.size hok) mi_X7_at kw_3_18 rfl rfl ⟨Nat.le_of_ble_eq_true rfl, Nat.le_of_ble_eq_true rfl⟩ hP hD hK hS hA hB cW_74 rfl rfl hl.1 (Nat.le_of_ble_eq_true rfl) ⟨Nat.le_of_ble_eq_true rfl, Nat.le_of_ble_eq_true rfl⟩ dX3_leave_118 (fun x15 σ14 H locs hok hz hP hD hS => ?_)
    refine yVv (As := [.int x15]) (cw := (cW o u cI cZ cJ 83)) (ci := 7) S (v_X7_cut_68 l D cI cZ cJ o u 83 ra ga σ14 x15 _ H.size hok) mi_X7_cut kw_2_212 rfl rfl ⟨Nat.le_of_ble_eq_true rfl, Nat.le_of_ble_eq_true rfl⟩ hP hD hK hS hA hB cW_68 rfl rfl hl.1 (Nat.le_of_ble_eq_true rfl) ⟨Nat.le_of_ble_eq_true rfl, Nat.le_of_ble_eq_true rfl⟩ dX3_leave_121 (fun σ16 H locs hok hz hP hD hS => ?_)
    refine lv_aload_n hx hb dX3_leave_124 rfl (lv_at hl 4 rfl) ?_
    refine xg (ci := 3) S inX3 rfl hK hP cW_65 8 (by decide) rfl kw_5_137 rfl dX3_leave_125 ?_
    refine lv_iload_n hx hb dX3_leave_128 rfl (lv_at hl 2 rfl) ?_
    refine lv_iconst (v := 1) hx hb dX3_leave_129 (by decide) ?_
    refine xiadd (v := x7 + 1) S dX3_leave_130 rfl ?_
    refine yVv (As := [.int (x7 + 1)]) (cw := (cW o u cI cZ cJ 83)) (ci := 7) S (v_X7_cut_74 l D cI cZ cJ o u 83 ra ga σ16 (x7 + 1) _ H.size hok) mi_X7_cut kw_2_212 rfl rfl ⟨Nat.le_of_ble_eq_true rfl, Nat.le_of_ble_eq_true rfl⟩ hP hD hK hS hA hB cW_74 rfl rfl hl.1 (Nat.le_of_ble_eq_true rfl) ⟨Nat.le_of_ble_eq_true rfl, Nat.le_of_ble_eq_true rfl⟩ dX3_leave_131 (fun σ17 H locs hok hz hP hD hS => ?_)
    refine lv_aload_n hx hb dX3_leave_134 rfl (lv_at hl 4 rfl) ?_
    refine lv_aload_n hx hb dX3_leave_135 rfl (lv_at hl 4 rfl) ?_
    refine xg (ci := 3) S inX3 rfl hK hP cW_65 8 (by decide) rfl kw_5_137 rfl dX3_leave_136 ?_
    refine lv_iload_n hx hb dX3_leave_139 rfl (lv_at hl 2 rfl) ?_
    refine lv_iconst (v := 4) hx hb dX3_leave_140 (by decide) ?_
    refine yVi (As := [.int x7, .int 4]) (cw := (cW o u cI cZ cJ 83)) (ci := 7) S (v_X7_at_74 l D cI cZ cJ o u 83 ra ga σ17 x7 4 _ H.size hok) mi_X7_at kw_3_18 rfl rfl ⟨Nat.le_of_ble_eq_true rfl, Nat.le_of_ble_eq_true rfl⟩ hP hD hK hS hA hB cW_74 rfl rfl hl.1 (Nat.le_of_ble_eq_true rfl) ⟨Nat.le_of_ble_eq_true rfl, Nat.le_of_ble_eq_true rfl⟩ dX3_leave_141 (fun x19 σ18 H locs hok hz hP hD hS => ?_)
    refine yp (ci := 3) (v := .int x19) (cw := (cW o u cI cZ cJ 83)) S inX3 tyX3 tyX3_ok nmX3 rfl hK hP hD hS cW_65 12 (by decide) kw_5_141 rfl rfl rfl rfl (Nat.le_of_ble_eq_true rfl) dX3_leave_144 cWp_65_12 (fun σ20 H locs eσ20 hP hD hS => ?_)
    have hok := hok σ20 eσ20
    exact yEndv S hr hlocks hP hD hS (Nat.le_of_ble_eq_true rfl) (Nat.le_of_ble_eq_true rfl) dX3_leave_147 hok
  · have hok := hok.2 c_53
    refine lv_aload_n hx hb dX3_leave_56 rfl (lv_at hl 2 rfl) ?_
    refine lv_iconst (v := 5) hx hb dX3_leave_57 (by decide) ?_
    refine lv_aload_n hx hb dX3_leave_58 rfl (lv_at hl 2 rfl) ?_
    refine xg (ci := 3) S inX3 rfl hK hP cW_65 3 (by decide) rfl kw_5_132 rfl dX3_leave_59 ?_
    refine xg (ci := 0) S inX0 rfl hK hP cW_52 10 (by decide) rfl kw_4_237 rfl dX3_leave_62 ?_
    refine lv_iload_n hx hb dX3_leave_65 rfl (lv_at hl 3 rfl) ?_
    have h_66 := hok.1
    have hok := hok.2
    refine xiald (t0 := 0) (v := (g σ6 58 a1)) S hK hP cW_58 rfl h_66 rfl dX3_leave_66 ?_
    refine yVv (As := [.int 5, .int (g σ6 58 a1)]) (cw := (cW o u cI cZ cJ 83)) (ci := 3) S (v_X3_trap_t84 l D cI cZ cJ o u ra ga σ6 5 (g σ6 58 a1) _ H.size hok) mi_X3_trap kw_3_35 rfl rfl ⟨Nat.le_of_ble_eq_true rfl, Nat.le_of_ble_eq_true rfl⟩ hP hD hK hS hA hB cW_65 rfl rfl hl.1 (Nat.le_of_ble_eq_true rfl) ⟨Nat.le_of_ble_eq_true rfl, Nat.le_of_ble_eq_true rfl⟩ dX3_leave_67 (fun σ21 H locs hok hz hP hD hS => ?_)
    exact yEndv S hr hlocks hP hD hS (Nat.le_of_ble_eq_true rfl) (Nat.le_of_ble_eq_true rfl) dX3_leave_70 hok

set_option maxHeartbeats 8000000 in
set_option maxRecDepth 100000 in
theorem v_X6_print_84 (l : Launch) (D : va_G) (cI cZ cJ : ClassId) (o : Nat) (u : Nat → Nat) (T : Nat) (ra : Nat → Nat) (ga : SG) (σ : FS) (a1 : Int32) (a2 : Int32) (Φ : FS → Prop) (sz : Nat) (hok : (wp_X6_print 84 σ a1 a2 Φ)) : Met l yX6_print (uW yX6_print cX6_print 3 none) ({ frames := 0, cells := 0, slots := 0, locals := 0 }) (va_Pc [.ref (u 83), .int a1, .int a2] (aS ra ga D (tyL cI cZ cJ) (cW o u cI cZ cJ T σ) sz)) (yQv Φ D (cW o u cI cZ cJ T) (va_A (cW o u cI cZ cJ T σ) sz)) 0 0 (va_A (cW o u cI cZ cJ T σ) sz) := by
  refine aStart (lv := [(0, .ref (u 83)), (1, .int a1), (2, .int a2)]) (Qc := fun A => yQv Φ D (cW o u cI cZ cJ T) A) (by decide) (Nat.le_of_ble_eq_true rfl) rfl ?_
  intro p e s m args below meth c ls A H S hr hlocks hnm hl hK hP hD hS hA hB
  have hx := S.1
  have hb := S.2.1
  refine lv_aload_n hx hb dX6_print_0 rfl (lv_at hl 0 rfl) ?_
  refine xg (ci := 6) S inX6 rfl hK hP cW_84 4 (by decide) rfl kw_5_80 rfl dX6_print_1 ?_
  refine lv_bipush (v := 50) hx hb dX6_print_4 (by decide) ?_
  refine lv_icmp_ge (tgt := 42) hx hb dX6_print_6 (by decide) (fun c_6 => ?_) (fun c_6 => ?_)
  · have hok := hok.1 c_6
    refine lv_aload_n hx hb dX6_print_42 rfl (lv_at hl 0 rfl) ?_
    refine lv_dup hx hb dX6_print_43 rfl ?_
    refine xg (ci := 6) S inX6 rfl hK hP cW_84 4 (by decide) rfl kw_5_80 rfl dX6_print_44 ?_
    refine lv_iconst (v := 1) hx hb dX6_print_47 (by decide) ?_
    refine xiadd (v := (σ.1 84 4) + 1) S dX6_print_48 rfl ?_
    refine yp (ci := 6) (v := .int ((σ.1 84 4) + 1)) (cw := (cW o u cI cZ cJ T)) S inX6 tyX6 tyX6_ok nmX6 rfl hK hP hD hS cW_84 4 (by decide) kw_5_80 rfl rfl rfl rfl (Nat.le_of_ble_eq_true rfl) dX6_print_49 cWp_84_4 (fun σ1 H locs eσ1 hP hD hS => ?_)
    have hok := hok σ1 eσ1
    refine lv_aload_n hx hb dX6_print_52 rfl (lv_at hl 0 rfl) ?_
    refine lv_dup hx hb dX6_print_53 rfl ?_
    refine xg (ci := 6) S inX6 rfl hK hP cW_84 10 (by decide) rfl kw_5_93 rfl dX6_print_54 ?_
    refine lv_iload_n hx hb dX6_print_57 rfl (lv_at hl 1 rfl) ?_
    refine lv_i2l (v := (a1 : Int32).toInt64) hx hb dX6_print_58 rfl ?_
    refine lv_ladd hx hb dX6_print_59 ?_
    refine yp (ci := 6) (v := .long ((σ1.2.1 84) + ((a1 : Int32).toInt64))) (cw := (cW o u cI cZ cJ T)) S inX6 tyX6 tyX6_ok nmX6 rfl hK hP hD hS cW_84 10 (by decide) kw_5_93 rfl rfl rfl rfl (Nat.le_of_ble_eq_true rfl) dX6_print_60 cWp_84_10 (fun σ2 H locs eσ2 hP hD hS => ?_)
    have hok := hok σ2 eσ2
    exact yEndv S hr hlocks hP hD hS (Nat.le_of_ble_eq_true rfl) (Nat.le_of_ble_eq_true rfl) dX6_print_63 hok
  · have hok := hok.2 c_6
    refine lv_aload_n hx hb dX6_print_9 rfl (lv_at hl 0 rfl) ?_
    refine xg (ci := 6) S inX6 rfl hK hP cW_84 11 (by decide) rfl kw_5_94 rfl dX6_print_10 ?_
    refine lv_aload_n hx hb dX6_print_13 rfl (lv_at hl 0 rfl) ?_
    refine xg (ci := 6) S inX6 rfl hK hP cW_84 4 (by decide) rfl kw_5_80 rfl dX6_print_14 ?_
    refine lv_iload_n hx hb dX6_print_17 rfl (lv_at hl 1 rfl) ?_
    have h_18 := hok.1
    have hok := hok.2
    refine yiast (t0 := 0) (cw := (cW o u cI cZ cJ T)) S hK hP hD hS cW_85 rfl h_18 dX6_print_18 cWa_85 (fun σ3 H locs eσ3 hP hD hS => ?_)
    have hok := hok σ3 eσ3
    refine lv_aload_n hx hb dX6_print_19 rfl (lv_at hl 0 rfl) ?_
    refine xg (ci := 6) S inX6 rfl hK hP cW_84 12 (by decide) rfl kw_5_96 rfl dX6_print_20 ?_
    refine lv_aload_n hx hb dX6_print_23 rfl (lv_at hl 0 rfl) ?_
    refine xg (ci := 6) S inX6 rfl hK hP cW_84 4 (by decide) rfl kw_5_80 rfl dX6_print_24 ?_
    refine lv_aload_n hx hb dX6_print_27 rfl (lv_at hl 0 rfl) ?_
    refine xg (ci := 6) S inX6 rfl hK hP cW_84 3 (by decide) rfl kw_5_78 rfl dX6_print_28 ?_
    have h_31 := hok.1
    have hok := hok.2
    refine yiast (t0 := 0) (cw := (cW o u cI cZ cJ T)) S hK hP hD hS cW_86 rfl h_31 dX6_print_31 cWa_86 (fun σ4 H locs eσ4 hP hD hS => ?_)
    have hok := hok σ4 eσ4
    refine lv_aload_n hx hb dX6_print_32 rfl (lv_at hl 0 rfl) ?_
    refine xg (ci := 6) S inX6 rfl hK hP cW_84 13 (by decide) rfl kw_5_98 rfl dX6_print_33 ?_
    refine lv_aload_n hx hb dX6_print_36 rfl (lv_at hl 0 rfl) ?_
    refine xg (ci := 6) S inX6 rfl hK hP cW_84 4 (by decide) rfl kw_5_80 rfl dX6_print_37 ?_
    refine lv_iload_n hx hb dX6_print_40 rfl (lv_at hl 2 rfl) ?_
    have h_41 := hok.1
    have hok := hok.2
    refine yiast (t0 := 0) (cw := (cW o u cI cZ cJ T)) S hK hP hD hS cW_87 rfl h_41 dX6_print_41 cWa_87 (fun σ5 H locs eσ5 hP hD hS => ?_)
    have hok := hok σ5 eσ5
    refine lv_aload_n hx hb dX6_print_42 rfl (lv_at hl 0 rfl) ?_
    refine lv_dup hx hb dX6_print_43 rfl ?_
    refine xg (ci := 6) S inX6 rfl hK hP cW_84 4 (by decide) rfl kw_5_80 rfl dX6_print_44 ?_
    refine lv_iconst (v := 1) hx hb dX6_print_47 (by decide) ?_
    refine xiadd (v := (σ5.1 84 4) + 1) S dX6_print_48 rfl ?_
    refine yp (ci := 6) (v := .int ((σ5.1 84 4) + 1)) (cw := (cW o u cI cZ cJ T)) S inX6 tyX6 tyX6_ok nmX6 rfl hK hP hD hS cW_84 4 (by decide) kw_5_80 rfl rfl rfl rfl (Nat.le_of_ble_eq_true rfl) dX6_print_49 cWp_84_4 (fun σ6 H locs eσ6 hP hD hS => ?_)
    have hok := hok σ6 eσ6
    refine lv_aload_n hx hb dX6_print_52 rfl (lv_at hl 0 rfl) ?_
    refine lv_dup hx hb dX6_print_53 rfl ?_
    refine xg (ci := 6) S inX6 rfl hK hP cW_84 10 (by decide) rfl kw_5_93 rfl dX6_print_54 ?_
    refine lv_iload_n hx hb dX6_print_57 rfl (lv_at hl 1 rfl) ?_
    refine lv_i2l (v := (a1 : Int32).toInt64) hx hb dX6_print_58 rfl ?_
    refine lv_ladd hx hb dX6_print_59 ?_
    refine yp (ci := 6) (v := .long ((σ6.2.1 84) + ((a1 : Int32).toInt64))) (cw := (cW o u cI cZ cJ T)) S inX6 tyX6 tyX6_ok nmX6 rfl hK hP hD hS cW_84 10 (by decide) kw_5_93 rfl rfl rfl rfl (Nat.le_of_ble_eq_true rfl) dX6_print_60 cWp_84_10 (fun σ7 H locs eσ7 hP hD hS => ?_)
    have hok := hok σ7 eσ7
    exact yEndv S hr hlocks hP hD hS (Nat.le_of_ble_eq_true rfl) (Nat.le_of_ble_eq_true rfl) dX6_print_63 hok

set_option maxHeartbeats 8000000 in
set_option maxRecDepth 100000 in
theorem v_X3_perform_t84 (l : Launch) (D : va_G) (cI cZ cJ : ClassId) (o : Nat) (u : Nat → Nat) (ra : Nat → Nat) (ga : SG) (σ : FS) (a1 : Int32) (a2 : Int32) (Φ : FS → Prop) (sz : Nat) (hok : (wp_X3_perform 84 σ a1 a2 Φ)) : Met l yX3_perform (uW yX3_perform cX3_perform 4 none) ({ frames := 5, cells := 0, slots := 0, locals := 121 }) (va_Pc [.ref (u 64), .int a1, .int a2] (aS ra ga D (tyL cI cZ cJ) (cW o u cI cZ cJ 83 σ) sz)) (yQv Φ D (cW o u cI cZ cJ 83) (va_A (cW o u cI cZ cJ 83 σ) sz)) 0 0 (va_A (cW o u cI cZ cJ 83 σ) sz) := by
  refine aStart (lv := [(0, .ref (u 64)), (1, .int a1), (2, .int a2)]) (Qc := fun A => yQv Φ D (cW o u cI cZ cJ 83) A) (by decide) (Nat.le_of_ble_eq_true rfl) rfl ?_
  intro p e s m args below meth c ls A H S hr hlocks hnm hl hK hP hD hS hA hB
  have hx := S.1
  have hb := S.2.1
  refine lv_aload_n hx hb dX3_perform_0 rfl (lv_at hl 0 rfl) ?_
  refine xg (ci := 3) S inX3 rfl hK hP cW_65 3 (by decide) rfl kw_5_132 rfl dX3_perform_1 ?_
  refine xg (ci := 0) S inX0 rfl hK hP cW_52 8 (by decide) rfl kw_4_231 rfl dX3_perform_4 ?_
  refine lv_iload_n hx hb dX3_perform_7 rfl (lv_at hl 1 rfl) ?_
  have h_8 := hok.1
  have hok := hok.2
  refine xiald (t0 := 0) (v := (g σ 56 a1)) S hK hP cW_56 rfl h_8 rfl dX3_perform_8 ?_
  refine lv_topi (fun x1 ex1 => ?_)
  have hok := hok x1 ex1
  refine lv_istore_n (lv' := [(3, .int x1), (0, .ref (u 64)), (1, .int a1), (2, .int a2)]) hx hb dX3_perform_9 rfl hl (by decide) rfl (fun ls hl => ?_)
  refine lv_iload_n hx hb dX3_perform_10 rfl (lv_at hl 3 rfl) ?_
  by_cases k_11_0 : a2 = 1
  · have hok := hok.1 k_11_0
    rw [k_11_0]
    refine lv_tableIn (off := 121) (tgt := 132) hx hb dX3_perform_11 (by decide) (by decide) (by decide) (by decide) ?_
    refine lv_aload_n hx hb dX3_perform_132 rfl (lv_at hl 1 rfl) ?_
    refine lv_iload_n hx hb dX3_perform_133 rfl (lv_at hl 0 rfl) ?_
    refine lv_iconst (v := 0) hx hb dX3_perform_134 (by decide) ?_
    refine yVv (As := [.int x1, .int 0]) (cw := (cW o u cI cZ cJ 83)) (ci := 3) S (v_X3_push l D cI cZ cJ o u 83 ra ga σ x1 0 _ H.size hok) mi_X3_push kw_3_43 rfl rfl ⟨Nat.le_of_ble_eq_true rfl, Nat.le_of_ble_eq_true rfl⟩ hP hD hK hS hA hB cW_65 rfl rfl hl.1 (Nat.le_of_ble_eq_true rfl) ⟨Nat.le_of_ble_eq_true rfl, Nat.le_of_ble_eq_true rfl⟩ dX3_perform_135 (fun σ2 H locs hok hz hP hD hS => ?_)
    refine lv_goto (tgt := 403) hx hb dX3_perform_138 (by decide) ?_
    exact yEndv S hr hlocks hP hD hS (Nat.le_of_ble_eq_true rfl) (Nat.le_of_ble_eq_true rfl) dX3_perform_403 hok
  · have hok := hok.2 k_11_0
    by_cases k_11_1 : a2 = 2
    · have hok := hok.1 k_11_1
      rw [k_11_1]
      refine lv_tableIn (off := 130) (tgt := 141) hx hb dX3_perform_11 (by decide) (by decide) (by decide) (by decide) ?_
      refine lv_aload_n hx hb dX3_perform_141 rfl (lv_at hl 1 rfl) ?_
      refine lv_aload_n hx hb dX3_perform_142 rfl (lv_at hl 1 rfl) ?_
      refine lv_iload_n hx hb dX3_perform_143 rfl (lv_at hl 2 rfl) ?_
      refine yVi (As := [.int a1]) (cw := (cW o u cI cZ cJ 83)) (ci := 3) S (v_X3_cellOf l D cI cZ cJ o u 83 ra ga σ a1 _ H.size hok) mi_X3_cellOf kw_3_47 rfl rfl ⟨Nat.le_of_ble_eq_true rfl, Nat.le_of_ble_eq_true rfl⟩ hP hD hK hS hA hB cW_65 rfl rfl hl.1 (Nat.le_of_ble_eq_true rfl) ⟨Nat.le_of_ble_eq_true rfl, Nat.le_of_ble_eq_true rfl⟩ dX3_perform_144 (fun x4 σ3 H locs hok hz hP hD hS => ?_)
      refine lv_iload_n hx hb dX3_perform_147 rfl (lv_at hl 2 rfl) ?_
      refine yVv (As := [.int x4, .int a1]) (cw := (cW o u cI cZ cJ 83)) (ci := 3) S (v_X3_get l D cI cZ cJ o u 83 ra ga σ3 x4 a1 _ H.size hok) mi_X3_get kw_3_55 rfl rfl ⟨Nat.le_of_ble_eq_true rfl, Nat.le_of_ble_eq_true rfl⟩ hP hD hK hS hA hB cW_65 rfl rfl hl.1 (Nat.le_of_ble_eq_true rfl) ⟨Nat.le_of_ble_eq_true rfl, Nat.le_of_ble_eq_true rfl⟩ dX3_perform_148 (fun σ5 H locs hok hz hP hD hS => ?_)
      refine lv_goto (tgt := 403) hx hb dX3_perform_151 (by decide) ?_
      exact yEndv S hr hlocks hP hD hS (Nat.le_of_ble_eq_true rfl) (Nat.le_of_ble_eq_true rfl) dX3_perform_403 hok
    · have hok := hok.2 k_11_1
      by_cases k_11_2 : a2 = 3
      · have hok := hok.1 k_11_2
        rw [k_11_2]
        refine lv_tableIn (off := 143) (tgt := 154) hx hb dX3_perform_11 (by decide) (by decide) (by decide) (by decide) ?_
        refine lv_aload_n hx hb dX3_perform_154 rfl (lv_at hl 1 rfl) ?_
        refine lv_aload_n hx hb dX3_perform_155 rfl (lv_at hl 1 rfl) ?_
        refine lv_iload_n hx hb dX3_perform_156 rfl (lv_at hl 2 rfl) ?_
        refine yVi (As := [.int a1]) (cw := (cW o u cI cZ cJ 83)) (ci := 3) S (v_X3_cellOf l D cI cZ cJ o u 83 ra ga σ a1 _ H.size hok) mi_X3_cellOf kw_3_47 rfl rfl ⟨Nat.le_of_ble_eq_true rfl, Nat.le_of_ble_eq_true rfl⟩ hP hD hK hS hA hB cW_65 rfl rfl hl.1 (Nat.le_of_ble_eq_true rfl) ⟨Nat.le_of_ble_eq_true rfl, Nat.le_of_ble_eq_true rfl⟩ dX3_perform_157 (fun x7 σ6 H locs hok hz hP hD hS => ?_)
        refine lv_iload_n hx hb dX3_perform_160 rfl (lv_at hl 2 rfl) ?_
        refine lv_iconst (v := 0) hx hb dX3_perform_161 (by decide) ?_
        refine yVv (As := [.int x7, .int a1, .int 0]) (cw := (cW o u cI cZ cJ 83)) (ci := 3) S (v_X3_pick_t84 l D cI cZ cJ o u ra ga σ6 x7 a1 0 _ H.size hok) mi_X3_pick kw_3_63 rfl rfl ⟨Nat.le_of_ble_eq_true rfl, Nat.le_of_ble_eq_true rfl⟩ hP hD hK hS hA hB cW_65 rfl rfl hl.1 (Nat.le_of_ble_eq_true rfl) ⟨Nat.le_of_ble_eq_true rfl, Nat.le_of_ble_eq_true rfl⟩ dX3_perform_162 (fun σ8 H locs hok hz hP hD hS => ?_)
        refine lv_goto (tgt := 403) hx hb dX3_perform_165 (by decide) ?_
        exact yEndv S hr hlocks hP hD hS (Nat.le_of_ble_eq_true rfl) (Nat.le_of_ble_eq_true rfl) dX3_perform_403 hok
      · have hok := hok.2 k_11_2
        by_cases k_11_3 : a2 = 4
        · have hok := hok.1 k_11_3
          rw [k_11_3]
          refine lv_tableIn (off := 386) (tgt := 397) hx hb dX3_perform_11 (by decide) (by decide) (by decide) (by decide) ?_
          refine lv_aload_n hx hb dX3_perform_397 rfl (lv_at hl 1 rfl) ?_
          refine lv_iload_n hx hb dX3_perform_398 rfl (lv_at hl 2 rfl) ?_
          refine lv_iload_n hx hb dX3_perform_399 rfl (lv_at hl 3 rfl) ?_
          refine yVv (As := [.int a1, .int a2]) (cw := (cW o u cI cZ cJ 83)) (ci := 3) S (v_X3_reckon_t84 l D cI cZ cJ o u ra ga σ a1 a2 _ H.size hok) mi_X3_reckon kw_3_125 rfl rfl ⟨Nat.le_of_ble_eq_true rfl, Nat.le_of_ble_eq_true rfl⟩ hP hD hK hS hA hB cW_65 rfl rfl hl.1 (Nat.le_of_ble_eq_true rfl) ⟨Nat.le_of_ble_eq_true rfl, Nat.le_of_ble_eq_true rfl⟩ dX3_perform_400 (fun σ9 H locs hok hz hP hD hS => ?_)
          exact yEndv S hr hlocks hP hD hS (Nat.le_of_ble_eq_true rfl) (Nat.le_of_ble_eq_true rfl) dX3_perform_403 hok
        · have hok := hok.2 k_11_3
          by_cases k_11_4 : a2 = 5
          · have hok := hok.1 k_11_4
            rw [k_11_4]
            refine lv_tableIn (off := 386) (tgt := 397) hx hb dX3_perform_11 (by decide) (by decide) (by decide) (by decide) ?_
            refine lv_aload_n hx hb dX3_perform_397 rfl (lv_at hl 1 rfl) ?_
            refine lv_iload_n hx hb dX3_perform_398 rfl (lv_at hl 2 rfl) ?_
            refine lv_iload_n hx hb dX3_perform_399 rfl (lv_at hl 3 rfl) ?_
            refine yVv (As := [.int a1, .int a2]) (cw := (cW o u cI cZ cJ 83)) (ci := 3) S (v_X3_reckon_t84 l D cI cZ cJ o u ra ga σ a1 a2 _ H.size hok) mi_X3_reckon kw_3_125 rfl rfl ⟨Nat.le_of_ble_eq_true rfl, Nat.le_of_ble_eq_true rfl⟩ hP hD hK hS hA hB cW_65 rfl rfl hl.1 (Nat.le_of_ble_eq_true rfl) ⟨Nat.le_of_ble_eq_true rfl, Nat.le_of_ble_eq_true rfl⟩ dX3_perform_400 (fun σ10 H locs hok hz hP hD hS => ?_)
            exact yEndv S hr hlocks hP hD hS (Nat.le_of_ble_eq_true rfl) (Nat.le_of_ble_eq_true rfl) dX3_perform_403 hok
          · have hok := hok.2 k_11_4
            by_cases k_11_5 : a2 = 6
            · have hok := hok.1 k_11_5
              rw [k_11_5]
              refine lv_tableIn (off := 386) (tgt := 397) hx hb dX3_perform_11 (by decide) (by decide) (by decide) (by decide) ?_
              refine lv_aload_n hx hb dX3_perform_397 rfl (lv_at hl 1 rfl) ?_
              refine lv_iload_n hx hb dX3_perform_398 rfl (lv_at hl 2 rfl) ?_
              refine lv_iload_n hx hb dX3_perform_399 rfl (lv_at hl 3 rfl) ?_
              refine yVv (As := [.int a1, .int a2]) (cw := (cW o u cI cZ cJ 83)) (ci := 3) S (v_X3_reckon_t84 l D cI cZ cJ o u ra ga σ a1 a2 _ H.size hok) mi_X3_reckon kw_3_125 rfl rfl ⟨Nat.le_of_ble_eq_true rfl, Nat.le_of_ble_eq_true rfl⟩ hP hD hK hS hA hB cW_65 rfl rfl hl.1 (Nat.le_of_ble_eq_true rfl) ⟨Nat.le_of_ble_eq_true rfl, Nat.le_of_ble_eq_true rfl⟩ dX3_perform_400 (fun σ11 H locs hok hz hP hD hS => ?_)
              exact yEndv S hr hlocks hP hD hS (Nat.le_of_ble_eq_true rfl) (Nat.le_of_ble_eq_true rfl) dX3_perform_403 hok
            · have hok := hok.2 k_11_5
              by_cases k_11_6 : a2 = 7
              · have hok := hok.1 k_11_6
                rw [k_11_6]
                refine lv_tableIn (off := 386) (tgt := 397) hx hb dX3_perform_11 (by decide) (by decide) (by decide) (by decide) ?_
                refine lv_aload_n hx hb dX3_perform_397 rfl (lv_at hl 1 rfl) ?_
                refine lv_iload_n hx hb dX3_perform_398 rfl (lv_at hl 2 rfl) ?_
                refine lv_iload_n hx hb dX3_perform_399 rfl (lv_at hl 3 rfl) ?_
                refine yVv (As := [.int a1, .int a2]) (cw := (cW o u cI cZ cJ 83)) (ci := 3) S (v_X3_reckon_t84 l D cI cZ cJ o u ra ga σ a1 a2 _ H.size hok) mi_X3_reckon kw_3_125 rfl rfl ⟨Nat.le_of_ble_eq_true rfl, Nat.le_of_ble_eq_true rfl⟩ hP hD hK hS hA hB cW_65 rfl rfl hl.1 (Nat.le_of_ble_eq_true rfl) ⟨Nat.le_of_ble_eq_true rfl, Nat.le_of_ble_eq_true rfl⟩ dX3_perform_400 (fun σ12 H locs hok hz hP hD hS => ?_)
                exact yEndv S hr hlocks hP hD hS (Nat.le_of_ble_eq_true rfl) (Nat.le_of_ble_eq_true rfl) dX3_perform_403 hok
              · have hok := hok.2 k_11_6
                by_cases k_11_7 : a2 = 8
                · have hok := hok.1 k_11_7
                  rw [k_11_7]
                  refine lv_tableIn (off := 386) (tgt := 397) hx hb dX3_perform_11 (by decide) (by decide) (by decide) (by decide) ?_
                  refine lv_aload_n hx hb dX3_perform_397 rfl (lv_at hl 1 rfl) ?_
                  refine lv_iload_n hx hb dX3_perform_398 rfl (lv_at hl 2 rfl) ?_
                  refine lv_iload_n hx hb dX3_perform_399 rfl (lv_at hl 3 rfl) ?_
                  refine yVv (As := [.int a1, .int a2]) (cw := (cW o u cI cZ cJ 83)) (ci := 3) S (v_X3_reckon_t84 l D cI cZ cJ o u ra ga σ a1 a2 _ H.size hok) mi_X3_reckon kw_3_125 rfl rfl ⟨Nat.le_of_ble_eq_true rfl, Nat.le_of_ble_eq_true rfl⟩ hP hD hK hS hA hB cW_65 rfl rfl hl.1 (Nat.le_of_ble_eq_true rfl) ⟨Nat.le_of_ble_eq_true rfl, Nat.le_of_ble_eq_true rfl⟩ dX3_perform_400 (fun σ13 H locs hok hz hP hD hS => ?_)
                  exact yEndv S hr hlocks hP hD hS (Nat.le_of_ble_eq_true rfl) (Nat.le_of_ble_eq_true rfl) dX3_perform_403 hok
                · have hok := hok.2 k_11_7
                  by_cases k_11_8 : a2 = 9
                  · have hok := hok.1 k_11_8
                    rw [k_11_8]
                    refine lv_tableIn (off := 157) (tgt := 168) hx hb dX3_perform_11 (by decide) (by decide) (by decide) (by decide) ?_
                    refine lv_aload_n hx hb dX3_perform_168 rfl (lv_at hl 1 rfl) ?_
                    refine lv_iload_n hx hb dX3_perform_169 rfl (lv_at hl 2 rfl) ?_
                    refine yVv (As := [.int a1]) (cw := (cW o u cI cZ cJ 83)) (ci := 3) S (v_X3_go_t84 l D cI cZ cJ o u ra ga σ a1 _ H.size hok) mi_X3_go kw_3_71 rfl rfl ⟨Nat.le_of_ble_eq_true rfl, Nat.le_of_ble_eq_true rfl⟩ hP hD hK hS hA hB cW_65 rfl rfl hl.1 (Nat.le_of_ble_eq_true rfl) ⟨Nat.le_of_ble_eq_true rfl, Nat.le_of_ble_eq_true rfl⟩ dX3_perform_170 (fun σ14 H locs hok hz hP hD hS => ?_)
                    refine lv_goto (tgt := 403) hx hb dX3_perform_173 (by decide) ?_
                    exact yEndv S hr hlocks hP hD hS (Nat.le_of_ble_eq_true rfl) (Nat.le_of_ble_eq_true rfl) dX3_perform_403 hok
                  · have hok := hok.2 k_11_8
                    by_cases k_11_9 : a2 = 10
                    · have hok := hok.1 k_11_9
                      rw [k_11_9]
                      refine lv_tableIn (off := 165) (tgt := 176) hx hb dX3_perform_11 (by decide) (by decide) (by decide) (by decide) ?_
                      refine lv_aload_n hx hb dX3_perform_176 rfl (lv_at hl 1 rfl) ?_
                      refine lv_aload_n hx hb dX3_perform_177 rfl (lv_at hl 1 rfl) ?_
                      refine lv_iload_n hx hb dX3_perform_178 rfl (lv_at hl 2 rfl) ?_
                      refine yVi (As := [.int a1]) (cw := (cW o u cI cZ cJ 83)) (ci := 3) S (v_X3_cellOf l D cI cZ cJ o u 83 ra ga σ a1 _ H.size hok) mi_X3_cellOf kw_3_47 rfl rfl ⟨Nat.le_of_ble_eq_true rfl, Nat.le_of_ble_eq_true rfl⟩ hP hD hK hS hA hB cW_65 rfl rfl hl.1 (Nat.le_of_ble_eq_true rfl) ⟨Nat.le_of_ble_eq_true rfl, Nat.le_of_ble_eq_true rfl⟩ dX3_perform_179 (fun x16 σ15 H locs hok hz hP hD hS => ?_)
                      refine lv_iload_n hx hb dX3_perform_182 rfl (lv_at hl 2 rfl) ?_
                      refine yVv (As := [.int x16, .int a1]) (cw := (cW o u cI cZ cJ 83)) (ci := 3) S (v_X3_goByProc_t84 l D cI cZ cJ o u ra ga σ15 x16 a1 _ H.size hok) mi_X3_goByProc kw_3_75 rfl rfl ⟨Nat.le_of_ble_eq_true rfl, Nat.le_of_ble_eq_true rfl⟩ hP hD hK hS hA hB cW_65 rfl rfl hl.1 (Nat.le_of_ble_eq_true rfl) ⟨Nat.le_of_ble_eq_true rfl, Nat.le_of_ble_eq_true rfl⟩ dX3_perform_183 (fun σ17 H locs hok hz hP hD hS => ?_)
                      refine lv_goto (tgt := 403) hx hb dX3_perform_186 (by decide) ?_
                      exact yEndv S hr hlocks hP hD hS (Nat.le_of_ble_eq_true rfl) (Nat.le_of_ble_eq_true rfl) dX3_perform_403 hok
                    · have hok := hok.2 k_11_9
                      by_cases k_11_10 : a2 = 11
                      · have hok := hok.1 k_11_10
                        rw [k_11_10]
                        refine lv_tableIn (off := 386) (tgt := 397) hx hb dX3_perform_11 (by decide) (by decide) (by decide) (by decide) ?_
                        refine lv_aload_n hx hb dX3_perform_397 rfl (lv_at hl 1 rfl) ?_
                        refine lv_iload_n hx hb dX3_perform_398 rfl (lv_at hl 2 rfl) ?_
                        refine lv_iload_n hx hb dX3_perform_399 rfl (lv_at hl 3 rfl) ?_
                        refine yVv (As := [.int a1, .int a2]) (cw := (cW o u cI cZ cJ 83)) (ci := 3) S (v_X3_reckon_t84 l D cI cZ cJ o u ra ga σ a1 a2 _ H.size hok) mi_X3_reckon kw_3_125 rfl rfl ⟨Nat.le_of_ble_eq_true rfl, Nat.le_of_ble_eq_true rfl⟩ hP hD hK hS hA hB cW_65 rfl rfl hl.1 (Nat.le_of_ble_eq_true rfl) ⟨Nat.le_of_ble_eq_true rfl, Nat.le_of_ble_eq_true rfl⟩ dX3_perform_400 (fun σ18 H locs hok hz hP hD hS => ?_)
                        exact yEndv S hr hlocks hP hD hS (Nat.le_of_ble_eq_true rfl) (Nat.le_of_ble_eq_true rfl) dX3_perform_403 hok
                      · have hok := hok.2 k_11_10
                        by_cases k_11_11 : a2 = 12
                        · have hok := hok.1 k_11_11
                          rw [k_11_11]
                          refine lv_tableIn (off := 178) (tgt := 189) hx hb dX3_perform_11 (by decide) (by decide) (by decide) (by decide) ?_
                          refine lv_aload_n hx hb dX3_perform_189 rfl (lv_at hl 1 rfl) ?_
                          refine lv_aload_n hx hb dX3_perform_190 rfl (lv_at hl 1 rfl) ?_
                          refine lv_iload_n hx hb dX3_perform_191 rfl (lv_at hl 2 rfl) ?_
                          refine yVi (As := [.int a1]) (cw := (cW o u cI cZ cJ 83)) (ci := 3) S (v_X3_cellOf l D cI cZ cJ o u 83 ra ga σ a1 _ H.size hok) mi_X3_cellOf kw_3_47 rfl rfl ⟨Nat.le_of_ble_eq_true rfl, Nat.le_of_ble_eq_true rfl⟩ hP hD hK hS hA hB cW_65 rfl rfl hl.1 (Nat.le_of_ble_eq_true rfl) ⟨Nat.le_of_ble_eq_true rfl, Nat.le_of_ble_eq_true rfl⟩ dX3_perform_192 (fun x20 σ19 H locs hok hz hP hD hS => ?_)
                          refine lv_iload_n hx hb dX3_perform_195 rfl (lv_at hl 2 rfl) ?_
                          refine yVv (As := [.int x20, .int a1]) (cw := (cW o u cI cZ cJ 83)) (ci := 3) S (v_X3_refer l D cI cZ cJ o u 83 ra ga σ19 x20 a1 _ H.size hok) mi_X3_refer kw_3_81 rfl rfl ⟨Nat.le_of_ble_eq_true rfl, Nat.le_of_ble_eq_true rfl⟩ hP hD hK hS hA hB cW_65 rfl rfl hl.1 (Nat.le_of_ble_eq_true rfl) ⟨Nat.le_of_ble_eq_true rfl, Nat.le_of_ble_eq_true rfl⟩ dX3_perform_196 (fun σ21 H locs hok hz hP hD hS => ?_)
                          refine lv_goto (tgt := 403) hx hb dX3_perform_199 (by decide) ?_
                          exact yEndv S hr hlocks hP hD hS (Nat.le_of_ble_eq_true rfl) (Nat.le_of_ble_eq_true rfl) dX3_perform_403 hok
                        · have hok := hok.2 k_11_11
                          by_cases k_11_12 : a2 = 13
                          · have hok := hok.1 k_11_12
                            rw [k_11_12]
                            refine lv_tableIn (off := 191) (tgt := 202) hx hb dX3_perform_11 (by decide) (by decide) (by decide) (by decide) ?_
                            refine lv_aload_n hx hb dX3_perform_202 rfl (lv_at hl 1 rfl) ?_
                            refine lv_aload_n hx hb dX3_perform_203 rfl (lv_at hl 1 rfl) ?_
                            refine lv_iload_n hx hb dX3_perform_204 rfl (lv_at hl 2 rfl) ?_
                            refine yVi (As := [.int a1]) (cw := (cW o u cI cZ cJ 83)) (ci := 3) S (v_X3_cellOf l D cI cZ cJ o u 83 ra ga σ a1 _ H.size hok) mi_X3_cellOf kw_3_47 rfl rfl ⟨Nat.le_of_ble_eq_true rfl, Nat.le_of_ble_eq_true rfl⟩ hP hD hK hS hA hB cW_65 rfl rfl hl.1 (Nat.le_of_ble_eq_true rfl) ⟨Nat.le_of_ble_eq_true rfl, Nat.le_of_ble_eq_true rfl⟩ dX3_perform_205 (fun x23 σ22 H locs hok hz hP hD hS => ?_)
                            refine lv_iload_n hx hb dX3_perform_208 rfl (lv_at hl 2 rfl) ?_
                            refine lv_iconst (v := 1) hx hb dX3_perform_209 (by decide) ?_
                            refine yVv (As := [.int x23, .int a1, .int 1]) (cw := (cW o u cI cZ cJ 83)) (ci := 3) S (v_X3_pick_t84 l D cI cZ cJ o u ra ga σ22 x23 a1 1 _ H.size hok) mi_X3_pick kw_3_63 rfl rfl ⟨Nat.le_of_ble_eq_true rfl, Nat.le_of_ble_eq_true rfl⟩ hP hD hK hS hA hB cW_65 rfl rfl hl.1 (Nat.le_of_ble_eq_true rfl) ⟨Nat.le_of_ble_eq_true rfl, Nat.le_of_ble_eq_true rfl⟩ dX3_perform_210 (fun σ24 H locs hok hz hP hD hS => ?_)
                            refine lv_goto (tgt := 403) hx hb dX3_perform_213 (by decide) ?_
                            exact yEndv S hr hlocks hP hD hS (Nat.le_of_ble_eq_true rfl) (Nat.le_of_ble_eq_true rfl) dX3_perform_403 hok
                          · have hok := hok.2 k_11_12
                            by_cases k_11_13 : a2 = 14
                            · have hok := hok.1 k_11_13
                              rw [k_11_13]
                              refine lv_tableIn (off := 205) (tgt := 216) hx hb dX3_perform_11 (by decide) (by decide) (by decide) (by decide) ?_
                              refine lv_aload_n hx hb dX3_perform_216 rfl (lv_at hl 1 rfl) ?_
                              refine lv_iload_n hx hb dX3_perform_217 rfl (lv_at hl 2 rfl) ?_
                              refine yVv (As := [.int a1]) (cw := (cW o u cI cZ cJ 83)) (ci := 3) S (v_X3_later l D cI cZ cJ o u 83 ra ga σ a1 _ H.size hok) mi_X3_later kw_3_85 rfl rfl ⟨Nat.le_of_ble_eq_true rfl, Nat.le_of_ble_eq_true rfl⟩ hP hD hK hS hA hB cW_65 rfl rfl hl.1 (Nat.le_of_ble_eq_true rfl) ⟨Nat.le_of_ble_eq_true rfl, Nat.le_of_ble_eq_true rfl⟩ dX3_perform_218 (fun σ25 H locs hok hz hP hD hS => ?_)
                              refine lv_goto (tgt := 403) hx hb dX3_perform_221 (by decide) ?_
                              exact yEndv S hr hlocks hP hD hS (Nat.le_of_ble_eq_true rfl) (Nat.le_of_ble_eq_true rfl) dX3_perform_403 hok
                            · have hok := hok.2 k_11_13
                              by_cases k_11_14 : a2 = 15
                              · have hok := hok.1 k_11_14
                                rw [k_11_14]
                                refine lv_tableIn (off := 213) (tgt := 224) hx hb dX3_perform_11 (by decide) (by decide) (by decide) (by decide) ?_
                                refine lv_aload_n hx hb dX3_perform_224 rfl (lv_at hl 1 rfl) ?_
                                refine yVv (As := []) (cw := (cW o u cI cZ cJ 83)) (ci := 3) S (v_X3_goBack_t84 l D cI cZ cJ o u ra ga σ _ H.size hok) mi_X3_goBack kw_3_93 rfl rfl ⟨Nat.le_of_ble_eq_true rfl, Nat.le_of_ble_eq_true rfl⟩ hP hD hK hS hA hB cW_65 rfl rfl hl.1 (Nat.le_of_ble_eq_true rfl) ⟨Nat.le_of_ble_eq_true rfl, Nat.le_of_ble_eq_true rfl⟩ dX3_perform_225 (fun σ26 H locs hok hz hP hD hS => ?_)
                                refine lv_goto (tgt := 403) hx hb dX3_perform_228 (by decide) ?_
                                exact yEndv S hr hlocks hP hD hS (Nat.le_of_ble_eq_true rfl) (Nat.le_of_ble_eq_true rfl) dX3_perform_403 hok
                              · have hok := hok.2 k_11_14
                                by_cases k_11_15 : a2 = 16
                                · have hok := hok.1 k_11_15
                                  rw [k_11_15]
                                  refine lv_tableIn (off := 220) (tgt := 231) hx hb dX3_perform_11 (by decide) (by decide) (by decide) (by decide) ?_
                                  refine lv_aload_n hx hb dX3_perform_231 rfl (lv_at hl 1 rfl) ?_
                                  refine lv_aload_n hx hb dX3_perform_232 rfl (lv_at hl 1 rfl) ?_
                                  refine lv_iload_n hx hb dX3_perform_233 rfl (lv_at hl 2 rfl) ?_
                                  refine yVi (As := [.int a1]) (cw := (cW o u cI cZ cJ 83)) (ci := 3) S (v_X3_cellOf l D cI cZ cJ o u 83 ra ga σ a1 _ H.size hok) mi_X3_cellOf kw_3_47 rfl rfl ⟨Nat.le_of_ble_eq_true rfl, Nat.le_of_ble_eq_true rfl⟩ hP hD hK hS hA hB cW_65 rfl rfl hl.1 (Nat.le_of_ble_eq_true rfl) ⟨Nat.le_of_ble_eq_true rfl, Nat.le_of_ble_eq_true rfl⟩ dX3_perform_234 (fun x28 σ27 H locs hok hz hP hD hS => ?_)
                                  refine yVv (As := [.int x28]) (cw := (cW o u cI cZ cJ 83)) (ci := 3) S (v_X3_copy l D cI cZ cJ o u 83 ra ga σ27 x28 _ H.size hok) mi_X3_copy kw_3_97 rfl rfl ⟨Nat.le_of_ble_eq_true rfl, Nat.le_of_ble_eq_true rfl⟩ hP hD hK hS hA hB cW_65 rfl rfl hl.1 (Nat.le_of_ble_eq_true rfl) ⟨Nat.le_of_ble_eq_true rfl, Nat.le_of_ble_eq_true rfl⟩ dX3_perform_237 (fun σ29 H locs hok hz hP hD hS => ?_)
                                  refine lv_goto (tgt := 403) hx hb dX3_perform_240 (by decide) ?_
                                  exact yEndv S hr hlocks hP hD hS (Nat.le_of_ble_eq_true rfl) (Nat.le_of_ble_eq_true rfl) dX3_perform_403 hok
                                · have hok := hok.2 k_11_15
                                  by_cases k_11_16 : a2 = 17
                                  · have hok := hok.1 k_11_16
                                    rw [k_11_16]
                                    refine lv_tableIn (off := 232) (tgt := 243) hx hb dX3_perform_11 (by decide) (by decide) (by decide) (by decide) ?_
                                    refine lv_aload_n hx hb dX3_perform_243 rfl (lv_at hl 1 rfl) ?_
                                    refine lv_aload_n hx hb dX3_perform_244 rfl (lv_at hl 1 rfl) ?_
                                    refine lv_iload_n hx hb dX3_perform_245 rfl (lv_at hl 2 rfl) ?_
                                    refine yVi (As := [.int a1]) (cw := (cW o u cI cZ cJ 83)) (ci := 3) S (v_X3_cellOf l D cI cZ cJ o u 83 ra ga σ a1 _ H.size hok) mi_X3_cellOf kw_3_47 rfl rfl ⟨Nat.le_of_ble_eq_true rfl, Nat.le_of_ble_eq_true rfl⟩ hP hD hK hS hA hB cW_65 rfl rfl hl.1 (Nat.le_of_ble_eq_true rfl) ⟨Nat.le_of_ble_eq_true rfl, Nat.le_of_ble_eq_true rfl⟩ dX3_perform_246 (fun x31 σ30 H locs hok hz hP hD hS => ?_)
                                    refine yVv (As := [.int x31]) (cw := (cW o u cI cZ cJ 83)) (ci := 3) S (v_X3_pushCell l D cI cZ cJ o u 83 ra ga σ30 x31 _ H.size hok) mi_X3_pushCell kw_3_59 rfl rfl ⟨Nat.le_of_ble_eq_true rfl, Nat.le_of_ble_eq_true rfl⟩ hP hD hK hS hA hB cW_65 rfl rfl hl.1 (Nat.le_of_ble_eq_true rfl) ⟨Nat.le_of_ble_eq_true rfl, Nat.le_of_ble_eq_true rfl⟩ dX3_perform_249 (fun σ32 H locs hok hz hP hD hS => ?_)
                                    refine lv_goto (tgt := 403) hx hb dX3_perform_252 (by decide) ?_
                                    exact yEndv S hr hlocks hP hD hS (Nat.le_of_ble_eq_true rfl) (Nat.le_of_ble_eq_true rfl) dX3_perform_403 hok
                                  · have hok := hok.2 k_11_16
                                    by_cases k_11_17 : a2 = 18
                                    · have hok := hok.1 k_11_17
                                      rw [k_11_17]
                                      refine lv_tableIn (off := 244) (tgt := 255) hx hb dX3_perform_11 (by decide) (by decide) (by decide) (by decide) ?_
                                      refine lv_aload_n hx hb dX3_perform_255 rfl (lv_at hl 1 rfl) ?_
                                      refine lv_aload_n hx hb dX3_perform_256 rfl (lv_at hl 1 rfl) ?_
                                      refine xg (ci := 3) S inX3 rfl hK hP cW_65 3 (by decide) rfl kw_5_132 rfl dX3_perform_257 ?_
                                      refine xg (ci := 0) S inX0 rfl hK hP cW_52 9 (by decide) rfl kw_4_234 rfl dX3_perform_260 ?_
                                      refine lv_iload_n hx hb dX3_perform_263 rfl (lv_at hl 2 rfl) ?_
                                      have h_264 := hok.1
                                      have hok := hok.2
                                      refine xiald (t0 := 0) (v := (g σ 57 a1)) S hK hP cW_57 rfl h_264 rfl dX3_perform_264 ?_
                                      refine lv_aload_n hx hb dX3_perform_265 rfl (lv_at hl 1 rfl) ?_
                                      refine lv_iload_n hx hb dX3_perform_266 rfl (lv_at hl 0 rfl) ?_
                                      refine yVi (As := [.int x1]) (cw := (cW o u cI cZ cJ 83)) (ci := 3) S (v_X3_frameAt l D cI cZ cJ o u 83 ra ga σ x1 _ H.size hok) mi_X3_frameAt kw_3_51 rfl rfl ⟨Nat.le_of_ble_eq_true rfl, Nat.le_of_ble_eq_true rfl⟩ hP hD hK hS hA hB cW_65 rfl rfl hl.1 (Nat.le_of_ble_eq_true rfl) ⟨Nat.le_of_ble_eq_true rfl, Nat.le_of_ble_eq_true rfl⟩ dX3_perform_267 (fun x34 σ33 H locs hok hz hP hD hS => ?_)
                                      refine yVv (As := [.int (g σ 57 a1), .int x34]) (cw := (cW o u cI cZ cJ 83)) (ci := 3) S (v_X3_push l D cI cZ cJ o u 83 ra ga σ33 (g σ 57 a1) x34 _ H.size hok) mi_X3_push kw_3_43 rfl rfl ⟨Nat.le_of_ble_eq_true rfl, Nat.le_of_ble_eq_true rfl⟩ hP hD hK hS hA hB cW_65 rfl rfl hl.1 (Nat.le_of_ble_eq_true rfl) ⟨Nat.le_of_ble_eq_true rfl, Nat.le_of_ble_eq_true rfl⟩ dX3_perform_270 (fun σ35 H locs hok hz hP hD hS => ?_)
                                      refine lv_goto (tgt := 403) hx hb dX3_perform_273 (by decide) ?_
                                      exact yEndv S hr hlocks hP hD hS (Nat.le_of_ble_eq_true rfl) (Nat.le_of_ble_eq_true rfl) dX3_perform_403 hok
                                    · have hok := hok.2 k_11_17
                                      by_cases k_11_18 : a2 = 19
                                      · have hok := hok.1 k_11_18
                                        rw [k_11_18]
                                        refine lv_tableIn (off := 265) (tgt := 276) hx hb dX3_perform_11 (by decide) (by decide) (by decide) (by decide) ?_
                                        refine lv_aload_n hx hb dX3_perform_276 rfl (lv_at hl 1 rfl) ?_
                                        refine lv_aload_n hx hb dX3_perform_277 rfl (lv_at hl 1 rfl) ?_
                                        refine lv_iload_n hx hb dX3_perform_278 rfl (lv_at hl 2 rfl) ?_
                                        refine yVi (As := [.int a1]) (cw := (cW o u cI cZ cJ 83)) (ci := 3) S (v_X3_cellOf l D cI cZ cJ o u 83 ra ga σ a1 _ H.size hok) mi_X3_cellOf kw_3_47 rfl rfl ⟨Nat.le_of_ble_eq_true rfl, Nat.le_of_ble_eq_true rfl⟩ hP hD hK hS hA hB cW_65 rfl rfl hl.1 (Nat.le_of_ble_eq_true rfl) ⟨Nat.le_of_ble_eq_true rfl, Nat.le_of_ble_eq_true rfl⟩ dX3_perform_279 (fun x37 σ36 H locs hok hz hP hD hS => ?_)
                                        refine lv_iload_n hx hb dX3_perform_282 rfl (lv_at hl 2 rfl) ?_
                                        refine yVv (As := [.int x37, .int a1]) (cw := (cW o u cI cZ cJ 83)) (ci := 3) S (v_X3_put l D cI cZ cJ o u 83 ra ga σ36 x37 a1 _ H.size hok) mi_X3_put kw_3_101 rfl rfl ⟨Nat.le_of_ble_eq_true rfl, Nat.le_of_ble_eq_true rfl⟩ hP hD hK hS hA hB cW_65 rfl rfl hl.1 (Nat.le_of_ble_eq_true rfl) ⟨Nat.le_of_ble_eq_true rfl, Nat.le_of_ble_eq_true rfl⟩ dX3_perform_283 (fun σ38 H locs hok hz hP hD hS => ?_)
                                        refine lv_goto (tgt := 403) hx hb dX3_perform_286 (by decide) ?_
                                        exact yEndv S hr hlocks hP hD hS (Nat.le_of_ble_eq_true rfl) (Nat.le_of_ble_eq_true rfl) dX3_perform_403 hok
                                      · have hok := hok.2 k_11_18
                                        by_cases k_11_19 : a2 = 20
                                        · have hok := hok.1 k_11_19
                                          rw [k_11_19]
                                          refine lv_tableIn (off := 278) (tgt := 289) hx hb dX3_perform_11 (by decide) (by decide) (by decide) (by decide) ?_
                                          refine lv_aload_n hx hb dX3_perform_289 rfl (lv_at hl 1 rfl) ?_
                                          refine lv_aload_n hx hb dX3_perform_290 rfl (lv_at hl 1 rfl) ?_
                                          refine lv_iload_n hx hb dX3_perform_291 rfl (lv_at hl 2 rfl) ?_
                                          refine yVi (As := [.int a1]) (cw := (cW o u cI cZ cJ 83)) (ci := 3) S (v_X3_cellOf l D cI cZ cJ o u 83 ra ga σ a1 _ H.size hok) mi_X3_cellOf kw_3_47 rfl rfl ⟨Nat.le_of_ble_eq_true rfl, Nat.le_of_ble_eq_true rfl⟩ hP hD hK hS hA hB cW_65 rfl rfl hl.1 (Nat.le_of_ble_eq_true rfl) ⟨Nat.le_of_ble_eq_true rfl, Nat.le_of_ble_eq_true rfl⟩ dX3_perform_292 (fun x40 σ39 H locs hok hz hP hD hS => ?_)
                                          refine lv_iload_n hx hb dX3_perform_295 rfl (lv_at hl 2 rfl) ?_
                                          refine yVv (As := [.int x40, .int a1]) (cw := (cW o u cI cZ cJ 83)) (ci := 3) S (v_X3_stow_t84 l D cI cZ cJ o u ra ga σ39 x40 a1 _ H.size hok) mi_X3_stow kw_3_105 rfl rfl ⟨Nat.le_of_ble_eq_true rfl, Nat.le_of_ble_eq_true rfl⟩ hP hD hK hS hA hB cW_65 rfl rfl hl.1 (Nat.le_of_ble_eq_true rfl) ⟨Nat.le_of_ble_eq_true rfl, Nat.le_of_ble_eq_true rfl⟩ dX3_perform_296 (fun σ41 H locs hok hz hP hD hS => ?_)
                                          refine lv_goto (tgt := 403) hx hb dX3_perform_299 (by decide) ?_
                                          exact yEndv S hr hlocks hP hD hS (Nat.le_of_ble_eq_true rfl) (Nat.le_of_ble_eq_true rfl) dX3_perform_403 hok
                                        · have hok := hok.2 k_11_19
                                          by_cases k_11_20 : a2 = 21
                                          · have hok := hok.1 k_11_20
                                            rw [k_11_20]
                                            refine lv_tableIn (off := 291) (tgt := 302) hx hb dX3_perform_11 (by decide) (by decide) (by decide) (by decide) ?_
                                            refine lv_aload_n hx hb dX3_perform_302 rfl (lv_at hl 1 rfl) ?_
                                            refine lv_aload_n hx hb dX3_perform_303 rfl (lv_at hl 1 rfl) ?_
                                            refine yVi (As := []) (cw := (cW o u cI cZ cJ 83)) (ci := 3) S (v_X3_pop l D cI cZ cJ o u 83 ra ga σ _ H.size hok) mi_X3_pop kw_3_67 rfl rfl ⟨Nat.le_of_ble_eq_true rfl, Nat.le_of_ble_eq_true rfl⟩ hP hD hK hS hA hB cW_65 rfl rfl hl.1 (Nat.le_of_ble_eq_true rfl) ⟨Nat.le_of_ble_eq_true rfl, Nat.le_of_ble_eq_true rfl⟩ dX3_perform_304 (fun x43 σ42 H locs hok hz hP hD hS => ?_)
                                            refine lv_if_ne (tgt := 314) hx hb dX3_perform_307 (by decide) (fun c_307 => ?_) (fun c_307 => ?_)
                                            · have hok := hok.2 c_307
                                              refine lv_iconst (v := 0) hx hb dX3_perform_314 (by decide) ?_
                                              refine lv_iload_n hx hb dX3_perform_315 rfl (lv_at hl 0 rfl) ?_
                                              refine yVv (As := [.int 0, .int x1]) (cw := (cW o u cI cZ cJ 83)) (ci := 3) S (v_X3_skip l D cI cZ cJ o u 83 ra ga σ42 0 x1 _ H.size hok) mi_X3_skip kw_3_89 rfl rfl ⟨Nat.le_of_ble_eq_true rfl, Nat.le_of_ble_eq_true rfl⟩ hP hD hK hS hA hB cW_65 rfl rfl hl.1 (Nat.le_of_ble_eq_true rfl) ⟨Nat.le_of_ble_eq_true rfl, Nat.le_of_ble_eq_true rfl⟩ dX3_perform_316 (fun σ44 H locs hok hz hP hD hS => ?_)
                                              refine lv_goto (tgt := 403) hx hb dX3_perform_319 (by decide) ?_
                                              exact yEndv S hr hlocks hP hD hS (Nat.le_of_ble_eq_true rfl) (Nat.le_of_ble_eq_true rfl) dX3_perform_403 hok
                                            · have hok := hok.1 c_307
                                              refine lv_iconst (v := 1) hx hb dX3_perform_310 (by decide) ?_
                                              refine lv_goto (tgt := 315) hx hb dX3_perform_311 (by decide) ?_
                                              refine lv_iload_n hx hb dX3_perform_315 rfl (lv_at hl 0 rfl) ?_
                                              refine yVv (As := [.int 1, .int x1]) (cw := (cW o u cI cZ cJ 83)) (ci := 3) S (v_X3_skip l D cI cZ cJ o u 83 ra ga σ42 1 x1 _ H.size hok) mi_X3_skip kw_3_89 rfl rfl ⟨Nat.le_of_ble_eq_true rfl, Nat.le_of_ble_eq_true rfl⟩ hP hD hK hS hA hB cW_65 rfl rfl hl.1 (Nat.le_of_ble_eq_true rfl) ⟨Nat.le_of_ble_eq_true rfl, Nat.le_of_ble_eq_true rfl⟩ dX3_perform_316 (fun σ45 H locs hok hz hP hD hS => ?_)
                                              refine lv_goto (tgt := 403) hx hb dX3_perform_319 (by decide) ?_
                                              exact yEndv S hr hlocks hP hD hS (Nat.le_of_ble_eq_true rfl) (Nat.le_of_ble_eq_true rfl) dX3_perform_403 hok
                                          · have hok := hok.2 k_11_20
                                            by_cases k_11_21 : a2 = 22
                                            · have hok := hok.1 k_11_21
                                              rw [k_11_21]
                                              refine lv_tableIn (off := 311) (tgt := 322) hx hb dX3_perform_11 (by decide) (by decide) (by decide) (by decide) ?_
                                              refine lv_aload_n hx hb dX3_perform_322 rfl (lv_at hl 1 rfl) ?_
                                              refine lv_iconst (v := 1) hx hb dX3_perform_323 (by decide) ?_
                                              refine lv_iload_n hx hb dX3_perform_324 rfl (lv_at hl 0 rfl) ?_
                                              refine yVv (As := [.int 1, .int x1]) (cw := (cW o u cI cZ cJ 83)) (ci := 3) S (v_X3_skip l D cI cZ cJ o u 83 ra ga σ 1 x1 _ H.size hok) mi_X3_skip kw_3_89 rfl rfl ⟨Nat.le_of_ble_eq_true rfl, Nat.le_of_ble_eq_true rfl⟩ hP hD hK hS hA hB cW_65 rfl rfl hl.1 (Nat.le_of_ble_eq_true rfl) ⟨Nat.le_of_ble_eq_true rfl, Nat.le_of_ble_eq_true rfl⟩ dX3_perform_325 (fun σ46 H locs hok hz hP hD hS => ?_)
                                              refine lv_goto (tgt := 403) hx hb dX3_perform_328 (by decide) ?_
                                              exact yEndv S hr hlocks hP hD hS (Nat.le_of_ble_eq_true rfl) (Nat.le_of_ble_eq_true rfl) dX3_perform_403 hok
                                            · have hok := hok.2 k_11_21
                                              by_cases k_11_22 : a2 = 23
                                              · have hok := hok.1 k_11_22
                                                rw [k_11_22]
                                                refine lv_tableIn (off := 320) (tgt := 331) hx hb dX3_perform_11 (by decide) (by decide) (by decide) (by decide) ?_
                                                refine lv_aload_n hx hb dX3_perform_331 rfl (lv_at hl 1 rfl) ?_
                                                refine lv_iload_n hx hb dX3_perform_332 rfl (lv_at hl 2 rfl) ?_
                                                refine yVv (As := [.int a1]) (cw := (cW o u cI cZ cJ 83)) (ci := 3) S (v_X3_open l D cI cZ cJ o u 83 ra ga σ a1 _ H.size hok) mi_X3_open kw_3_109 rfl rfl ⟨Nat.le_of_ble_eq_true rfl, Nat.le_of_ble_eq_true rfl⟩ hP hD hK hS hA hB cW_65 rfl rfl hl.1 (Nat.le_of_ble_eq_true rfl) ⟨Nat.le_of_ble_eq_true rfl, Nat.le_of_ble_eq_true rfl⟩ dX3_perform_333 (fun σ47 H locs hok hz hP hD hS => ?_)
                                                refine lv_goto (tgt := 403) hx hb dX3_perform_336 (by decide) ?_
                                                exact yEndv S hr hlocks hP hD hS (Nat.le_of_ble_eq_true rfl) (Nat.le_of_ble_eq_true rfl) dX3_perform_403 hok
                                              · have hok := hok.2 k_11_22
                                                by_cases k_11_23 : a2 = 24
                                                · have hok := hok.1 k_11_23
                                                  rw [k_11_23]
                                                  refine lv_tableIn (off := 328) (tgt := 339) hx hb dX3_perform_11 (by decide) (by decide) (by decide) (by decide) ?_
                                                  refine lv_aload_n hx hb dX3_perform_339 rfl (lv_at hl 1 rfl) ?_
                                                  refine xg (ci := 3) S inX3 rfl hK hP cW_65 8 (by decide) rfl kw_5_137 rfl dX3_perform_340 ?_
                                                  refine lv_aload_n hx hb dX3_perform_343 rfl (lv_at hl 1 rfl) ?_
                                                  refine xg (ci := 3) S inX3 rfl hK hP cW_65 8 (by decide) rfl kw_5_137 rfl dX3_perform_344 ?_
                                                  refine xg (ci := 7) S inX7 rfl hK hP cW_74 2 (by decide) rfl kw_5_57 rfl dX3_perform_347 ?_
                                                  refine lv_iconst (v := 1) hx hb dX3_perform_350 (by decide) ?_
                                                  refine xisub (v := (σ.1 74 2) - 1) S dX3_perform_351 rfl ?_
                                                  refine yVv (As := [.int ((σ.1 74 2) - 1)]) (cw := (cW o u cI cZ cJ 83)) (ci := 7) S (v_X7_cut_74 l D cI cZ cJ o u 83 ra ga σ ((σ.1 74 2) - 1) _ H.size hok) mi_X7_cut kw_2_212 rfl rfl ⟨Nat.le_of_ble_eq_true rfl, Nat.le_of_ble_eq_true rfl⟩ hP hD hK hS hA hB cW_74 rfl rfl hl.1 (Nat.le_of_ble_eq_true rfl) ⟨Nat.le_of_ble_eq_true rfl, Nat.le_of_ble_eq_true rfl⟩ dX3_perform_352 (fun σ48 H locs hok hz hP hD hS => ?_)
                                                  refine lv_goto (tgt := 403) hx hb dX3_perform_355 (by decide) ?_
                                                  exact yEndv S hr hlocks hP hD hS (Nat.le_of_ble_eq_true rfl) (Nat.le_of_ble_eq_true rfl) dX3_perform_403 hok
                                                · have hok := hok.2 k_11_23
                                                  by_cases k_11_24 : a2 = 25
                                                  · have hok := hok.1 k_11_24
                                                    rw [k_11_24]
                                                    refine lv_tableIn (off := 347) (tgt := 358) hx hb dX3_perform_11 (by decide) (by decide) (by decide) (by decide) ?_
                                                    refine lv_aload_n hx hb dX3_perform_358 rfl (lv_at hl 1 rfl) ?_
                                                    refine lv_iload_n hx hb dX3_perform_359 rfl (lv_at hl 2 rfl) ?_
                                                    refine yVv (As := [.int a1]) (cw := (cW o u cI cZ cJ 83)) (ci := 3) S (v_X3_leave_t84 l D cI cZ cJ o u ra ga σ a1 _ H.size hok) mi_X3_leave kw_3_113 rfl rfl ⟨Nat.le_of_ble_eq_true rfl, Nat.le_of_ble_eq_true rfl⟩ hP hD hK hS hA hB cW_65 rfl rfl hl.1 (Nat.le_of_ble_eq_true rfl) ⟨Nat.le_of_ble_eq_true rfl, Nat.le_of_ble_eq_true rfl⟩ dX3_perform_360 (fun σ49 H locs hok hz hP hD hS => ?_)
                                                    refine lv_goto (tgt := 403) hx hb dX3_perform_363 (by decide) ?_
                                                    exact yEndv S hr hlocks hP hD hS (Nat.le_of_ble_eq_true rfl) (Nat.le_of_ble_eq_true rfl) dX3_perform_403 hok
                                                  · have hok := hok.2 k_11_24
                                                    by_cases k_11_25 : a2 = 26
                                                    · have hok := hok.1 k_11_25
                                                      rw [k_11_25]
                                                      refine lv_tableIn (off := 355) (tgt := 366) hx hb dX3_perform_11 (by decide) (by decide) (by decide) (by decide) ?_
                                                      refine lv_aload_n hx hb dX3_perform_366 rfl (lv_at hl 1 rfl) ?_
                                                      refine xg (ci := 3) S inX3 rfl hK hP cW_65 9 (by decide) rfl kw_5_138 rfl dX3_perform_367 ?_
                                                      refine lv_aload_n hx hb dX3_perform_370 rfl (lv_at hl 1 rfl) ?_
                                                      refine yVi (As := []) (cw := (cW o u cI cZ cJ 83)) (ci := 3) S (v_X3_pop l D cI cZ cJ o u 83 ra ga σ _ H.size hok) mi_X3_pop kw_3_67 rfl rfl ⟨Nat.le_of_ble_eq_true rfl, Nat.le_of_ble_eq_true rfl⟩ hP hD hK hS hA hB cW_65 rfl rfl hl.1 (Nat.le_of_ble_eq_true rfl) ⟨Nat.le_of_ble_eq_true rfl, Nat.le_of_ble_eq_true rfl⟩ dX3_perform_371 (fun x51 σ50 H locs hok hz hP hD hS => ?_)
                                                      refine lv_aload_n hx hb dX3_perform_374 rfl (lv_at hl 1 rfl) ?_
                                                      refine xg (ci := 3) S inX3 rfl hK hP cW_65 3 (by decide) rfl kw_5_132 rfl dX3_perform_375 ?_
                                                      refine xg (ci := 0) S inX0 rfl hK hP cW_52 10 (by decide) rfl kw_4_237 rfl dX3_perform_378 ?_
                                                      refine lv_iload_n hx hb dX3_perform_381 rfl (lv_at hl 2 rfl) ?_
                                                      have h_382 := hok.1
                                                      have hok := hok.2
                                                      refine xiald (t0 := 0) (v := (g σ50 58 a1)) S hK hP cW_58 rfl h_382 rfl dX3_perform_382 ?_
                                                      refine yVv (As := [.int x51, .int (g σ50 58 a1)]) (cw := (cW o u cI cZ cJ 83)) (ci := 6) S (v_X6_print_84 l D cI cZ cJ o u 83 ra ga σ50 x51 (g σ50 58 a1) _ H.size hok) mi_X6_print kw_3_121 rfl rfl ⟨Nat.le_of_ble_eq_true rfl, Nat.le_of_ble_eq_true rfl⟩ hP hD hK hS hA hB cW_84 rfl rfl hl.1 (Nat.le_of_ble_eq_true rfl) ⟨Nat.le_of_ble_eq_true rfl, Nat.le_of_ble_eq_true rfl⟩ dX3_perform_383 (fun σ52 H locs hok hz hP hD hS => ?_)
                                                      refine lv_goto (tgt := 403) hx hb dX3_perform_386 (by decide) ?_
                                                      exact yEndv S hr hlocks hP hD hS (Nat.le_of_ble_eq_true rfl) (Nat.le_of_ble_eq_true rfl) dX3_perform_403 hok
                                                    · have hok := hok.2 k_11_25
                                                      by_cases k_11_26 : a2 = 27
                                                      · have hok := hok.1 k_11_26
                                                        rw [k_11_26]
                                                        refine lv_tableIn (off := 378) (tgt := 389) hx hb dX3_perform_11 (by decide) (by decide) (by decide) (by decide) ?_
                                                        refine lv_aload_n hx hb dX3_perform_389 rfl (lv_at hl 1 rfl) ?_
                                                        refine yVi (As := []) (cw := (cW o u cI cZ cJ 83)) (ci := 3) S (v_X3_pop l D cI cZ cJ o u 83 ra ga σ _ H.size hok) mi_X3_pop kw_3_67 rfl rfl ⟨Nat.le_of_ble_eq_true rfl, Nat.le_of_ble_eq_true rfl⟩ hP hD hK hS hA hB cW_65 rfl rfl hl.1 (Nat.le_of_ble_eq_true rfl) ⟨Nat.le_of_ble_eq_true rfl, Nat.le_of_ble_eq_true rfl⟩ dX3_perform_390 (fun x54 σ53 H locs hok hz hP hD hS => ?_)
                                                        refine lv_pop hx hb dX3_perform_393 rfl ?_
                                                        refine lv_goto (tgt := 403) hx hb dX3_perform_394 (by decide) ?_
                                                        exact yEndv S hr hlocks hP hD hS (Nat.le_of_ble_eq_true rfl) (Nat.le_of_ble_eq_true rfl) dX3_perform_403 hok
                                                      · have hok := hok.2 k_11_26
                                                        have q_11_0 := sw_ni k_11_0 (z := 1) (by decide)
                                                        have q_11_1 := sw_ni k_11_1 (z := 2) (by decide)
                                                        have q_11_2 := sw_ni k_11_2 (z := 3) (by decide)
                                                        have q_11_3 := sw_ni k_11_3 (z := 4) (by decide)
                                                        have q_11_4 := sw_ni k_11_4 (z := 5) (by decide)
                                                        have q_11_5 := sw_ni k_11_5 (z := 6) (by decide)
                                                        have q_11_6 := sw_ni k_11_6 (z := 7) (by decide)
                                                        have q_11_7 := sw_ni k_11_7 (z := 8) (by decide)
                                                        have q_11_8 := sw_ni k_11_8 (z := 9) (by decide)
                                                        have q_11_9 := sw_ni k_11_9 (z := 10) (by decide)
                                                        have q_11_10 := sw_ni k_11_10 (z := 11) (by decide)
                                                        have q_11_11 := sw_ni k_11_11 (z := 12) (by decide)
                                                        have q_11_12 := sw_ni k_11_12 (z := 13) (by decide)
                                                        have q_11_13 := sw_ni k_11_13 (z := 14) (by decide)
                                                        have q_11_14 := sw_ni k_11_14 (z := 15) (by decide)
                                                        have q_11_15 := sw_ni k_11_15 (z := 16) (by decide)
                                                        have q_11_16 := sw_ni k_11_16 (z := 17) (by decide)
                                                        have q_11_17 := sw_ni k_11_17 (z := 18) (by decide)
                                                        have q_11_18 := sw_ni k_11_18 (z := 19) (by decide)
                                                        have q_11_19 := sw_ni k_11_19 (z := 20) (by decide)
                                                        have q_11_20 := sw_ni k_11_20 (z := 21) (by decide)
                                                        have q_11_21 := sw_ni k_11_21 (z := 22) (by decide)
                                                        have q_11_22 := sw_ni k_11_22 (z := 23) (by decide)
                                                        have q_11_23 := sw_ni k_11_23 (z := 24) (by decide)
                                                        have q_11_24 := sw_ni k_11_24 (z := 25) (by decide)
                                                        have q_11_25 := sw_ni k_11_25 (z := 26) (by decide)
                                                        have q_11_26 := sw_ni k_11_26 (z := 27) (by decide)
                                                        refine lv_tableOut (tgt := 397) hx hb dX3_perform_11 (by omega) (by decide) ?_
                                                        refine lv_aload_n hx hb dX3_perform_397 rfl (lv_at hl 1 rfl) ?_
                                                        refine lv_iload_n hx hb dX3_perform_398 rfl (lv_at hl 2 rfl) ?_
                                                        refine lv_iload_n hx hb dX3_perform_399 rfl (lv_at hl 3 rfl) ?_
                                                        refine yVv (As := [.int a1, .int a2]) (cw := (cW o u cI cZ cJ 83)) (ci := 3) S (v_X3_reckon_t84 l D cI cZ cJ o u ra ga σ a1 a2 _ H.size hok) mi_X3_reckon kw_3_125 rfl rfl ⟨Nat.le_of_ble_eq_true rfl, Nat.le_of_ble_eq_true rfl⟩ hP hD hK hS hA hB cW_65 rfl rfl hl.1 (Nat.le_of_ble_eq_true rfl) ⟨Nat.le_of_ble_eq_true rfl, Nat.le_of_ble_eq_true rfl⟩ dX3_perform_400 (fun σ55 H locs hok hz hP hD hS => ?_)
                                                        exact yEndv S hr hlocks hP hD hS (Nat.le_of_ble_eq_true rfl) (Nat.le_of_ble_eq_true rfl) dX3_perform_403 hok
