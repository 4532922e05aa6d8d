section XQ
variable {p : Program} {l : Launch} {e : Env} {R : Room} {s : State} {m : MethodId} {args : Array Value} {below : List Frame} {meth : Method} {c : Code} {H H0 : Heap} {locs : List Loc} {cells slots : Nat} {Q : State → Prop}
variable {cc b : ByteArray} {pc nL n idx mc ms : Nat} {ls : Array Slot} {As rest : List Value} {own : String} {y : MethodName} {r : Option FieldType} {rm : Room} {D : va_G} {tys : List (ClassId × FieldType)} {ws ws' mid mid' : va_W} {A : Nat → Prop} {ra ga : Nat → Nat} {hh : List (Nat × Nat × Nat × Nat)}

theorem ap_l {a b : va_W} {i : Nat} {x : Nat × va_E} (h : a[i]? = some x) : (a ++ b)[i]? = some x := by rw [List.getElem?_append_left (List.getElem?_eq_some_iff.mp h).1]; exact h
theorem ap_r {a b : va_W} {i : Nat} {x : Nat × va_E} (h : b[i]? = some x) : (a ++ b)[a.length + i]? = some x := by rw [List.getElem?_append_right (Nat.le_add_right _ _), Nat.add_sub_cancel_left]; exact h
theorem ap_c {a b : va_W} {i : Nat} {x : Nat × va_E} (h : (a ++ b)[i]? = some x) : a[i]? = some x ∨ ∃ j : Nat, b[j]? = some x := by
  by_cases q : i < a.length
  · rw [List.getElem?_append_left q] at h; exact Or.inl h
  · rw [List.getElem?_append_right (Nat.not_lt.mp q)] at h; exact Or.inr ⟨_, h⟩
theorem va_Pr {cl : List vw_C} {a b : va_W} {H : Heap} (h : va_P D cl (a ++ b) H) : va_P D cl b H := fun k q hk => h _ q (ap_r hk)
theorem va_Dr {a b : va_W} (h : va_D A (a ++ b)) : va_D A b := ⟨fun i j p q hp hq e => Nat.add_left_cancel (h.1 _ _ p q (ap_r hp) (ap_r hq) e), fun k q hk => h.2 _ q (ap_r hk)⟩
theorem va_Dx {a b : va_W} (h : va_D A (a ++ b)) {i j : Nat} {x y : Nat × va_E} (hx : a[i]? = some x) (hy : b[j]? = some y) (e : x.1 = y.1) : False := by
  have h1 := h.1 i (a.length + j) x y (ap_l hx) (ap_r hy) e
  have h2 := (List.getElem?_eq_some_iff.mp hx).1
  omega
theorem swapP {cl : List vw_C} {a b : va_W} {H : Heap} (h : va_P D cl (a ++ b) H) : va_P D cl (b ++ a) H := va_P.app (va_Pr h) (va_Pl h)
theorem swapD {a b : va_W} (h : va_D A (a ++ b)) : va_D A (b ++ a) := va_D.app (va_Dr h) (va_Dl h) (fun i j x y hx hy e => va_Dx h hy hx e.symm)
theorem joinM {A0 : Nat → Prop} {cl : List vw_C} {pre post w1 : va_W} {H H1 : Heap} (hP : va_P D cl (pre ++ (mid ++ post)) H) (hD : va_D A0 (pre ++ (mid ++ post))) (hk : ∀ a : Nat, a < H.size → ¬ va_A mid H.size a → H1[a]? = H[a]?) (hF : ∀ a, va_A mid H.size a → A0 a) (hP1 : va_P D cl w1 H1) (hD1 : va_D (va_A mid H.size) w1) : va_P D cl (pre ++ (w1 ++ post)) H1 ∧ va_D A0 (pre ++ (w1 ++ post)) := by
  have oPre : ∀ (i : Nat) (x : Nat × va_E), pre[i]? = some x → ¬ va_A mid H.size x.1 := by
    intro i x hx h
    rcases h with ⟨k, e, h⟩ | h
    · exact va_Dx hD hx (ap_l (b := post) h) rfl
    · exact absurd (hP _ x (ap_l hx)).lt (Nat.not_lt.mpr h)
  have oPost : ∀ (i : Nat) (x : Nat × va_E), post[i]? = some x → ¬ va_A mid H.size x.1 := by
    intro i x hx h
    rcases h with ⟨k, e, h⟩ | h
    · exact va_Dx (va_Dr hD) h hx rfl
    · exact absurd (hP _ x (ap_r (ap_r hx))).lt (Nat.not_lt.mpr h)
  have pPre : va_P D cl pre H1 := fun k q hq => (hP _ q (ap_l hq)).kept (hk q.1 (hP _ q (ap_l hq)).lt (oPre k q hq))
  have pPost : va_P D cl post H1 := fun k q hq => (hP _ q (ap_r (ap_r hq))).kept (hk q.1 (hP _ q (ap_r (ap_r hq))).lt (oPost k q hq))
  refine ⟨va_P.app pPre (va_P.app hP1 pPost), va_D.app (va_Dl hD) (va_D.app (hD1.weaken (fun _ x _ h => hF x.1 h)) (va_Dr (va_Dr hD)) (fun i j x y hx hy e => ?_)) (fun i j x y hx hy e => ?_)⟩
  · exact oPost j y hy (e ▸ hD1.2 i x hx)
  · rcases ap_c hy with hy | ⟨j2, hy⟩
    · exact oPre i x hx (e ▸ hD1.2 j y hy)
    · exact va_Dx hD hx (ap_r (a := mid) hy) e
theorem wFreeM {pre post : va_W} (hD : va_D A (pre ++ (mid ++ post))) (hS : va_S A H0 H locs) (hA : ∀ q, H0.size ≤ q → A q) : ∀ q, va_A mid H.size q → A q := by
  intro q h
  rcases h with ⟨k, e, h⟩ | h
  · exact hD.2 _ (q, e) (ap_r (ap_l h))
  · exact hA q (Nat.le_trans hS.1 h)
theorem fVi (pre post : va_W) {v : Int32} {q k ci : Nat} {fs : List Value} {qc : vw_C} (S : CallFix p m c cc nL s args uG own) (hM : Met l y (uW y b n r) rm (va_Pc (.ref q :: As) (wS D tys mid H.size)) (wQi v D mid' (va_A mid H.size)) mc ms (va_A mid H.size)) (hI : mI y b n r As.length) (hL : Cond.methodLink own idx y ∈ uG) (hz1 : rm.cells = mc) (hz2 : rm.slots = ms) (hR : rm.frames + 1 ≤ R.frames ∧ 8 + (n + 11) + rm.locals ≤ R.locals) (hP : va_P D vwCl (pre ++ (mid ++ post)) H) (hD : va_D A (pre ++ (mid ++ post))) (hK : va_K D vwCl tys s) (hS : va_S A H0 H locs) (hA : ∀ q, (H0).size ≤ q → A q) (he : mid[k]? = some (q, .inr (ci, fs))) (hc : vwCl[ci]? = some qc) (hcl : qc.1 = y.cls) (hls : ls.size = nL) (hst : (rest.map fun v => v.category).sum ≤ 8) (hf : cells + mc ≤ R.cells ∧ slots + ms ≤ R.slots) (hdg : decode cc pc = .ok (.invokevirtual idx, 3)) (kk : ∀ (H1 : Heap) (locs1 : List Loc), H.size ≤ H1.size → va_P D vwCl (pre ++ (mid' ++ post)) H1 → va_D A (pre ++ (mid' ++ post)) → va_S A H0 H1 locs1 → W p l e R s m args below meth c H1 locs1 (cells + mc) (slots + ms) Q (F0 m (pc + 3) ls (.int v :: rest))) : W p l e R s m args below meth c H locs cells slots Q (F0 m pc ls (As.reverse ++ .ref q :: rest)) := by
  obtain ⟨i1, i2, i3, i4, i5, i6, i7⟩ := hI
  have hF := wFreeM hD hS hA
  have hPm := va_Pl (va_Pr hP)
  have h9 := va_recv hK hPm hc he
  rw [hcl] at h9
  refine va_calli (va_runV S hM (cwV As.length S.2.2.2.2 (gd_V hL i1 i2 i3 i4) rfl hz1 hz2 ⟨rfl, i5, i6, i7⟩ hR) ⟨wS_blind, h9, fun U hU hW => ⟨rfl, ⟨by rw [hU], by rw [hU]; exact hPm, va_K.moved hW.alike hK, (va_Dl (va_Dr hD)).weaken (fun _ _ _ _ => trivial)⟩⟩⟩ rfl rfl hls rfl (lv_room hst) hdg hf) hS (fun q _ h => hF q h) hF (fun r9 u t H1 locs1 ht hvm hw hX hz3 hk1 hS1 => ?_)
  subst hw
  rw [ht] at hX
  obtain ⟨g1, g2⟩ := joinM hP hD hk1 hF hX.1 hX.2
  exact kk H1 locs1 hz3 g1 g2 hS1
theorem faVi (pre post : va_W) {v : Int32} {q k ci : Nat} {fs : List Value} {qc : vw_C} (S : CallFix p m c cc nL s args uG own) (hM : Met l y (uW y b n r) rm (va_Pc (.ref q :: As) (aS ra ga D tys mid H.size)) (wQi v D mid' (va_A mid H.size)) mc ms (va_A mid H.size)) (hI : mI y b n r As.length) (hL : Cond.methodLink own idx y ∈ uG) (hz1 : rm.cells = mc) (hz2 : rm.slots = ms) (hR : rm.frames + 1 ≤ R.frames ∧ 8 + (n + 11) + rm.locals ≤ R.locals) (hP : va_P D vwCl (pre ++ (mid ++ post)) H) (hD : va_D A (pre ++ (mid ++ post))) (hK : va_K D vwCl tys s) (hS : va_S A s.heap H locs) (hA : ∀ q, (s.heap).size ≤ q → A q) (hB : amb ra ga A s s.heap) (he : mid[k]? = some (q, .inr (ci, fs))) (hc : vwCl[ci]? = some qc) (hcl : qc.1 = y.cls) (hls : ls.size = nL) (hst : (rest.map fun v => v.category).sum ≤ 8) (hf : cells + mc ≤ R.cells ∧ slots + ms ≤ R.slots) (hdg : decode cc pc = .ok (.invokevirtual idx, 3)) (kk : ∀ (H1 : Heap) (locs1 : List Loc), H.size ≤ H1.size → va_P D vwCl (pre ++ (mid' ++ post)) H1 → va_D A (pre ++ (mid' ++ post)) → va_S A s.heap H1 locs1 → W p l e R s m args below meth c H1 locs1 (cells + mc) (slots + ms) Q (F0 m (pc + 3) ls (.int v :: rest))) : W p l e R s m args below meth c H locs cells slots Q (F0 m pc ls (As.reverse ++ .ref q :: rest)) := by
  obtain ⟨i1, i2, i3, i4, i5, i6, i7⟩ := hI
  have hF := wFreeM hD hS hA
  have hPm := va_Pl (va_Pr hP)
  have h9 := va_recv hK hPm hc he
  rw [hcl] at h9
  refine va_calli (va_runV S hM (cwV As.length S.2.2.2.2 (gd_V hL i1 i2 i3 i4) rfl hz1 hz2 ⟨rfl, i5, i6, i7⟩ hR) ⟨aS_blind, h9, fun U hU hW => ⟨rfl, ⟨⟨by rw [hU], by rw [hU]; exact hPm, va_K.moved hW.alike hK, (va_Dl (va_Dr hD)).weaken (fun _ _ _ _ => trivial)⟩, by rw [hU]; exact hB.move hW hS.2.1 hF⟩⟩⟩ rfl rfl hls rfl (lv_room hst) hdg hf) hS (fun q _ h => hF q h) hF (fun r9 u t H1 locs1 ht hvm hw hX hz3 hk1 hS1 => ?_)
  subst hw
  rw [ht] at hX
  obtain ⟨g1, g2⟩ := joinM hP hD hk1 hF hX.1 hX.2
  exact kk H1 locs1 hz3 g1 g2 hS1
theorem fVl (pre post : va_W) {v : Int64} {q k ci : Nat} {fs : List Value} {qc : vw_C} (S : CallFix p m c cc nL s args uG own) (hM : Met l y (uW y b n r) rm (va_Pc (.ref q :: As) (wS D tys mid H.size)) (wQl v D mid' (va_A mid H.size)) mc ms (va_A mid H.size)) (hI : mI y b n r As.length) (hL : Cond.methodLink own idx y ∈ uG) (hz1 : rm.cells = mc) (hz2 : rm.slots = ms) (hR : rm.frames + 1 ≤ R.frames ∧ 8 + (n + 11) + rm.locals ≤ R.locals) (hP : va_P D vwCl (pre ++ (mid ++ post)) H) (hD : va_D A (pre ++ (mid ++ post))) (hK : va_K D vwCl tys s) (hS : va_S A H0 H locs) (hA : ∀ q, (H0).size ≤ q → A q) (he : mid[k]? = some (q, .inr (ci, fs))) (hc : vwCl[ci]? = some qc) (hcl : qc.1 = y.cls) (hls : ls.size = nL) (hst : (rest.map fun v => v.category).sum ≤ 8) (hf : cells + mc ≤ R.cells ∧ slots + ms ≤ R.slots) (hdg : decode cc pc = .ok (.invokevirtual idx, 3)) (kk : ∀ (H1 : Heap) (locs1 : List Loc), H.size ≤ H1.size → va_P D vwCl (pre ++ (mid' ++ post)) H1 → va_D A (pre ++ (mid' ++ post)) → va_S A H0 H1 locs1 → W p l e R s m args below meth c H1 locs1 (cells + mc) (slots + ms) Q (F0 m (pc + 3) ls (.long v :: rest))) : W p l e R s m args below meth c H locs cells slots Q (F0 m pc ls (As.reverse ++ .ref q :: rest)) := by
  obtain ⟨i1, i2, i3, i4, i5, i6, i7⟩ := hI
  have hF := wFreeM hD hS hA
  have hPm := va_Pl (va_Pr hP)
  have h9 := va_recv hK hPm hc he
  rw [hcl] at h9
  refine va_calll (va_runV S hM (cwV As.length S.2.2.2.2 (gd_V hL i1 i2 i3 i4) rfl hz1 hz2 ⟨rfl, i5, i6, i7⟩ hR) ⟨wS_blind, h9, fun U hU hW => ⟨rfl, ⟨by rw [hU], by rw [hU]; exact hPm, va_K.moved hW.alike hK, (va_Dl (va_Dr hD)).weaken (fun _ _ _ _ => trivial)⟩⟩⟩ rfl rfl hls rfl (lv_room hst) hdg hf) hS (fun q _ h => hF q h) hF (fun r9 u t H1 locs1 ht hvm hw hX hz3 hk1 hS1 => ?_)
  subst hw
  rw [ht] at hX
  obtain ⟨g1, g2⟩ := joinM hP hD hk1 hF hX.1 hX.2
  exact kk H1 locs1 hz3 g1 g2 hS1
theorem faVl (pre post : va_W) {v : Int64} {q k ci : Nat} {fs : List Value} {qc : vw_C} (S : CallFix p m c cc nL s args uG own) (hM : Met l y (uW y b n r) rm (va_Pc (.ref q :: As) (aS ra ga D tys mid H.size)) (wQl v D mid' (va_A mid H.size)) mc ms (va_A mid H.size)) (hI : mI y b n r As.length) (hL : Cond.methodLink own idx y ∈ uG) (hz1 : rm.cells = mc) (hz2 : rm.slots = ms) (hR : rm.frames + 1 ≤ R.frames ∧ 8 + (n + 11) + rm.locals ≤ R.locals) (hP : va_P D vwCl (pre ++ (mid ++ post)) H) (hD : va_D A (pre ++ (mid ++ post))) (hK : va_K D vwCl tys s) (hS : va_S A s.heap H locs) (hA : ∀ q, (s.heap).size ≤ q → A q) (hB : amb ra ga A s s.heap) (he : mid[k]? = some (q, .inr (ci, fs))) (hc : vwCl[ci]? = some qc) (hcl : qc.1 = y.cls) (hls : ls.size = nL) (hst : (rest.map fun v => v.category).sum ≤ 8) (hf : cells + mc ≤ R.cells ∧ slots + ms ≤ R.slots) (hdg : decode cc pc = .ok (.invokevirtual idx, 3)) (kk : ∀ (H1 : Heap) (locs1 : List Loc), H.size ≤ H1.size → va_P D vwCl (pre ++ (mid' ++ post)) H1 → va_D A (pre ++ (mid' ++ post)) → va_S A s.heap H1 locs1 → W p l e R s m args below meth c H1 locs1 (cells + mc) (slots + ms) Q (F0 m (pc + 3) ls (.long v :: rest))) : W p l e R s m args below meth c H locs cells slots Q (F0 m pc ls (As.reverse ++ .ref q :: rest)) := by
  obtain ⟨i1, i2, i3, i4, i5, i6, i7⟩ := hI
  have hF := wFreeM hD hS hA
  have hPm := va_Pl (va_Pr hP)
  have h9 := va_recv hK hPm hc he
  rw [hcl] at h9
  refine va_calll (va_runV S hM (cwV As.length S.2.2.2.2 (gd_V hL i1 i2 i3 i4) rfl hz1 hz2 ⟨rfl, i5, i6, i7⟩ hR) ⟨aS_blind, h9, fun U hU hW => ⟨rfl, ⟨⟨by rw [hU], by rw [hU]; exact hPm, va_K.moved hW.alike hK, (va_Dl (va_Dr hD)).weaken (fun _ _ _ _ => trivial)⟩, by rw [hU]; exact hB.move hW hS.2.1 hF⟩⟩⟩ rfl rfl hls rfl (lv_room hst) hdg hf) hS (fun q _ h => hF q h) hF (fun r9 u t H1 locs1 ht hvm hw hX hz3 hk1 hS1 => ?_)
  subst hw
  rw [ht] at hX
  obtain ⟨g1, g2⟩ := joinM hP hD hk1 hF hX.1 hX.2
  exact kk H1 locs1 hz3 g1 g2 hS1
theorem fVd (pre post : va_W) {v : UInt64} {q k ci : Nat} {fs : List Value} {qc : vw_C} (S : CallFix p m c cc nL s args uG own) (hM : Met l y (uW y b n r) rm (va_Pc (.ref q :: As) (wS D tys mid H.size)) (wQd v D mid' (va_A mid H.size)) mc ms (va_A mid H.size)) (hI : mI y b n r As.length) (hL : Cond.methodLink own idx y ∈ uG) (hz1 : rm.cells = mc) (hz2 : rm.slots = ms) (hR : rm.frames + 1 ≤ R.frames ∧ 8 + (n + 11) + rm.locals ≤ R.locals) (hP : va_P D vwCl (pre ++ (mid ++ post)) H) (hD : va_D A (pre ++ (mid ++ post))) (hK : va_K D vwCl tys s) (hS : va_S A H0 H locs) (hA : ∀ q, (H0).size ≤ q → A q) (he : mid[k]? = some (q, .inr (ci, fs))) (hc : vwCl[ci]? = some qc) (hcl : qc.1 = y.cls) (hls : ls.size = nL) (hst : (rest.map fun v => v.category).sum ≤ 8) (hf : cells + mc ≤ R.cells ∧ slots + ms ≤ R.slots) (hdg : decode cc pc = .ok (.invokevirtual idx, 3)) (kk : ∀ (H1 : Heap) (locs1 : List Loc), H.size ≤ H1.size → va_P D vwCl (pre ++ (mid' ++ post)) H1 → va_D A (pre ++ (mid' ++ post)) → va_S A H0 H1 locs1 → W p l e R s m args below meth c H1 locs1 (cells + mc) (slots + ms) Q (F0 m (pc + 3) ls (.double v :: rest))) : W p l e R s m args below meth c H locs cells slots Q (F0 m pc ls (As.reverse ++ .ref q :: rest)) := by
  obtain ⟨i1, i2, i3, i4, i5, i6, i7⟩ := hI
  have hF := wFreeM hD hS hA
  have hPm := va_Pl (va_Pr hP)
  have h9 := va_recv hK hPm hc he
  rw [hcl] at h9
  refine va_calld (va_runV S hM (cwV As.length S.2.2.2.2 (gd_V hL i1 i2 i3 i4) rfl hz1 hz2 ⟨rfl, i5, i6, i7⟩ hR) ⟨wS_blind, h9, fun U hU hW => ⟨rfl, ⟨by rw [hU], by rw [hU]; exact hPm, va_K.moved hW.alike hK, (va_Dl (va_Dr hD)).weaken (fun _ _ _ _ => trivial)⟩⟩⟩ rfl rfl hls rfl (lv_room hst) hdg hf) hS (fun q _ h => hF q h) hF (fun r9 u t H1 locs1 ht hvm hw hX hz3 hk1 hS1 => ?_)
  subst hw
  rw [ht] at hX
  obtain ⟨g1, g2⟩ := joinM hP hD hk1 hF hX.1 hX.2
  exact kk H1 locs1 hz3 g1 g2 hS1
theorem faVd (pre post : va_W) {v : UInt64} {q k ci : Nat} {fs : List Value} {qc : vw_C} (S : CallFix p m c cc nL s args uG own) (hM : Met l y (uW y b n r) rm (va_Pc (.ref q :: As) (aS ra ga D tys mid H.size)) (wQd v D mid' (va_A mid H.size)) mc ms (va_A mid H.size)) (hI : mI y b n r As.length) (hL : Cond.methodLink own idx y ∈ uG) (hz1 : rm.cells = mc) (hz2 : rm.slots = ms) (hR : rm.frames + 1 ≤ R.frames ∧ 8 + (n + 11) + rm.locals ≤ R.locals) (hP : va_P D vwCl (pre ++ (mid ++ post)) H) (hD : va_D A (pre ++ (mid ++ post))) (hK : va_K D vwCl tys s) (hS : va_S A s.heap H locs) (hA : ∀ q, (s.heap).size ≤ q → A q) (hB : amb ra ga A s s.heap) (he : mid[k]? = some (q, .inr (ci, fs))) (hc : vwCl[ci]? = some qc) (hcl : qc.1 = y.cls) (hls : ls.size = nL) (hst : (rest.map fun v => v.category).sum ≤ 8) (hf : cells + mc ≤ R.cells ∧ slots + ms ≤ R.slots) (hdg : decode cc pc = .ok (.invokevirtual idx, 3)) (kk : ∀ (H1 : Heap) (locs1 : List Loc), H.size ≤ H1.size → va_P D vwCl (pre ++ (mid' ++ post)) H1 → va_D A (pre ++ (mid' ++ post)) → va_S A s.heap H1 locs1 → W p l e R s m args below meth c H1 locs1 (cells + mc) (slots + ms) Q (F0 m (pc + 3) ls (.double v :: rest))) : W p l e R s m args below meth c H locs cells slots Q (F0 m pc ls (As.reverse ++ .ref q :: rest)) := by
  obtain ⟨i1, i2, i3, i4, i5, i6, i7⟩ := hI
  have hF := wFreeM hD hS hA
  have hPm := va_Pl (va_Pr hP)
  have h9 := va_recv hK hPm hc he
  rw [hcl] at h9
  refine va_calld (va_runV S hM (cwV As.length S.2.2.2.2 (gd_V hL i1 i2 i3 i4) rfl hz1 hz2 ⟨rfl, i5, i6, i7⟩ hR) ⟨aS_blind, h9, fun U hU hW => ⟨rfl, ⟨⟨by rw [hU], by rw [hU]; exact hPm, va_K.moved hW.alike hK, (va_Dl (va_Dr hD)).weaken (fun _ _ _ _ => trivial)⟩, by rw [hU]; exact hB.move hW hS.2.1 hF⟩⟩⟩ rfl rfl hls rfl (lv_room hst) hdg hf) hS (fun q _ h => hF q h) hF (fun r9 u t H1 locs1 ht hvm hw hX hz3 hk1 hS1 => ?_)
  subst hw
  rw [ht] at hX
  obtain ⟨g1, g2⟩ := joinM hP hD hk1 hF hX.1 hX.2
  exact kk H1 locs1 hz3 g1 g2 hS1
/-- a framed call that throws: what comes then -/
theorem cVi (pre post : va_W) {E : String} {q k ci : Nat} {fs : List Value} {qc : vw_C} (S : CallFix p m c cc nL s args uG own) (hM : vx_Met l y (uW y b n r) rm (va_Pc (.ref q :: As) (aS ra ga D tys mid H.size)) (nQi (va_A mid H.size)) (wX E D mid' (va_A mid H.size)) mc ms (va_A mid H.size)) (hI : mI y b n r As.length) (hL : Cond.methodLink own idx y ∈ uG) (hz1 : rm.cells = mc) (hz2 : rm.slots = ms) (hR : rm.frames + 1 ≤ R.frames ∧ 8 + (n + 11) + rm.locals ≤ R.locals) (hP : va_P D vwCl (pre ++ (mid ++ post)) H) (hD : va_D A (pre ++ (mid ++ post))) (hK : va_K D vwCl tys s) (hS : va_S A s.heap H locs) (hA : ∀ q, s.heap.size ≤ q → A q) (hB : amb ra ga A s s.heap) (he : mid[k]? = some (q, .inr (ci, fs))) (hc : vwCl[ci]? = some qc) (hcl : qc.1 = y.cls) (hls : ls.size = nL) (hst : (rest.map fun v => v.category).sum ≤ 8) (hf : cells + mc ≤ R.cells ∧ slots + ms ≤ R.slots) (hdg : decode cc pc = .ok (.invokevirtual idx, 3)) (kx : ∀ (ce : Cell) (q9 : Addr) (H1 : Heap) (locs1 : List Loc), H.size ≤ H1.size → va_P D vwCl (pre ++ (mid' ++ post)) H1 → va_D A (pre ++ (mid' ++ post)) → va_S A s.heap H1 locs1 → H1[q9]? = some ce → ce.vm = .none → s.vm.findClass E = some ce.cls → vx_W p l e R s m args below meth c H1 locs1 (cells + mc) (slots + ms) Q (F0 m pc ls rest) q9) : W p l e R s m args below meth c H locs cells slots Q (F0 m pc ls (As.reverse ++ .ref q :: rest)) := by
  obtain ⟨i1, i2, i3, i4, i5, i6, i7⟩ := hI
  have hF := wFreeM hD hS hA
  have hPm := va_Pl (va_Pr hP)
  have h9 := va_recv hK hPm hc he
  rw [hcl] at h9
  refine vx_calli (vx_runV S hM (cwV As.length S.2.2.2.2 (gd_V hL i1 i2 i3 i4) rfl hz1 hz2 ⟨rfl, i5, i6, i7⟩ hR) ⟨aS_blind, h9, fun U hU hW => ⟨rfl, ⟨⟨by rw [hU], by rw [hU]; exact hPm, va_K.moved hW.alike hK, (va_Dl (va_Dr hD)).weaken (fun _ _ _ _ => trivial)⟩, by rw [hU]; exact hB.move hW hS.2.1 hF⟩⟩⟩ rfl rfl hls rfl (lv_room hst) hdg hf) hS (fun q _ h => hF q h) hF (fun q _ h => hF q h) (fun E1 ce q9 u t H1 locs1 ht hvm _ hX hz3 hk1 hS1 hce hcv hcl9 => ?_) (fun r9 u t H1 locs1 ht hvm hw _ _ _ _ => hw.elim)
  rw [ht] at hX
  obtain ⟨rfl, hP1, hD1⟩ := hX
  obtain ⟨g1, g2⟩ := joinM hP hD hk1 hF hP1 hD1
  exact kx ce q9 H1 locs1 hz3 g1 g2 hS1 hce hcv hcl9
/-- .. and what the law's handlers need of the classes of exceptions -/
def ambC (U : State) : Prop := va_Nc "java/lang/IllegalArgumentException" "java/lang/IndexOutOfBoundsException" U ∧ va_Nc "java/lang/IllegalStateException" "java/lang/IndexOutOfBoundsException" U ∧ va_Nc "java/lang/IllegalStateException" "java/lang/IllegalArgumentException" U
theorem ambC.moved {u U : State} (hvm : u.vm.Alike U.vm) (h : ambC u) : ambC U := ⟨h.1.moved hvm, h.2.1.moved hvm, h.2.2.moved hvm⟩
abbrev lS (ra ga : Nat → Nat) (D : va_G) (tys : List (ClassId × FieldType)) (ws : va_W) (sz : Nat) : State → Prop := fun U => aS ra ga D tys ws sz U ∧ ambC U
theorem lS_blind {av : List Value} {sz : Nat} : FrameBlind (va_Pc av (lS ra ga D tys ws sz)) := fun a U g mk q => ⟨(aS_blind a U g mk ⟨q.1, q.2.1⟩).1, (aS_blind a U g mk ⟨q.1, q.2.1⟩).2, ambC.moved (u := U) (U := U.calling g mk a) (Vm.Alike.refl U.vm) q.2.2⟩
abbrev xN (A : Nat → Prop) : String → State → State → Prop := vx_X (fun (_ : Unit) => False) (fun _ _ _ => True) A
abbrev uWh (y : MethodName) (b : ByteArray) (n : Nat) (r : Option FieldType) (hh : List (Nat × Nat × Nat × Nat)) : List Cond := Cond.codeWith y b n r hh :: uG
def mSh (y : MethodName) (b : ByteArray) (n : Nat) (r : Option FieldType) (hh : List (Nat × Nat × Nat × Nat)) (np : Nat) : Prop := Cond.static y ∈ uG ∧ Cond.initialized y.cls ∈ uG ∧ Cond.codeWith y b n r hh ∈ uG ∧ y.cls ≠ "java/lang/invoke/MethodHandle" ∧ y.cls ≠ "java/lang/invoke/VarHandle" ∧ (parseMethodDescriptor y.desc).map (fun d => d.parameters.length) = some np
theorem gd_Sh (h1 : Cond.methodLink own idx y ∈ uG) (h2 : Cond.static y ∈ uG) (h4 : Cond.initialized y.cls ∈ uG) (h5 : Cond.codeWith y b n r hh ∈ uG) : GoodIn uG (va_wsS own idx y (uWh y b n r hh)) := by
  intro w hw
  rcases List.mem_append.mp hw with h | h
  · rcases List.mem_cons.mp h with h | h
    · rw [h]; exact ⟨h1, uG_good h1⟩
    · rcases List.mem_cons.mp h with h | h
      · rw [h]; exact ⟨h2, uG_good h2⟩
      · rcases List.mem_cons.mp h with h | h
        · rw [h]; exact ⟨h4, uG_good h4⟩
        · cases h
  · rcases List.mem_cons.mp h with h | h
    · rw [h]; exact ⟨h5, uG_good h5⟩
    · exact ⟨h, uG_good h⟩
theorem hStart {av : List Value} {lv : List (Nat × Value)} {sz : Nat} {Qc : (Nat → Prop) → Array Value → State → Outcome → State → Prop} (hy : plainName y.cls = true) (hn : (lg_sl av).length ≤ n) (hlv : lv_args 0 av = lv)
    (body : ∀ (p : Program) (e : Env) (s : State) (m : MethodId) (args : Array Value) (below : List Frame) (meth : Method) (c : Code) (ls : Array Slot) (A : Nat → Prop) (H : Heap), CallFix p m c b n s args uG y.cls → meth.sig.returnType = r → meth.locks = false → c.exceptionTable.toList = tableOf hh → lv_has ls n lv → va_K D vwCl tys s → va_P D vwCl ws H → va_D A ws → va_S A s.heap H [] → (∀ q, s.heap.size ≤ q → A q) → amb ra ga A s s.heap → ambC s → W p l e rm s m args below meth c H [] 0 0 (vx_MQ below (Qc A) (xN A) args s mc ms A) (F0 m 0 ls [])) : vx_Met l y (uWh y b n r hh) rm (va_Pc av (lS ra ga D tys ws sz)) (Qc (va_A ws sz)) (xN (va_A ws sz)) mc ms (va_A ws sz) := by
  refine vx_ofWH (cc := b) (maxL := n) (ret := r) (hh := hh) hy rfl ?_
  intro p e s m args below meth c s₁ B hml hv
  obtain ⟨rfl, ⟨⟨hsz, hP, hK, hD0⟩, hB⟩, hC⟩ := hv
  have hts := atoms_spec (ws := uWh y b n r hh) B.pre
  have htab := vx_table (x := y) B (hts _ List.mem_cons_self)
  subst hsz
  have hl := lv_entry av (n := n) hn
  rw [lg_entry_eq]
  generalize (lg_sl av ++ List.replicate (n - (lg_sl av).length) Slot.unset).toArray = ls at hl ⊢
  rw [hlv] at hl
  exact body p e s m av.toArray below meth c ls (va_A ws s.heap.size) s.heap ⟨B.exec, B.bytes, hml, findClass_of_methodNamed B.named, fun w h => hts w (List.mem_cons_of_mem _ h)⟩ B.returns B.notSynchronized htab hl hK hP hD0.self va_S.rf (fun q h => Or.inr h) hB hC
/-- the law calls a wrapper: it always returns -/
theorem wrap (pre : va_W) {v : Int32} (S : CallFix p m c cc nL s args uG own) (hM : vx_Met l y (uWh y b n r hh) rm (va_Pc As (lS ra ga D tys mid H.size)) (wQi v D mid' (va_A mid H.size)) (xN (va_A mid H.size)) mc ms (va_A mid H.size)) (hI : mSh y b n r hh As.length) (hL : Cond.methodLink own idx y ∈ uG) (hz1 : rm.cells = mc) (hz2 : rm.slots = ms) (hR : rm.frames + 1 ≤ R.frames ∧ 8 + (n + 11) + rm.locals ≤ R.locals) (hP : va_P D vwCl (pre ++ mid) H) (hD : va_D A (pre ++ mid)) (hK : va_K D vwCl tys s) (hS : va_S A s.heap H locs) (hA : ∀ q, s.heap.size ≤ q → A q) (hB : amb ra ga A s s.heap) (hC : ambC s) (hls : ls.size = nL) (hst : (rest.map fun v => v.category).sum ≤ 8) (hf : cells + mc ≤ R.cells ∧ slots + ms ≤ R.slots) (hdg : decode cc pc = .ok (.invokestatic idx, 3)) (kk : ∀ (H1 : Heap) (locs1 : List Loc), H.size ≤ H1.size → va_P D vwCl (pre ++ mid') H1 → va_D A (pre ++ mid') → va_S A s.heap H1 locs1 → W p l e R s m args below meth c H1 locs1 (cells + mc) (slots + ms) Q (F0 m (pc + 3) ls (.int v :: rest))) : W p l e R s m args below meth c H locs cells slots Q (F0 m pc ls (As.reverse ++ rest)) := by
  obtain ⟨i1, i3, i4, i5, i6, i7⟩ := hI
  rw [← List.append_nil mid] at hP hD
  have hF := wFreeM hD hS hA
  have hPm := va_Pl (va_Pr hP)
  refine vx_calli (vx_runSX S hM (vx_cwSW As.length S.2.2.2.2 (gd_Sh hL i1 i3 i4) rfl hz1 hz2 ⟨i5, i6, i7⟩ hR) ⟨lS_blind, fun U hU hW => ⟨rfl, ⟨⟨⟨by rw [hU], by rw [hU]; exact hPm, va_K.moved hW.alike hK, (va_Dl (va_Dr hD)).weaken (fun _ _ _ _ => trivial)⟩, by rw [hU]; exact hB.move hW hS.2.1 hF⟩, hC.moved hW.alike⟩⟩⟩ rfl rfl hls rfl (lv_room hst) hdg hf) hS (fun q _ h => hF q h) hF (fun q _ h => hF q h) (fun E1 ce q9 u t H1 locs1 ht hvm hw _ _ _ _ _ _ _ => hw.elim) (fun r9 u t H1 locs1 ht hvm hw hX hz3 hk1 hS1 => ?_)
  subst hw
  rw [ht] at hX
  obtain ⟨g1, g2⟩ := joinM hP hD hk1 hF hX.1 hX.2
  rw [List.append_nil] at g1 g2
  exact kk H1 locs1 hz3 g1 g2 hS1
theorem xlald {q0 t0 a : Nat} {cA : ClassId} {k : Nat} {f : Nat → Int64} {i : Int32} {v : Int64} (S : CallFix p m c cc nL s args uG own) (hK : va_K D vwCl tys s) (hP : va_P D vwCl ws H) (ha : ws[q0]? = some (a, .inl (cA, k, .inr (.inl f)))) (ht : tys[t0]? = some (cA, .long)) (hin : vp_in i k) (hv : f i.toNatClampNeg = v) (hdg : decode cc pc = .ok (.laload, 1)) (kk : W p l e R s m args below meth c H locs cells slots Q (F0 m (pc + 1) ls (.long v :: rest))) : W p l e R s m args below meth c H locs cells slots Q (F0 m pc ls (.int i :: .ref a :: rest)) := va_lald S.1 S.2.1 hK hP q0 t0 ha ht hin hdg (by rw [hv]; exact kk)
theorem xlast {q0 t0 a : Nat} {cA : ClassId} {k : Nat} {f : Nat → Int64} {i : Int32} {x : Int64} (S : CallFix p m c cc nL s args uG own) (hK : va_K D vwCl tys s) (hP : va_P D vwCl ws H) (hD : va_D A ws) (hS : va_S A H0 H locs) (ha : ws[q0]? = some (a, .inl (cA, k, .inr (.inl f)))) (ht : tys[t0]? = some (cA, .long)) (hin : vp_in i k) (hdg : decode cc pc = .ok (.lastore, 1)) (kk : ∀ (H1 : Heap) (locs1 : List Loc), va_P D vwCl (ws.set q0 (a, .inl (cA, k, .inr (.inl (vp_updL f i.toNatClampNeg x))))) H1 → va_D A (ws.set q0 (a, .inl (cA, k, .inr (.inl (vp_updL f i.toNatClampNeg x))))) → va_S A H0 H1 locs1 → W p l e R s m args below meth c H1 locs1 cells slots Q (F0 m (pc + 1) ls rest)) : W p l e R s m args below meth c H locs cells slots Q (F0 m pc ls (.long x :: .int i :: .ref a :: rest)) := va_last S.1 S.2.1 hK hP hD hS q0 t0 ha ht hin hdg kk
theorem xlcmp {x y : Int64} {v : Int32} (S : CallFix p m c cc nL s args uG own) (hdg : decode cc pc = .ok (.lcmp, 1)) (hv : lg_cmp x y = v) (k : W p l e R s m args below meth c H locs cells slots Q (F0 m (pc + 1) ls (.int v :: rest))) : W p l e R s m args below meth c H locs cells slots Q (F0 m pc ls (.long y :: .long x :: rest)) := W.lcmp S.1 S.2.1 hdg (by rw [hv]; exact k)
theorem xdcmp {x y : UInt64} {op : CmpOp} {v : Int32} (S : CallFix p m c cc nL s args uG own) (hdg : decode cc pc = .ok (.dcmp op, 1)) (hv : Op.cmpValue (FP.dcmp x y) op = v) (k : W p l e R s m args below meth c H locs cells slots Q (F0 m (pc + 1) ls (.int v :: rest))) : W p l e R s m args below meth c H locs cells slots Q (F0 m pc ls (.double y :: .double x :: rest)) := lv_dcmp S.1 S.2.1 hdg (by rw [hv]; exact k)
theorem xsld {b0 L : Nat} {xs : Nat → Int32} {i v : Int32} (S : CallFix p m c cc nL s args uG own) (hX : va_X b0 L xs s s.heap) (hbl : b0 < s.heap.size) (hbA : ¬ A b0) (hS : va_S A s.heap H locs) (hin : vp_in i L) (hv : xs i.toNatClampNeg = v) (hdg : decode cc pc = .ok (.iaload, 1)) (kk : W p l e R s m args below meth c H locs cells slots Q (F0 m (pc + 1) ls (.int v :: rest))) : W p l e R s m args below meth c H locs cells slots Q (F0 m pc ls (.int i :: .ref b0 :: rest)) := va_sld S.1 S.2.1 hX hbl hbA hS hin hdg (by rw [hv]; exact kk)
end XQ
