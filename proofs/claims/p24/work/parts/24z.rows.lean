section ZR
variable {p : Program} {l : Launch} {e : Env} {R : Room} {s : State} {m : MethodId} {args : Array Value} {below : List Frame} {meth : Method} {c : Code} {H H0 : Heap} {locs : List Loc} {cells slots : Nat} {Q : State → Prop}
variable {cc b : ByteArray} {pc nL n idx mc ms : Nat} {ls : Array Slot} {As rest : List Value} {own : String} {y : MethodName} {r : Option FieldType} {rm : Room} {D : va_G} {tys : List (ClassId × FieldType)} {ws ws' : va_W} {A : Nat → Prop} {ra : Nat → Nat} {ga : SG} {cw : FS → va_W} {τ0 : FS}
variable {mid mid' : va_W}
theorem ap_l {a b : va_W} {i : Nat} {x : Nat × va_E} (h : a[i]? = some x) : (a ++ b)[i]? = some x := by rw [List.getElem?_append_left (List.getElem?_eq_some_iff.mp h).1]; exact h
theorem ap_r {a b : va_W} {i : Nat} {x : Nat × va_E} (h : b[i]? = some x) : (a ++ b)[a.length + i]? = some x := by rw [List.getElem?_append_right (Nat.le_add_right _ _), Nat.add_sub_cancel_left]; exact h
theorem ap_c {a b : va_W} {i : Nat} {x : Nat × va_E} (h : (a ++ b)[i]? = some x) : a[i]? = some x ∨ ∃ j : Nat, b[j]? = some x := by
  by_cases q : i < a.length
  · rw [List.getElem?_append_left q] at h; exact Or.inl h
  · rw [List.getElem?_append_right (Nat.not_lt.mp q)] at h; exact Or.inr ⟨_, h⟩
theorem va_Pr {cl : List vw_C} {a b : va_W} {H : Heap} (h : va_P D cl (a ++ b) H) : va_P D cl b H := fun k q hk => h _ q (ap_r hk)
theorem va_Dr {a b : va_W} (h : va_D A (a ++ b)) : va_D A b := ⟨fun i j p q hp hq e => Nat.add_left_cancel (h.1 _ _ p q (ap_r hp) (ap_r hq) e), fun k q hk => h.2 _ q (ap_r hk)⟩
theorem va_Dx {a b : va_W} (h : va_D A (a ++ b)) {i j : Nat} {x y : Nat × va_E} (hx : a[i]? = some x) (hy : b[j]? = some y) (e : x.1 = y.1) : False := by
  have h1 := h.1 i (a.length + j) x y (ap_l hx) (ap_r hy) e
  have h2 := (List.getElem?_eq_some_iff.mp hx).1
  omega
theorem swapP {cl : List vw_C} {a b : va_W} {H : Heap} (h : va_P D cl (a ++ b) H) : va_P D cl (b ++ a) H := va_P.app (va_Pr h) (va_Pl h)
theorem swapD {a b : va_W} (h : va_D A (a ++ b)) : va_D A (b ++ a) := va_D.app (va_Dr h) (va_Dl h) (fun i j x y hx hy e => va_Dx h hy hx e.symm)
theorem joinM {A0 : Nat → Prop} {cl : List vw_C} {pre post w1 : va_W} {H H1 : Heap} (hP : va_P D cl (pre ++ (mid ++ post)) H) (hD : va_D A0 (pre ++ (mid ++ post))) (hk : ∀ a : Nat, a < H.size → ¬ va_A mid H.size a → H1[a]? = H[a]?) (hF : ∀ a, va_A mid H.size a → A0 a) (hP1 : va_P D cl w1 H1) (hD1 : va_D (va_A mid H.size) w1) : va_P D cl (pre ++ (w1 ++ post)) H1 ∧ va_D A0 (pre ++ (w1 ++ post)) := by
  have oPre : ∀ (i : Nat) (x : Nat × va_E), pre[i]? = some x → ¬ va_A mid H.size x.1 := by
    intro i x hx h
    rcases h with ⟨k, e, h⟩ | h
    · exact va_Dx hD hx (ap_l (b := post) h) rfl
    · exact absurd (hP _ x (ap_l hx)).lt (Nat.not_lt.mpr h)
  have oPost : ∀ (i : Nat) (x : Nat × va_E), post[i]? = some x → ¬ va_A mid H.size x.1 := by
    intro i x hx h
    rcases h with ⟨k, e, h⟩ | h
    · exact va_Dx (va_Dr hD) h hx rfl
    · exact absurd (hP _ x (ap_r (ap_r hx))).lt (Nat.not_lt.mpr h)
  have pPre : va_P D cl pre H1 := fun k q hq => (hP _ q (ap_l hq)).kept (hk q.1 (hP _ q (ap_l hq)).lt (oPre k q hq))
  have pPost : va_P D cl post H1 := fun k q hq => (hP _ q (ap_r (ap_r hq))).kept (hk q.1 (hP _ q (ap_r (ap_r hq))).lt (oPost k q hq))
  refine ⟨va_P.app pPre (va_P.app hP1 pPost), va_D.app (va_Dl hD) (va_D.app (hD1.weaken (fun _ x _ h => hF x.1 h)) (va_Dr (va_Dr hD)) (fun i j x y hx hy e => ?_)) (fun i j x y hx hy e => ?_)⟩
  · exact oPost j y hy (e ▸ hD1.2 i x hx)
  · rcases ap_c hy with hy | ⟨j2, hy⟩
    · exact oPre i x hx (e ▸ hD1.2 j y hy)
    · exact va_Dx hD hx (ap_r (a := mid) hy) e
theorem wFreeM {pre post : va_W} (hD : va_D A (pre ++ (mid ++ post))) (hS : va_S A H0 H locs) (hA : ∀ q, H0.size ≤ q → A q) : ∀ q, va_A mid H.size q → A q := by
  intro q h
  rcases h with ⟨k, e, h⟩ | h
  · exact hD.2 _ (q, e) (ap_r (ap_l h))
  · exact hA q (Nat.le_trans hS.1 h)
theorem zVi (pre post : va_W) {Φ : Int32 → FS → Prop} {q k ci : Nat} {fs : List Value} {qc : vw_C} (S : CallFix p m c cc nL s args uG own) (hM : Met l y (uW y b n r) rm (va_Pc (.ref q :: As) (aS ra ga D tys ws H.size)) (yQi Φ D cw (va_A ws H.size)) mc ms (va_A ws H.size)) (hI : mI y b n r As.length) (hL : Cond.methodLink own idx y ∈ uG) (hz1 : rm.cells = mc) (hz2 : rm.slots = ms) (hR : rm.frames + 1 ≤ R.frames ∧ 8 + (n + 11) + rm.locals ≤ R.locals) (hP : va_P D vwCl (pre ++ (ws ++ post)) H) (hD : va_D A (pre ++ (ws ++ post))) (hK : va_K D vwCl tys s) (hS : va_S A s.heap H locs) (hA : ∀ q, s.heap.size ≤ q → A q) (hB : amb ra ga A s s.heap) (he : ws[k]? = some (q, .inr (ci, fs))) (hc : vwCl[ci]? = some qc) (hcl : qc.1 = y.cls) (hls : ls.size = nL) (hst : (rest.map fun v => v.category).sum ≤ 8) (hf : cells + mc ≤ R.cells ∧ slots + ms ≤ R.slots) (hdg : decode cc pc = .ok (.invokevirtual idx, 3)) (kk : ∀ (v : Int32) (τ : FS) (H1 : Heap) (locs1 : List Loc), Φ v τ → H.size ≤ H1.size → va_P D vwCl (pre ++ (cw τ ++ post)) H1 → va_D A (pre ++ (cw τ ++ post)) → va_S A s.heap H1 locs1 → W p l e R s m args below meth c H1 locs1 (cells + mc) (slots + ms) Q (F0 m (pc + 3) ls (.int v :: rest))) : W p l e R s m args below meth c H locs cells slots Q (F0 m pc ls (As.reverse ++ .ref q :: rest)) := by
  obtain ⟨i1, i2, i3, i4, i5, i6, i7⟩ := hI
  have hF := wFreeM (pre := pre) (mid := ws) (post := post) hD hS hA
  have hPm := va_Pl (va_Pr hP)
  have h9 := va_recv hK hPm hc he
  rw [hcl] at h9
  refine va_calli (va_runV S hM (cwV As.length S.2.2.2.2 (gd_V hL i1 i2 i3 i4) rfl hz1 hz2 ⟨rfl, i5, i6, i7⟩ hR) ⟨aS_blind, h9, fun U hU hW => ⟨rfl, ⟨by rw [hU], by rw [hU]; exact hPm, va_K.moved hW.alike hK, (va_Dl (va_Dr hD)).weaken (fun _ _ _ _ => trivial)⟩, by rw [hU]; exact hB.move hW hS.2.1 hF⟩⟩ rfl rfl hls rfl (lv_room hst) hdg hf) hS (fun q _ h => hF q h) hF (fun r9 u t H1 locs1 ht hvm hw hX hz3 hk1 hS1 => ?_)
  rw [ht] at hX
  obtain ⟨g1, g2⟩ := joinM (pre := pre) (mid := ws) (post := post) hP hD hk1 hF hX.1 hX.2
  exact kk r9 u H1 locs1 hw hz3 g1 g2 hS1
theorem zVv (pre post : va_W) {Φ : FS → Prop} {q k ci : Nat} {fs : List Value} {qc : vw_C} (S : CallFix p m c cc nL s args uG own) (hM : Met l y (uW y b n r) rm (va_Pc (.ref q :: As) (aS ra ga D tys ws H.size)) (yQv Φ D cw (va_A ws H.size)) mc ms (va_A ws H.size)) (hI : mI y b n r As.length) (hL : Cond.methodLink own idx y ∈ uG) (hz1 : rm.cells = mc) (hz2 : rm.slots = ms) (hR : rm.frames + 1 ≤ R.frames ∧ 8 + (n + 11) + rm.locals ≤ R.locals) (hP : va_P D vwCl (pre ++ (ws ++ post)) H) (hD : va_D A (pre ++ (ws ++ post))) (hK : va_K D vwCl tys s) (hS : va_S A s.heap H locs) (hA : ∀ q, s.heap.size ≤ q → A q) (hB : amb ra ga A s s.heap) (he : ws[k]? = some (q, .inr (ci, fs))) (hc : vwCl[ci]? = some qc) (hcl : qc.1 = y.cls) (hls : ls.size = nL) (hst : (rest.map fun v => v.category).sum ≤ 8) (hf : cells + mc ≤ R.cells ∧ slots + ms ≤ R.slots) (hdg : decode cc pc = .ok (.invokevirtual idx, 3)) (kk : ∀ (τ : FS) (H1 : Heap) (locs1 : List Loc), Φ τ → H.size ≤ H1.size → va_P D vwCl (pre ++ (cw τ ++ post)) H1 → va_D A (pre ++ (cw τ ++ post)) → va_S A s.heap H1 locs1 → W p l e R s m args below meth c H1 locs1 (cells + mc) (slots + ms) Q (F0 m (pc + 3) ls rest)) : W p l e R s m args below meth c H locs cells slots Q (F0 m pc ls (As.reverse ++ .ref q :: rest)) := by
  obtain ⟨i1, i2, i3, i4, i5, i6, i7⟩ := hI
  have hF := wFreeM (pre := pre) (mid := ws) (post := post) hD hS hA
  have hPm := va_Pl (va_Pr hP)
  have h9 := va_recv hK hPm hc he
  rw [hcl] at h9
  refine va_callv (va_runV S hM (cwV As.length S.2.2.2.2 (gd_V hL i1 i2 i3 i4) rfl hz1 hz2 ⟨rfl, i5, i6, i7⟩ hR) ⟨aS_blind, h9, fun U hU hW => ⟨rfl, ⟨by rw [hU], by rw [hU]; exact hPm, va_K.moved hW.alike hK, (va_Dl (va_Dr hD)).weaken (fun _ _ _ _ => trivial)⟩, by rw [hU]; exact hB.move hW hS.2.1 hF⟩⟩ rfl rfl hls rfl (lv_room hst) hdg hf) hS (fun q _ h => hF q h) hF (fun u t H1 locs1 ht hvm hw hX hz3 hk1 hS1 => ?_)
  rw [ht] at hX
  obtain ⟨g1, g2⟩ := joinM (pre := pre) (mid := ws) (post := post) hP hD hk1 hF hX.1 hX.2
  exact kk u H1 locs1 hw hz3 g1 g2 hS1
theorem zVl (pre post : va_W) {Φ : Int64 → FS → Prop} {q k ci : Nat} {fs : List Value} {qc : vw_C} (S : CallFix p m c cc nL s args uG own) (hM : Met l y (uW y b n r) rm (va_Pc (.ref q :: As) (aS ra ga D tys ws H.size)) (yQl Φ D cw (va_A ws H.size)) mc ms (va_A ws H.size)) (hI : mI y b n r As.length) (hL : Cond.methodLink own idx y ∈ uG) (hz1 : rm.cells = mc) (hz2 : rm.slots = ms) (hR : rm.frames + 1 ≤ R.frames ∧ 8 + (n + 11) + rm.locals ≤ R.locals) (hP : va_P D vwCl (pre ++ (ws ++ post)) H) (hD : va_D A (pre ++ (ws ++ post))) (hK : va_K D vwCl tys s) (hS : va_S A s.heap H locs) (hA : ∀ q, s.heap.size ≤ q → A q) (hB : amb ra ga A s s.heap) (he : ws[k]? = some (q, .inr (ci, fs))) (hc : vwCl[ci]? = some qc) (hcl : qc.1 = y.cls) (hls : ls.size = nL) (hst : (rest.map fun v => v.category).sum ≤ 8) (hf : cells + mc ≤ R.cells ∧ slots + ms ≤ R.slots) (hdg : decode cc pc = .ok (.invokevirtual idx, 3)) (kk : ∀ (v : Int64) (τ : FS) (H1 : Heap) (locs1 : List Loc), Φ v τ → H.size ≤ H1.size → va_P D vwCl (pre ++ (cw τ ++ post)) H1 → va_D A (pre ++ (cw τ ++ post)) → va_S A s.heap H1 locs1 → W p l e R s m args below meth c H1 locs1 (cells + mc) (slots + ms) Q (F0 m (pc + 3) ls (.long v :: rest))) : W p l e R s m args below meth c H locs cells slots Q (F0 m pc ls (As.reverse ++ .ref q :: rest)) := by
  obtain ⟨i1, i2, i3, i4, i5, i6, i7⟩ := hI
  have hF := wFreeM (pre := pre) (mid := ws) (post := post) hD hS hA
  have hPm := va_Pl (va_Pr hP)
  have h9 := va_recv hK hPm hc he
  rw [hcl] at h9
  refine va_calll (va_runV S hM (cwV As.length S.2.2.2.2 (gd_V hL i1 i2 i3 i4) rfl hz1 hz2 ⟨rfl, i5, i6, i7⟩ hR) ⟨aS_blind, h9, fun U hU hW => ⟨rfl, ⟨by rw [hU], by rw [hU]; exact hPm, va_K.moved hW.alike hK, (va_Dl (va_Dr hD)).weaken (fun _ _ _ _ => trivial)⟩, by rw [hU]; exact hB.move hW hS.2.1 hF⟩⟩ rfl rfl hls rfl (lv_room hst) hdg hf) hS (fun q _ h => hF q h) hF (fun r9 u t H1 locs1 ht hvm hw hX hz3 hk1 hS1 => ?_)
  rw [ht] at hX
  obtain ⟨g1, g2⟩ := joinM (pre := pre) (mid := ws) (post := post) hP hD hk1 hF hX.1 hX.2
  exact kk r9 u H1 locs1 hw hz3 g1 g2 hS1
/-- class cells of one state, the law's own of another -/
def mrg (τ σ : FS) : FS := (fun a j => if a < 88 then τ.1 a j else σ.1 a j, (τ.2.1, σ.2.2))
/-- what is known of the array class of int[] -/
theorem cG_k {cG : ClassId} {cI cZ : ClassId} (hB : amb ra ga A s s.heap) (hK : va_K D vwCl (tyL cI cZ cG) s) : ∃ kA : Class, s.vm.classes[cG]? = some kA ∧ kA.kind = .array cI (.array .int) := by
  obtain ⟨comp, c0, k, h1, h2, h3, h4, h5⟩ := arrayOverA_spec hB.g
  have e1 : s.vm.findClass ("[" ++ (FieldType.array .int).toString) = some cG := (hK.2 2 (cG, .array .int) rfl).2
  have e2 : s.vm.findClass ("[" ++ FieldType.int.toString) = some cI := (hK.2 0 (cI, .int) rfl).2
  cases h5.symm.trans e1
  have e3 : s.vm.findClass (FieldType.array .int).toString = some cI := e2
  cases h1.symm.trans e3
  exact ⟨k, h3, h4⟩
/-- an int[] of the world goes into a place of an int[][] -/
theorem yaasti {q0 q1 a v : Nat} {cI cZ cG : ClassId} {n k : Nat} {f : Nat → Option Nat} {h : Nat → Int32} {i : Int32} (S : CallFix p m c cc nL s args uG own) (hB : amb ra ga A s s.heap) (hK : va_K D vwCl (tyL cI cZ cG) s) (hP : va_P D vwCl ws H) (hD : va_D A ws) (hS : va_S A H0 H locs) (ha : ws[q0]? = some (a, .inl (cG, n, .inr (.inr (.inr (.inr f)))))) (hv : ws[q1]? = some (v, .inl (cI, k, .inl h))) (hin : vp_in i n) (hdg : decode cc pc = .ok (.aastore, 1))
    (kk : ∀ (H1 : Heap) (locs1 : List Loc), va_P D vwCl (ws.set q0 (a, .inl (cG, n, .inr (.inr (.inr (.inr (va_up f i.toNatClampNeg (some v)))))))) H1 → va_D A (ws.set q0 (a, .inl (cG, n, .inr (.inr (.inr (.inr (va_up f i.toNatClampNeg (some v)))))))) → va_S A H0 H1 locs1 → W p l e R s m args below meth c H1 locs1 cells slots Q (F0 m (pc + 1) ls rest)) : W p l e R s m args below meth c H locs cells slots Q (F0 m pc ls (.ref v :: .int i :: .ref a :: rest)) := by
  have hlt : i.toNatClampNeg < n := Nat.not_le.mp fun q => hin (Or.inr q)
  have h0 : ¬ i < 0 := fun q => hin (Or.inl q)
  obtain ⟨kA, k1, k2⟩ := cG_k hB hK
  obtain ⟨-, kI, hkI, cm, hkI2⟩ := (hK.2 0 (cI, .int) rfl).1 k (fun j => .int (h j))
  have hkI3 : s.vm.classes[cI]? = some kI := hkI
  refine W.aast S.1 S.2.1 (hP q0 _ ha) (fun q h => by cases h) (fun h => by cases h) k1 k2 rfl hkI3 ⟨h0, by show _ < (arrV _ _ _).slots.size; rw [arrV_size]; exact hlt⟩ (hP q1 _ hv) (fun q h => by cases h) hkI3 (va_asg _ _) rfl rfl hdg fun H1 e z oq => ?_
  refine kk H1 _ (hP.set hD ha ?_ oq) (hD.set ha) (hS.put z oq (hD.2 q0 _ ha))
  show H1[a]? = some (vp_cell _ _)
  rw [e]
  rw [vp_cell_q, vp_cell_q, arrV_store]
  congr 2
  funext q
  by_cases hq : q = i.toNatClampNeg
  · subst hq
    simp [updV, va_up, va_rf]
  · simp [updV, va_up, hq]
end ZR
