section XA
def tROLE_A (j : Nat) : Int32 := ([1, 2, 2, 0, 0, 0, 0, 0, 2, 0, 2, 2, 0, 2, 2, 6, 3, 3, 0, 0, 0, 2] : List Int32).getD j 0
def tROLE_B (j : Nat) : Int32 := ([0, 0, 4, 4, 4, 4, 4, 4, 7, 8, 0, 0, 5, 4, 4, 4, 4, 0, 4, 4, 9, 10] : List Int32).getD j 0
def tROLE_C (j : Nat) : Int32 := ([0, 0, 0, 4, 4, 4, 4, 4, 0, 7, 0, 0, 5, 0, 4, 5, 5, 0, 0, 0, 0, 0] : List Int32).getD j 0
def ambN (U : State) : Prop := va_Nw (Cond.methodLinkNest RX8 18 yX5_init "StaticLink") U ∧ va_Nw (Cond.methodLinkNest RX3 34 yX6_init "StaticLink") U ∧ va_Nw (Cond.methodLinkNest RX8 62 yX6_init "StaticLink") U ∧ va_Nw (Cond.methodLinkNest RX9 41 yL_cell "StaticLinkLaw") U ∧ va_Nw (Cond.methodLinkNest RX9 47 yL_below "StaticLinkLaw") U ∧ va_Nw (Cond.methodLinkNest RX5 51 yX8_isName "StaticLink") U
def ambT (ra : Nat → Nat) (A : Nat → Prop) (U : State) (H : Heap) : Prop := (va_Z RX5 "ROLE_A" "[I" (.ref (ra 0)) A U H ∧ va_T .int (ra 0) 22 (fun j => .int (tROLE_A j)) A U H) ∧ (va_Z RX5 "ROLE_B" "[I" (.ref (ra 1)) A U H ∧ va_T .int (ra 1) 22 (fun j => .int (tROLE_B j)) A U H) ∧ (va_Z RX5 "ROLE_C" "[I" (.ref (ra 2)) A U H ∧ va_T .int (ra 2) 22 (fun j => .int (tROLE_C j)) A U H)
/-- the script: where it lies, how long it is, what it holds -/
abbrev SG : Type := Nat × (Nat × (Nat → Int32))
def ambS (ga : SG) (A : Nat → Prop) (U : State) (H : Heap) : Prop := va_T .int ga.1 ga.2.1 (fun j => .int (ga.2.2 j)) A U H
/-- what class and law need beside their own cells -/
def amb (ra : Nat → Nat) (ga : SG) (A : Nat → Prop) (U : State) (H : Heap) : Prop := ambN U ∧ ambT ra A U H ∧ ambS ga A U H ∧ va_Nw (Cond.arrayOver (.array .int)) U
theorem amb.move {ra : Nat → Nat} {ga : SG} {A B : Nat → Prop} {s U : State} {H0 H : Heap} (hW : s.WarmedH U.vm) (h : amb ra ga A s H0) (hq : ∀ a : Nat, a < H0.size → ¬ A a → H[a]? = H0[a]?) (hAB : ∀ q, B q → A q) : amb ra ga B U H := by
  obtain ⟨⟨n0, n1, n2, n3, n4, n5⟩, ⟨⟨z0, t0⟩, ⟨z1, t1⟩, ⟨z2, t2⟩⟩, ts, tg⟩ := h
  exact ⟨⟨va_Nw.warmM hW n0, va_Nw.warmM hW n1, va_Nw.warmM hW n2, va_Nw.warmM hW n3, va_Nw.warmM hW n4, va_Nw.warmM hW n5⟩, ⟨⟨((z0.kept hq).narrow hAB).moved hW.alike, ((t0.kept hq).narrow hAB).moved hW.alike⟩, ⟨((z1.kept hq).narrow hAB).moved hW.alike, ((t1.kept hq).narrow hAB).moved hW.alike⟩, ⟨((z2.kept hq).narrow hAB).moved hW.alike, ((t2.kept hq).narrow hAB).moved hW.alike⟩⟩, ((show va_T .int ga.1 ga.2.1 (fun j => .int (ga.2.2 j)) A s H0 from ts).kept hq |>.narrow hAB).moved hW.alike, over_moved hW.alike tg⟩
theorem amb.blind {ra : Nat → Nat} {ga : SG} {A : Nat → Prop} {U U1 : State} {H : Heap} (hv : U1.vm = U.vm) (h : amb ra ga A U H) : amb ra ga A U1 H := by
  have ha : U.vm.Alike U1.vm := by rw [hv]; exact Vm.Alike.refl _
  obtain ⟨⟨n0, n1, n2, n3, n4, n5⟩, ⟨⟨z0, t0⟩, ⟨z1, t1⟩, ⟨z2, t2⟩⟩, ts, tg⟩ := h
  exact ⟨⟨va_Nw.same rfl hv.symm n0, va_Nw.same rfl hv.symm n1, va_Nw.same rfl hv.symm n2, va_Nw.same rfl hv.symm n3, va_Nw.same rfl hv.symm n4, va_Nw.same rfl hv.symm n5⟩, ⟨⟨z0.moved ha, t0.moved ha⟩, ⟨z1.moved ha, t1.moved ha⟩, ⟨z2.moved ha, t2.moved ha⟩⟩, (show va_T .int ga.1 ga.2.1 (fun j => .int (ga.2.2 j)) A U H from ts).moved ha, over_moved ha tg⟩
variable {ra : Nat → Nat} {ga : SG} {A : Nat → Prop} {U : State} {H : Heap}
theorem amb.n0 (h : amb ra ga A U H) : va_Nw (Cond.methodLinkNest RX8 18 yX5_init "StaticLink") U := h.1.1
theorem amb.n1 (h : amb ra ga A U H) : va_Nw (Cond.methodLinkNest RX3 34 yX6_init "StaticLink") U := h.1.2.1
theorem amb.n2 (h : amb ra ga A U H) : va_Nw (Cond.methodLinkNest RX8 62 yX6_init "StaticLink") U := h.1.2.2.1
theorem amb.n3 (h : amb ra ga A U H) : va_Nw (Cond.methodLinkNest RX9 41 yL_cell "StaticLinkLaw") U := h.1.2.2.2.1
theorem amb.n4 (h : amb ra ga A U H) : va_Nw (Cond.methodLinkNest RX9 47 yL_below "StaticLinkLaw") U := h.1.2.2.2.2.1
theorem amb.n5 (h : amb ra ga A U H) : va_Nw (Cond.methodLinkNest RX5 51 yX8_isName "StaticLink") U := h.1.2.2.2.2.2
theorem amb.z0 (h : amb ra ga A U H) : va_Z RX5 "ROLE_A" "[I" (.ref (ra 0)) A U H := h.2.1.1.1
theorem amb.t0 (h : amb ra ga A U H) : va_T .int (ra 0) 22 (fun j => .int (tROLE_A j)) A U H := h.2.1.1.2
theorem amb.z1 (h : amb ra ga A U H) : va_Z RX5 "ROLE_B" "[I" (.ref (ra 1)) A U H := h.2.1.2.1.1
theorem amb.t1 (h : amb ra ga A U H) : va_T .int (ra 1) 22 (fun j => .int (tROLE_B j)) A U H := h.2.1.2.1.2
theorem amb.z2 (h : amb ra ga A U H) : va_Z RX5 "ROLE_C" "[I" (.ref (ra 2)) A U H := h.2.1.2.2.1
theorem amb.t2 (h : amb ra ga A U H) : va_T .int (ra 2) 22 (fun j => .int (tROLE_C j)) A U H := h.2.1.2.2.2
theorem amb.s (h : amb ra ga A U H) : va_T .int ga.1 ga.2.1 (fun j => .int (ga.2.2 j)) A U H := h.2.2.1
theorem amb.g (h : amb ra ga A U H) : va_Nw (Cond.arrayOver (.array .int)) U := h.2.2.2
/-- the class's world at this size of the heap, and its ambient -/
abbrev aS (ra : Nat → Nat) (ga : SG) (D : va_G) (tys : List (ClassId × FieldType)) (ws : va_W) (sz : Nat) : State → Prop := fun U => wS D tys ws sz U ∧ amb ra ga (va_A ws sz) U U.heap
theorem aS_blind {av : List Value} {ra : Nat → Nat} {ga : SG} {D : va_G} {tys : List (ClassId × FieldType)} {ws : va_W} {sz : Nat} : FrameBlind (va_Pc av (aS ra ga D tys ws sz)) := fun a U g mk q => ⟨q.1, ⟨q.2.1.1, q.2.1.2.1, va_K.moved (u := U) (U := U.calling g mk a) (Vm.Alike.refl U.vm) q.2.1.2.2.1, q.2.1.2.2.2⟩, amb.blind (U := U) (U1 := U.calling g mk a) rfl q.2.2⟩
variable {p : Program} {l : Launch} {e : Env} {R : Room} {s : State} {m : MethodId} {args : Array Value} {below : List Frame} {meth : Method} {c : Code} {H0 : Heap} {locs : List Loc} {cells slots : Nat} {Q : State → Prop}
variable {cc b : ByteArray} {pc nL n idx mc ms mc0 ms0 : Nat} {ls : Array Slot} {As rest : List Value} {own : String} {y : MethodName} {r : Option FieldType} {rm : Room} {D : va_G} {tys : List (ClassId × FieldType)} {ws ws' : va_W}
theorem aStart {av : List Value} {lv : List (Nat × Value)} {sz : Nat} {Qc : (Nat → Prop) → Array Value → State → Outcome → State → Prop} (hy : plainName y.cls = true) (hn : (lg_sl av).length ≤ n) (hlv : lv_args 0 av = lv)
    (body : ∀ (p : Program) (e : Env) (s : State) (m : MethodId) (args : Array Value) (below : List Frame) (meth : Method) (c : Code) (ls : Array Slot) (A : Nat → Prop) (H : Heap), CallFix p m c b n s args uG y.cls → meth.sig.returnType = r → meth.locks = false → meth.name = y.name → lv_has ls n lv → va_K D vwCl tys s → va_P D vwCl ws H → va_D A ws → va_S A s.heap H [] → (∀ q, s.heap.size ≤ q → A q) → amb ra ga A s s.heap → W p l e rm s m args below meth c H [] 0 0 (MQ below (Qc A) args s mc ms A) (F0 m 0 ls [])) : Met l y (uW y b n r) rm (va_Pc av (aS ra ga D tys ws sz)) (Qc (va_A ws sz)) mc ms (va_A ws sz) := by
  refine Met.ofW (cc := b) (maxL := n) (ret := r) hy rfl ?_
  intro p e s m args below meth c s₁ B hml hv
  obtain ⟨rfl, ⟨hsz, hP, hK, hD0⟩, hB⟩ := hv
  have hts := atoms_spec (ws := uW y b n r) B.pre
  subst hsz
  have hl := lv_entry av (n := n) hn
  rw [lg_entry_eq]
  generalize (lg_sl av ++ List.replicate (n - (lg_sl av).length) Slot.unset).toArray = ls at hl ⊢
  rw [hlv] at hl
  exact body p e s m av.toArray below meth c ls (va_A ws s.heap.size) s.heap ⟨B.exec, B.bytes, hml, findClass_of_methodNamed B.named, fun w h => hts w (List.mem_cons_of_mem _ h)⟩ B.returns B.notSynchronized (name_of_methodNamed B.named B.method).1 hl hK hP hD0.self va_S.rf (fun q h => Or.inr h) hB
theorem xgs {C nm d ref : String} {v : Value} (S : CallFix p m c cc nL s args uG own) (hZ : va_Z C nm d v A s s.heap) (hS : va_S A s.heap H locs) (hl : Cond.fieldLink own idx ref nm d ∈ uG) (hr : C = ref) (hdg : decode cc pc = .ok (.getstatic idx, 3)) (kk : W p l e R s m args below meth c H locs cells slots Q (F0 m (pc + 3) ls (v :: rest))) : W p l e R s m args below meth c H locs cells slots Q (F0 m pc ls rest) :=
  va_gets S.1 S.2.1 hZ hS S.2.2.2.1 (S.2.2.2.2 _ hl) (fun x h => by rw [← hr]; exact h) hdg kk
theorem xti {t N : Nat} {f : Nat → Int32} {i v : Int32} (S : CallFix p m c cc nL s args uG own) (hT : va_T .int t N (fun j => .int (f j)) A s s.heap) (hS : va_S A s.heap H locs) (hin : vp_in i N) (hv : f i.toNatClampNeg = v) (hdg : decode cc pc = .ok (.iaload, 1)) (kk : W p l e R s m args below meth c H locs cells slots Q (F0 m (pc + 1) ls (.int v :: rest))) : W p l e R s m args below meth c H locs cells slots Q (F0 m pc ls (.int i :: .ref t :: rest)) :=
  va_ti S.1 S.2.1 hT hS hin (v := .int v) (congrArg Value.int hv) hdg kk
theorem xsi {i v : Int32} (S : CallFix p m c cc nL s args uG own) (hB : amb ra ga A s s.heap) (hS : va_S A s.heap H locs) (hin : vp_in i ga.2.1) (hv : ga.2.2 i.toNatClampNeg = v) (hdg : decode cc pc = .ok (.iaload, 1)) (kk : W p l e R s m args below meth c H locs cells slots Q (F0 m (pc + 1) ls (.int v :: rest))) : W p l e R s m args below meth c H locs cells slots Q (F0 m pc ls (.int i :: .ref ga.1 :: rest)) :=
  va_ti S.1 S.2.1 hB.s hS hin (v := .int v) (congrArg Value.int hv) hdg kk
theorem xsl {v : Int32} (S : CallFix p m c cc nL s args uG own) (hB : amb ra ga A s s.heap) (hS : va_S A s.heap H locs) (hv : Int32.ofNat ga.2.1 = v) (hdg : decode cc pc = .ok (.arraylength, 1)) (kk : W p l e R s m args below meth c H locs cells slots Q (F0 m (pc + 1) ls (.int v :: rest))) : W p l e R s m args below meth c H locs cells slots Q (F0 m pc ls (.ref ga.1 :: rest)) :=
  va_tlen S.1 S.2.1 hB.s hS hv hdg kk
theorem aVi {v : Int32} {q k ci : Nat} {fs : List Value} {qc : vw_C} (S : CallFix p m c cc nL s args uG own) (hM : Met l y (uW y b n r) rm (va_Pc (.ref q :: As) (aS ra ga D tys ws H.size)) (wQi v D ws' (va_A ws H.size)) mc ms (va_A ws H.size)) (hI : mI y b n r As.length) (hL : Cond.methodLink own idx y ∈ uG) (hz1 : rm.cells = mc) (hz2 : rm.slots = ms) (hR : rm.frames + 1 ≤ R.frames ∧ 8 + (n + 11) + rm.locals ≤ R.locals) (hP : va_P D vwCl ws H) (hD : va_D A ws) (hK : va_K D vwCl tys s) (hS : va_S A s.heap H locs) (hA : ∀ q, s.heap.size ≤ q → A q) (hB : amb ra ga A s s.heap) (he : ws[k]? = some (q, .inr (ci, fs))) (hc : vwCl[ci]? = some qc) (hcl : qc.1 = y.cls) (hls : ls.size = nL) (hst : (rest.map fun v => v.category).sum ≤ 8) (hf : cells + mc ≤ R.cells ∧ slots + ms ≤ R.slots) (hdg : decode cc pc = .ok (.invokevirtual idx, 3)) (kk : ∀ (H1 : Heap) (locs1 : List Loc), H.size ≤ H1.size → va_P D vwCl ws' H1 → va_D A ws' → va_S A s.heap H1 locs1 → W p l e R s m args below meth c H1 locs1 (cells + mc) (slots + ms) Q (F0 m (pc + 3) ls (.int v :: rest))) : W p l e R s m args below meth c H locs cells slots Q (F0 m pc ls (As.reverse ++ .ref q :: rest)) := by
  obtain ⟨i1, i2, i3, i4, i5, i6, i7⟩ := hI
  have hF := wFree hD hS hA
  have h9 := va_recv hK hP hc he
  rw [hcl] at h9
  refine va_calli (va_runV S hM (cwV As.length S.2.2.2.2 (gd_V hL i1 i2 i3 i4) rfl hz1 hz2 ⟨rfl, i5, i6, i7⟩ hR) ⟨aS_blind, h9, fun U hU hW => ⟨rfl, ⟨by rw [hU], by rw [hU]; exact hP, va_K.moved hW.alike hK, hD.weaken (fun _ _ _ _ => trivial)⟩, by rw [hU]; exact hB.move hW hS.2.1 hF⟩⟩ rfl rfl hls rfl (lv_room hst) hdg hf) hS (fun q _ h => hF q h) hF (fun r9 u t H1 locs1 ht hvm hw hX hz3 hk1 hS1 => ?_)
  subst hw
  rw [ht] at hX
  exact kk H1 locs1 hz3 hX.1 (hX.2.weaken (fun _ q _ h => hF _ h)) hS1
theorem aVv {q k ci : Nat} {fs : List Value} {qc : vw_C} (S : CallFix p m c cc nL s args uG own) (hM : Met l y (uW y b n r) rm (va_Pc (.ref q :: As) (aS ra ga D tys ws H.size)) (wQv D ws' (va_A ws H.size)) mc ms (va_A ws H.size)) (hI : mI y b n r As.length) (hL : Cond.methodLink own idx y ∈ uG) (hz1 : rm.cells = mc) (hz2 : rm.slots = ms) (hR : rm.frames + 1 ≤ R.frames ∧ 8 + (n + 11) + rm.locals ≤ R.locals) (hP : va_P D vwCl ws H) (hD : va_D A ws) (hK : va_K D vwCl tys s) (hS : va_S A s.heap H locs) (hA : ∀ q, s.heap.size ≤ q → A q) (hB : amb ra ga A s s.heap) (he : ws[k]? = some (q, .inr (ci, fs))) (hc : vwCl[ci]? = some qc) (hcl : qc.1 = y.cls) (hls : ls.size = nL) (hst : (rest.map fun v => v.category).sum ≤ 8) (hf : cells + mc ≤ R.cells ∧ slots + ms ≤ R.slots) (hdg : decode cc pc = .ok (.invokevirtual idx, 3)) (kk : ∀ (H1 : Heap) (locs1 : List Loc), H.size ≤ H1.size → va_P D vwCl ws' H1 → va_D A ws' → va_S A s.heap H1 locs1 → W p l e R s m args below meth c H1 locs1 (cells + mc) (slots + ms) Q (F0 m (pc + 3) ls (rest))) : W p l e R s m args below meth c H locs cells slots Q (F0 m pc ls (As.reverse ++ .ref q :: rest)) := by
  obtain ⟨i1, i2, i3, i4, i5, i6, i7⟩ := hI
  have hF := wFree hD hS hA
  have h9 := va_recv hK hP hc he
  rw [hcl] at h9
  refine va_callv (va_runV S hM (cwV As.length S.2.2.2.2 (gd_V hL i1 i2 i3 i4) rfl hz1 hz2 ⟨rfl, i5, i6, i7⟩ hR) ⟨aS_blind, h9, fun U hU hW => ⟨rfl, ⟨by rw [hU], by rw [hU]; exact hP, va_K.moved hW.alike hK, hD.weaken (fun _ _ _ _ => trivial)⟩, by rw [hU]; exact hB.move hW hS.2.1 hF⟩⟩ rfl rfl hls rfl (lv_room hst) hdg hf) hS (fun q _ h => hF q h) hF (fun u t H1 locs1 ht hvm hw hX hz3 hk1 hS1 => ?_)
  rw [ht] at hX
  exact kk H1 locs1 hz3 hX.1 (hX.2.weaken (fun _ q _ h => hF _ h)) hS1
theorem aVl {v : Int64} {q k ci : Nat} {fs : List Value} {qc : vw_C} (S : CallFix p m c cc nL s args uG own) (hM : Met l y (uW y b n r) rm (va_Pc (.ref q :: As) (aS ra ga D tys ws H.size)) (wQl v D ws' (va_A ws H.size)) mc ms (va_A ws H.size)) (hI : mI y b n r As.length) (hL : Cond.methodLink own idx y ∈ uG) (hz1 : rm.cells = mc) (hz2 : rm.slots = ms) (hR : rm.frames + 1 ≤ R.frames ∧ 8 + (n + 11) + rm.locals ≤ R.locals) (hP : va_P D vwCl ws H) (hD : va_D A ws) (hK : va_K D vwCl tys s) (hS : va_S A s.heap H locs) (hA : ∀ q, s.heap.size ≤ q → A q) (hB : amb ra ga A s s.heap) (he : ws[k]? = some (q, .inr (ci, fs))) (hc : vwCl[ci]? = some qc) (hcl : qc.1 = y.cls) (hls : ls.size = nL) (hst : (rest.map fun v => v.category).sum ≤ 8) (hf : cells + mc ≤ R.cells ∧ slots + ms ≤ R.slots) (hdg : decode cc pc = .ok (.invokevirtual idx, 3)) (kk : ∀ (H1 : Heap) (locs1 : List Loc), H.size ≤ H1.size → va_P D vwCl ws' H1 → va_D A ws' → va_S A s.heap H1 locs1 → W p l e R s m args below meth c H1 locs1 (cells + mc) (slots + ms) Q (F0 m (pc + 3) ls (.long v :: rest))) : W p l e R s m args below meth c H locs cells slots Q (F0 m pc ls (As.reverse ++ .ref q :: rest)) := by
  obtain ⟨i1, i2, i3, i4, i5, i6, i7⟩ := hI
  have hF := wFree hD hS hA
  have h9 := va_recv hK hP hc he
  rw [hcl] at h9
  refine va_calll (va_runV S hM (cwV As.length S.2.2.2.2 (gd_V hL i1 i2 i3 i4) rfl hz1 hz2 ⟨rfl, i5, i6, i7⟩ hR) ⟨aS_blind, h9, fun U hU hW => ⟨rfl, ⟨by rw [hU], by rw [hU]; exact hP, va_K.moved hW.alike hK, hD.weaken (fun _ _ _ _ => trivial)⟩, by rw [hU]; exact hB.move hW hS.2.1 hF⟩⟩ rfl rfl hls rfl (lv_room hst) hdg hf) hS (fun q _ h => hF q h) hF (fun r9 u t H1 locs1 ht hvm hw hX hz3 hk1 hS1 => ?_)
  subst hw
  rw [ht] at hX
  exact kk H1 locs1 hz3 hX.1 (hX.2.weaken (fun _ q _ h => hF _ h)) hS1
theorem aSi {v : Int32} (S : CallFix p m c cc nL s args uG own) (hM : Met l y (uW y b n r) rm (va_Pc (As) (aS ra ga D tys ws H.size)) (wQi v D ws' (va_A ws H.size)) mc ms (va_A ws H.size)) (hI : mS y b n r As.length) (hL : Cond.methodLink own idx y ∈ uG) (hz1 : rm.cells = mc) (hz2 : rm.slots = ms) (hR : rm.frames + 1 ≤ R.frames ∧ 8 + (n + 11) + rm.locals ≤ R.locals) (hP : va_P D vwCl ws H) (hD : va_D A ws) (hK : va_K D vwCl tys s) (hS : va_S A s.heap H locs) (hA : ∀ q, s.heap.size ≤ q → A q) (hB : amb ra ga A s s.heap) (hls : ls.size = nL) (hst : (rest.map fun v => v.category).sum ≤ 8) (hf : cells + mc ≤ R.cells ∧ slots + ms ≤ R.slots) (hdg : decode cc pc = .ok (.invokestatic idx, 3)) (kk : ∀ (H1 : Heap) (locs1 : List Loc), H.size ≤ H1.size → va_P D vwCl ws' H1 → va_D A ws' → va_S A s.heap H1 locs1 → W p l e R s m args below meth c H1 locs1 (cells + mc) (slots + ms) Q (F0 m (pc + 3) ls (.int v :: rest))) : W p l e R s m args below meth c H locs cells slots Q (F0 m pc ls (As.reverse ++ rest)) := by
  obtain ⟨i1, i3, i4, i5, i6, i7⟩ := hI
  have hF := wFree hD hS hA
  refine va_calli (va_runS S hM (va_cwS As.length S.2.2.2.2 (gd_S hL i1 i3 i4) rfl hz1 hz2 ⟨i5, i6, i7⟩ hR) ⟨aS_blind, fun U hU hW => ⟨rfl, ⟨by rw [hU], by rw [hU]; exact hP, va_K.moved hW.alike hK, hD.weaken (fun _ _ _ _ => trivial)⟩, by rw [hU]; exact hB.move hW hS.2.1 hF⟩⟩ rfl rfl hls rfl (lv_room hst) hdg hf) hS (fun q _ h => hF q h) hF (fun r9 u t H1 locs1 ht hvm hw hX hz3 hk1 hS1 => ?_)
  subst hw
  rw [ht] at hX
  exact kk H1 locs1 hz3 hX.1 (hX.2.weaken (fun _ q _ h => hF _ h)) hS1
theorem aSv (S : CallFix p m c cc nL s args uG own) (hM : Met l y (uW y b n r) rm (va_Pc (As) (aS ra ga D tys ws H.size)) (wQv D ws' (va_A ws H.size)) mc ms (va_A ws H.size)) (hI : mS y b n r As.length) (hL : Cond.methodLink own idx y ∈ uG) (hz1 : rm.cells = mc) (hz2 : rm.slots = ms) (hR : rm.frames + 1 ≤ R.frames ∧ 8 + (n + 11) + rm.locals ≤ R.locals) (hP : va_P D vwCl ws H) (hD : va_D A ws) (hK : va_K D vwCl tys s) (hS : va_S A s.heap H locs) (hA : ∀ q, s.heap.size ≤ q → A q) (hB : amb ra ga A s s.heap) (hls : ls.size = nL) (hst : (rest.map fun v => v.category).sum ≤ 8) (hf : cells + mc ≤ R.cells ∧ slots + ms ≤ R.slots) (hdg : decode cc pc = .ok (.invokestatic idx, 3)) (kk : ∀ (H1 : Heap) (locs1 : List Loc), H.size ≤ H1.size → va_P D vwCl ws' H1 → va_D A ws' → va_S A s.heap H1 locs1 → W p l e R s m args below meth c H1 locs1 (cells + mc) (slots + ms) Q (F0 m (pc + 3) ls (rest))) : W p l e R s m args below meth c H locs cells slots Q (F0 m pc ls (As.reverse ++ rest)) := by
  obtain ⟨i1, i3, i4, i5, i6, i7⟩ := hI
  have hF := wFree hD hS hA
  refine va_callv (va_runS S hM (va_cwS As.length S.2.2.2.2 (gd_S hL i1 i3 i4) rfl hz1 hz2 ⟨i5, i6, i7⟩ hR) ⟨aS_blind, fun U hU hW => ⟨rfl, ⟨by rw [hU], by rw [hU]; exact hP, va_K.moved hW.alike hK, hD.weaken (fun _ _ _ _ => trivial)⟩, by rw [hU]; exact hB.move hW hS.2.1 hF⟩⟩ rfl rfl hls rfl (lv_room hst) hdg hf) hS (fun q _ h => hF q h) hF (fun u t H1 locs1 ht hvm hw hX hz3 hk1 hS1 => ?_)
  rw [ht] at hX
  exact kk H1 locs1 hz3 hX.1 (hX.2.weaken (fun _ q _ h => hF _ h)) hS1
theorem aNi {v : Int32} (S : CallFix p m c cc nL s args uG own) (hM : Met l y (uW y b n r) rm (va_Pc (As) (aS ra ga D tys ws H.size)) (wQi v D ws' (va_A ws H.size)) mc ms (va_A ws H.size)) (hI : mS y b n r As.length) {host : String} (hN : va_Nw (.methodLinkNest own idx y host) s) (hz1 : rm.cells = mc) (hz2 : rm.slots = ms) (hR : rm.frames + 1 ≤ R.frames ∧ 8 + (n + 11) + rm.locals ≤ R.locals) (hP : va_P D vwCl ws H) (hD : va_D A ws) (hK : va_K D vwCl tys s) (hS : va_S A s.heap H locs) (hA : ∀ q, s.heap.size ≤ q → A q) (hB : amb ra ga A s s.heap) (hls : ls.size = nL) (hst : (rest.map fun v => v.category).sum ≤ 8) (hf : cells + mc ≤ R.cells ∧ slots + ms ≤ R.slots) (hdg : decode cc pc = .ok (.invokestatic idx, 3)) (kk : ∀ (H1 : Heap) (locs1 : List Loc), H.size ≤ H1.size → va_P D vwCl ws' H1 → va_D A ws' → va_S A s.heap H1 locs1 → W p l e R s m args below meth c H1 locs1 (cells + mc) (slots + ms) Q (F0 m (pc + 3) ls (.int v :: rest))) : W p l e R s m args below meth c H locs cells slots Q (F0 m pc ls (As.reverse ++ rest)) := by
  obtain ⟨i1, i3, i4, i5, i6, i7⟩ := hI
  have hF := wFree hD hS hA
  refine va_calli (va_runSN S hM ⟨va_cnB As.length S.2.2.2.2 (gd_W i4) rfl hz1 hz2 hN (S.2.2.2.2 _ i3) ⟨i5, i6, i7⟩ hR, S.2.2.2.2 _ i1, trivial⟩ ⟨aS_blind, fun U hU hW => ⟨rfl, ⟨by rw [hU], by rw [hU]; exact hP, va_K.moved hW.alike hK, hD.weaken (fun _ _ _ _ => trivial)⟩, by rw [hU]; exact hB.move hW hS.2.1 hF⟩⟩ rfl rfl hls rfl (lv_room hst) hdg hf) hS (fun q _ h => hF q h) hF (fun r9 u t H1 locs1 ht hvm hw hX hz3 hk1 hS1 => ?_)
  subst hw
  rw [ht] at hX
  exact kk H1 locs1 hz3 hX.1 (hX.2.weaken (fun _ q _ h => hF _ h)) hS1
theorem aI {q k : Nat} {e0 : va_E} {e1 : (Nat → Nat) → va_E} {w2 : (Nat → Nat) → va_W} (S : CallFix p m c cc nL s args uG own) (hM : Met l y (uW y b n none) rm (va_Pc (.ref q :: As) (aS ra ga D tys [(q, e0)] H.size)) (wQc D (fun u => (q, e1 u) :: w2 u) (va_A [(q, e0)] H.size)) mc ms (va_A [(q, e0)] H.size)) (hI : mC y b n As.length) (hL : Cond.methodLink own idx y ∈ uG) (hz1 : rm.cells = mc) (hz2 : rm.slots = ms) (hR : rm.frames + 1 ≤ R.frames ∧ 8 + (n + 11) + rm.locals ≤ R.locals) (hP : va_P D vwCl ws H) (hD : va_D A ws) (hK : va_K D vwCl tys s) (hS : va_S A s.heap H locs) (hA : ∀ q, s.heap.size ≤ q → A q) (hB : amb ra ga A s s.heap) (he : ws[k]? = some (q, e0)) (hls : ls.size = nL) (hst : (rest.map fun v => v.category).sum ≤ 8) (hf : cells + mc ≤ R.cells ∧ slots + ms ≤ R.slots) (hdg : decode cc pc = .ok (.invokespecial idx, 3)) (kk : ∀ (u : Nat → Nat) (H1 : Heap) (locs1 : List Loc), H.size ≤ H1.size → va_P D vwCl (ws.set k (q, e1 u) ++ w2 u) H1 → va_D A (ws.set k (q, e1 u) ++ w2 u) → va_S A s.heap H1 locs1 → W p l e R s m args below meth c H1 locs1 (cells + mc) (slots + ms) Q (F0 m (pc + 3) ls rest)) : W p l e R s m args below meth c H locs cells slots Q (F0 m pc ls (As.reverse ++ .ref q :: rest)) := by
  obtain ⟨i1, i3, i4, i8, i5, i6, i7⟩ := hI
  have hF : ∀ a, va_A [(q, e0)] H.size a → A a := by
    intro a h
    rcases h with ⟨k2, e, h⟩ | h
    · have h9 : (a, e) ∈ [(q, e0)] := List.mem_of_getElem? h
      have h8 : a = q := (Prod.ext_iff.mp (List.mem_singleton.mp h9)).1
      rw [h8]
      exact hD.2 k (q, e0) he
    · exact hA a (Nat.le_trans hS.1 h)
  have hP0 : va_P D vwCl [(q, e0)] H := fun j x hx => by
    have h9 := List.mem_singleton.mp (List.mem_of_getElem? hx)
    rw [h9]
    exact hP k _ he
  have hD0 : va_D (fun _ => True) [(q, e0)] := ⟨fun i j x z hx hz _ => by
    have h1 := (List.getElem?_eq_some_iff.mp hx).1
    have h2 := (List.getElem?_eq_some_iff.mp hz).1
    simp only [List.length_singleton] at h1 h2
    omega, fun _ _ _ => trivial⟩
  refine va_callv (va_runI S hM (cwI As.length S.2.2.2.2 (gd_W i4) rfl hz1 hz2 (S.2.2.2.2 _ i3) (S.2.2.2.2 _ hL) (S.2.2.2.2 _ i1) i8 ⟨i5, i6, i7⟩ hR) ⟨aS_blind, fun U hU hW => ⟨rfl, ⟨by rw [hU], by rw [hU]; exact hP0, va_K.moved hW.alike hK, hD0⟩, by rw [hU]; exact hB.move hW hS.2.1 hF⟩⟩ rfl rfl hls rfl (lv_room hst) hdg hf) hS (fun q _ h => hF q h) hF (fun u t H1 locs1 ht hvm hw hX hz3 hk1 hS1 => ?_)
  rw [ht] at hX
  obtain ⟨g1, g2⟩ := joinSet hP hD he hk1 hF hX.1 hX.2
  exact kk u H1 locs1 hz3 g1 g2 hS1
theorem aIN {q k : Nat} {e0 : va_E} {e1 : (Nat → Nat) → va_E} {w2 : (Nat → Nat) → va_W} (S : CallFix p m c cc nL s args uG own) (hM : Met l y (uW y b n none) rm (va_Pc (.ref q :: As) (aS ra ga D tys [(q, e0)] H.size)) (wQc D (fun u => (q, e1 u) :: w2 u) (va_A [(q, e0)] H.size)) mc ms (va_A [(q, e0)] H.size)) (hI : mC y b n As.length) {host : String} (hN : va_Nw (.methodLinkNest own idx y host) s) (hz1 : rm.cells = mc) (hz2 : rm.slots = ms) (hR : rm.frames + 1 ≤ R.frames ∧ 8 + (n + 11) + rm.locals ≤ R.locals) (hP : va_P D vwCl ws H) (hD : va_D A ws) (hK : va_K D vwCl tys s) (hS : va_S A s.heap H locs) (hA : ∀ q, s.heap.size ≤ q → A q) (hB : amb ra ga A s s.heap) (he : ws[k]? = some (q, e0)) (hls : ls.size = nL) (hst : (rest.map fun v => v.category).sum ≤ 8) (hf : cells + mc ≤ R.cells ∧ slots + ms ≤ R.slots) (hdg : decode cc pc = .ok (.invokespecial idx, 3)) (kk : ∀ (u : Nat → Nat) (H1 : Heap) (locs1 : List Loc), H.size ≤ H1.size → va_P D vwCl (ws.set k (q, e1 u) ++ w2 u) H1 → va_D A (ws.set k (q, e1 u) ++ w2 u) → va_S A s.heap H1 locs1 → W p l e R s m args below meth c H1 locs1 (cells + mc) (slots + ms) Q (F0 m (pc + 3) ls rest)) : W p l e R s m args below meth c H locs cells slots Q (F0 m pc ls (As.reverse ++ .ref q :: rest)) := by
  obtain ⟨i1, i3, i4, i8, i5, i6, i7⟩ := hI
  have hF : ∀ a, va_A [(q, e0)] H.size a → A a := by
    intro a h
    rcases h with ⟨k2, e, h⟩ | h
    · have h9 : (a, e) ∈ [(q, e0)] := List.mem_of_getElem? h
      have h8 : a = q := (Prod.ext_iff.mp (List.mem_singleton.mp h9)).1
      rw [h8]
      exact hD.2 k (q, e0) he
    · exact hA a (Nat.le_trans hS.1 h)
  have hP0 : va_P D vwCl [(q, e0)] H := fun j x hx => by
    have h9 := List.mem_singleton.mp (List.mem_of_getElem? hx)
    rw [h9]
    exact hP k _ he
  have hD0 : va_D (fun _ => True) [(q, e0)] := ⟨fun i j x z hx hz _ => by
    have h1 := (List.getElem?_eq_some_iff.mp hx).1
    have h2 := (List.getElem?_eq_some_iff.mp hz).1
    simp only [List.length_singleton] at h1 h2
    omega, fun _ _ _ => trivial⟩
  refine va_callv (va_runIN S hM ⟨va_cnB As.length S.2.2.2.2 (gd_W i4) rfl hz1 hz2 hN (S.2.2.2.2 _ i3) ⟨i5, i6, i7⟩ hR, i8, S.2.2.2.2 _ i1⟩ ⟨aS_blind, fun U hU hW => ⟨rfl, ⟨by rw [hU], by rw [hU]; exact hP0, va_K.moved hW.alike hK, hD0⟩, by rw [hU]; exact hB.move hW hS.2.1 hF⟩⟩ rfl rfl hls rfl (lv_room hst) hdg hf) hS (fun q _ h => hF q h) hF (fun u t H1 locs1 ht hvm hw hX hz3 hk1 hS1 => ?_)
  rw [ht] at hX
  obtain ⟨g1, g2⟩ := joinSet hP hD he hk1 hF hX.1 hX.2
  exact kk u H1 locs1 hz3 g1 g2 hS1
/-- a loop that counts -/
theorem xloop (N : Nat) (lv : Nat → List (Nat × Value)) (wk : Nat → va_W) (hl : lv_has ls nL (lv 0)) (hP : va_P D vwCl (wk 0) H) (hD : va_D A (wk 0)) (hS : va_S A H0 H locs)
    (step : ∀ (k : Nat) (H : Heap) (locs : List Loc) (ls : Array Slot), k < N → lv_has ls nL (lv k) → va_P D vwCl (wk k) H → va_D A (wk k) → va_S A H0 H locs → (∀ (H : Heap) (locs : List Loc) (ls : Array Slot), lv_has ls nL (lv (k + 1)) → va_P D vwCl (wk (k + 1)) H → va_D A (wk (k + 1)) → va_S A H0 H locs → W p l e R s m args below meth c H locs cells slots Q (F0 m pc ls rest)) → W p l e R s m args below meth c H locs cells slots Q (F0 m pc ls rest))
    (done : ∀ (H : Heap) (locs : List Loc) (ls : Array Slot), lv_has ls nL (lv N) → va_P D vwCl (wk N) H → va_D A (wk N) → va_S A H0 H locs → W p l e R s m args below meth c H locs cells slots Q (F0 m pc ls rest)) : W p l e R s m args below meth c H locs cells slots Q (F0 m pc ls rest) := by
  have key : ∀ (d k : Nat), d + k = N → ∀ (H : Heap) (locs : List Loc) (ls : Array Slot), lv_has ls nL (lv k) → va_P D vwCl (wk k) H → va_D A (wk k) → va_S A H0 H locs → W p l e R s m args below meth c H locs cells slots Q (F0 m pc ls rest) := by
    intro d
    induction d with
    | zero =>
      intro k hk H locs ls h1 h2 h3 h4
      have e1 : k = N := by omega
      subst e1
      exact done H locs ls h1 h2 h3 h4
    | succ d ih =>
      intro k hk H locs ls h1 h2 h3 h4
      exact step k H locs ls (by omega) h1 h2 h3 h4 (ih (k + 1) (by omega))
  exact key N 0 (by omega) H locs ls hl hP hD hS
def fl (f : Nat → Int32) (k : Nat) (v : Int32) : Nat → Int32 := fun j => if j < k then v else f j
theorem fl_0 {f : Nat → Int32} {v : Int32} : fl f 0 v = f := funext fun j => if_neg (Nat.not_lt_zero j)
theorem fl_s {f : Nat → Int32} {k : Nat} {v : Int32} (h : k < 2 ^ 31) : upd (fl f k v) (nI k).toNatClampNeg v = fl f (k + 1) v := by
  rw [nI_clamp h]
  funext j
  show (if j = k then v else if j < k then v else f j) = if j < k + 1 then v else f j
  by_cases h1 : j = k
  · rw [if_pos h1, if_pos (by omega)]
  · rw [if_neg h1]
    by_cases h2 : j < k
    · rw [if_pos h2, if_pos (by omega)]
    · rw [if_neg h2, if_neg (by omega)]
theorem fl_N {f : Nat → Int32} {N : Nat} {v : Int32} : ∀ j, j < N → fl f N v j = v := fun j h => if_pos h
def uL (l : List Nat) (k : Nat) : Nat := l.getD k 0
end XA
