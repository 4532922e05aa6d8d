section LR
variable {p : Program} {l : Launch} {e : Env} {R : Room} {s : State} {m : MethodId} {args : Array Value} {below : List Frame} {meth : Method} {c : Code} {H H0 : Heap} {locs : List Loc} {cells slots : Nat} {Q : State → Prop}
variable {cc b : ByteArray} {pc nL n idx mc ms : Nat} {ls : Array Slot} {As rest : List Value} {own : String} {y : MethodName} {r : Option FieldType} {rm : Room} {D : va_G} {tys : List (ClassId × FieldType)} {ws ws' : va_W} {A : Nat → Prop} {ra : Nat → Nat} {ga : SG} {cw : FS → va_W} {τ0 : FS}
variable {mid mid' : va_W}
theorem xlcmp {x y : Int64} {v : Int32} (S : CallFix p m c cc nL s args uG own) (hdg : decode cc pc = .ok (.lcmp, 1)) (hv : lg_cmp x y = v) (k : W p l e R s m args below meth c H locs cells slots Q (F0 m (pc + 1) ls (.int v :: rest))) : W p l e R s m args below meth c H locs cells slots Q (F0 m pc ls (.long y :: .long x :: rest)) := W.lcmp S.1 S.2.1 hdg (by rw [hv]; exact k)
theorem cmp_self {x : Int64} : lg_cmp x x = 0 := by
  unfold lg_cmp
  simp
theorem zSi (pre post : va_W) {Φ : Int32 → FS → Prop} (S : CallFix p m c cc nL s args uG own) (hM : Met l y (uW y b n r) rm (va_Pc (As) (aS ra ga D tys ws H.size)) (yQi Φ D cw (va_A ws H.size)) mc ms (va_A ws H.size)) (hI : mS y b n r As.length) (hL : Cond.methodLink own idx y ∈ uG) (hz1 : rm.cells = mc) (hz2 : rm.slots = ms) (hR : rm.frames + 1 ≤ R.frames ∧ 8 + (n + 11) + rm.locals ≤ R.locals) (hP : va_P D vwCl (pre ++ (ws ++ post)) H) (hD : va_D A (pre ++ (ws ++ post))) (hK : va_K D vwCl tys s) (hS : va_S A s.heap H locs) (hA : ∀ q, s.heap.size ≤ q → A q) (hB : amb ra ga A s s.heap) (hls : ls.size = nL) (hst : (rest.map fun v => v.category).sum ≤ 8) (hf : cells + mc ≤ R.cells ∧ slots + ms ≤ R.slots) (hdg : decode cc pc = .ok (.invokestatic idx, 3)) (kk : ∀ (v : Int32) (τ : FS) (H1 : Heap) (locs1 : List Loc), Φ v τ → H.size ≤ H1.size → va_P D vwCl (pre ++ (cw τ ++ post)) H1 → va_D A (pre ++ (cw τ ++ post)) → va_S A s.heap H1 locs1 → W p l e R s m args below meth c H1 locs1 (cells + mc) (slots + ms) Q (F0 m (pc + 3) ls (.int v :: rest))) : W p l e R s m args below meth c H locs cells slots Q (F0 m pc ls (As.reverse ++ rest)) := by
  obtain ⟨i1, i3, i4, i5, i6, i7⟩ := hI
  have hF := wFreeM (pre := pre) (mid := ws) (post := post) hD hS hA
  have hPm := va_Pl (va_Pr hP)
  refine va_calli (va_runS S hM (va_cwS As.length S.2.2.2.2 (gd_S hL i1 i3 i4) rfl hz1 hz2 ⟨i5, i6, i7⟩ hR) ⟨aS_blind, fun U hU hW => ⟨rfl, ⟨by rw [hU], by rw [hU]; exact hPm, va_K.moved hW.alike hK, (va_Dl (va_Dr hD)).weaken (fun _ _ _ _ => trivial)⟩, by rw [hU]; exact hB.move hW hS.2.1 hF⟩⟩ rfl rfl hls rfl (lv_room hst) hdg hf) hS (fun q _ h => hF q h) hF (fun r9 u t H1 locs1 ht hvm hw hX hz3 hk1 hS1 => ?_)
  rw [ht] at hX
  obtain ⟨g1, g2⟩ := joinM (pre := pre) (mid := ws) (post := post) hP hD hk1 hF hX.1 hX.2
  exact kk r9 u H1 locs1 hw hz3 g1 g2 hS1
/-- a row of rows, all without one yet -/
theorem xanewa {t0 : Nat} {cI cZ cG : ClassId} {n : Int32} {N : Nat} (S : CallFix p m c cc nL s args uG own) (hB : amb ra ga A s s.heap) (hl : Cond.classLink own idx "[I" ∈ uG) (hK : va_K D vwCl (tyL cI cZ cG) s) (hP : va_P D vwCl ws H) (hD : va_D A ws) (hS : va_S A H0 H locs) (hA : ∀ q, H0.size ≤ q → A q) (hn : ¬ n < 0) (hN : n.toNatClampNeg = N) (hbytes : N * 4 ≤ 536870912) (hcells : cells + 1 ≤ R.cells) (hslots : slots + N ≤ R.slots) (hdg : decode cc pc = .ok (.anewarray idx, 3))
    (kk : ∀ (q : Nat) (H1 : Heap), va_P D vwCl (ws ++ [(q, .inl (cG, N, .inr (.inr (.inr (.inr (fun _ => none))))))]) H1 → va_D A (ws ++ [(q, .inl (cG, N, .inr (.inr (.inr (.inr (fun _ => none))))))]) → va_S A H0 H1 locs → W p l e R s m args below meth c H1 locs (cells + 1) (slots + N) Q (F0 m (pc + 3) ls (.ref q :: rest))) : W p l e R s m args below meth c H locs cells slots Q (F0 m pc ls (.int n :: rest)) := by
  subst hN
  intro T hT X
  obtain ⟨comp, cA, kA, h1, h2, h3, h4, h5⟩ := arrayOverA_spec hB.g
  have e1 : s.vm.findClass ("[" ++ (FieldType.array .int).toString) = some cG := (hK.2 2 (cG, .array .int) rfl).2
  cases h5.symm.trans e1
  obtain ⟨kC, hkC, -⟩ := Vm.findClass_spec h1
  obtain ⟨c2, hf, hcl⟩ := Cond.classLink_spec S.2.2.2.1 (S.2.2.2.2 _ hl) e.platform (by rw [X.admits.platform])
  cases h1.symm.trans hf
  obtain ⟨g1, w1, r1⟩ := State.classEntry (e := e) X.warmed hcl
  generalize T.vm.noted m.cls idx (.cls comp) = v1 at g1 w1 r1
  have hal : s.vm.Alike v1 := w1.alike
  obtain ⟨kC1, hkC1, -⟩ := hal.2.2 _ _ hkC
  obtain ⟨kA1, hkA1, heA⟩ := hal.2.2 _ _ h3
  have hkind1 : kA1.kind = .array comp (.array .int) := by rw [heA]; exact h4
  have hidx1 : (v1.classes.findIdx? fun x => match x.kind with | .array component _ => component == comp | _ => false) = some cG := by
    rw [hal.findIdx?_eqK _ (fun _ => rfl)]; exact h2
  have hlim : ¬ n.toNatClampNeg > e.platform.arrayLengthLimit := by rw [Launch.admits_arrayLengthLimit X.admits]; omega
  have hhp : ¬ n.toNatClampNeg * componentBytes (.array .int) > e.platform.maxHeapBytes := by
    rw [Launch.admits_maxHeapBytes X.admits]; show ¬ n.toNatClampNeg * 4 > 536870912; omega
  have X1 := (X.noted w1).pushed { cls := cG, slots := Array.replicate n.toNatClampNeg .null, vm := .none }
  obtain ⟨q1, q2⟩ := X.roomAbove hcells hslots
  have X2 : Stand p l e R s m args below meth c ((T.setVm v1).pushCell { cls := cG, slots := Array.replicate n.toNatClampNeg .null, vm := .none }) locs (cells + 1) (slots + n.toNatClampNeg) := by simpa using X1
  have st : ∀ target, Steps p.tables e below (((T.setVm v1).pushCell { cls := cG, slots := Array.replicate n.toNatClampNeg .null, vm := .none }).setTop (F0 m (pc + 3) ls (.ref T.heap.size :: rest))) target → Steps p.tables e below (T.setTop (F0 m pc ls (.int n :: rest))) target := by
    intro target hr
    jvm_step X.here [S.1, show decode c.code (F0 m pc ls (.int n :: rest)).pc = .ok (.anewarray idx, 3) by rw [S.2.1]; exact hdg, anewarray.wp_cold (e := e) (s := T) (f := F0 m pc ls (.int n :: rest)) X.here.top g1 r1,
      anewarray.wp_ready (e := e) (s := T.setVm v1) (f := F0 m pc ls (.int n :: rest)) (kc := kC1) (k := kA1) (type := .array .int) X.here.top r1 hkC1 hidx1 hkA1 hkind1 rfl rfl hn hlim hhp]
    exact ⟨by show T.heap.size < _; omega, by show T.slotsUsed + _ ≤ _; exact q2, hr⟩
  subst hT
  have o1 : ∀ q : Nat, q < T.heap.size → (T.heap.push ({ cls := cG, slots := Array.replicate n.toNatClampNeg .null, vm := .none } : Cell))[q]? = T.heap[q]? := fun q hq => by rw [Array.getElem?_push, if_neg (Nat.ne_of_lt hq)]
  have hk : ∀ (k : Nat) (x : Nat × va_E), ws[k]? = some x → (T.heap.push ({ cls := cG, slots := Array.replicate n.toNatClampNeg .null, vm := .none } : Cell))[x.1]? = T.heap[x.1]? := fun k x hx => o1 x.1 ((hP k x hx).lt)
  have hQ : va_P D vwCl (ws ++ [(T.heap.size, .inl (cG, n.toNatClampNeg, .inr (.inr (.inr (.inr (fun _ => none))))))]) (T.heap.push ({ cls := cG, slots := Array.replicate n.toNatClampNeg .null, vm := .none } : Cell)) := (hP.kept hk).app (fun k x hx => by
    have hz : k < 1 := (List.getElem?_eq_some_iff.mp hx).1
    rw [show k = 0 by omega] at hx
    cases hx
    show (T.heap.push _)[T.heap.size]? = some (vp_cell _ _)
    rw [vp_cell_q, Array.getElem?_push_size, ← arrV_new]
    rfl)
  obtain ⟨t', a1, b1⟩ := kk T.heap.size (T.heap.push { cls := cG, slots := Array.replicate n.toNatClampNeg .null, vm := .none }) hQ (hD.push hP rfl (hA _ hS.1)) ⟨Nat.le_trans hS.1 (by rw [Array.size_push]; omega), fun x h1 h2 => (o1 x (Nat.lt_of_lt_of_le h1 hS.1)).trans (hS.2.1 x h1 h2), hS.2.2⟩ ((T.setVm v1).pushCell { cls := cG, slots := Array.replicate n.toNatClampNeg .null, vm := .none }) rfl X2
  exact ⟨t', st t' a1, b1⟩
/-- beside the Mill's world: the law's own rows of numbers -/
def tX (cI : ClassId) (ta : Nat) (σ : FS) : va_W := [(ta, .inl (cI, 10, .inl (σ.1 90)))]
def pX (cI : ClassId) (ta pa pn : Nat) (σ : FS) : va_W := [(ta, .inl (cI, 10, .inl (σ.1 90))), (pa, .inl (cI, pn, .inl (σ.1 91)))]
def lW1 (o : Nat) (u : Nat → Nat) (cI cZ cJ : ClassId) (ta T : Nat) (ga : SG) (σ : FS) : va_W := mW o u cI cZ cJ T ga σ ++ tX cI ta σ
def lW2 (o : Nat) (u : Nat → Nat) (cI cZ cJ : ClassId) (ta pa pn T : Nat) (ga : SG) (σ : FS) : va_W := mW o u cI cZ cJ T ga σ ++ pX cI ta pa pn σ
/-- Mill's cells of one state, the law's own of another -/
def mrm (τ σ : FS) : FS := (fun a j => if a < 90 then τ.1 a j else σ.1 a j, τ.2)
variable {o : Nat} {u : Nat → Nat} {cI cZ cJ : ClassId} {ta pa pn T : Nat} {σ τ : FS}
theorem lW1_mill : lW1 o u cI cZ cJ ta T ga σ = mG o u ga σ ++ (cW o u cI cZ cJ T σ ++ (mN u cJ σ ++ tX cI ta σ)) := rfl
theorem lW2_mill : lW2 o u cI cZ cJ ta pa pn T ga σ = mG o u ga σ ++ (cW o u cI cZ cJ T σ ++ (mN u cJ σ ++ pX cI ta pa pn σ)) := rfl
theorem lW1_c : mG o u ga σ ++ (cW o u cI cZ cJ T τ ++ (mN u cJ σ ++ tX cI ta σ)) = lW1 o u cI cZ cJ ta T ga (mrg τ σ) := rfl
theorem lW2_c : mG o u ga σ ++ (cW o u cI cZ cJ T τ ++ (mN u cJ σ ++ pX cI ta pa pn σ)) = lW2 o u cI cZ cJ ta pa pn T ga (mrg τ σ) := rfl
theorem lW2_m : mW o u cI cZ cJ T ga τ ++ pX cI ta pa pn σ = lW2 o u cI cZ cJ ta pa pn T ga (mrm τ σ) := rfl
theorem lW1_m : mW o u cI cZ cJ T ga τ ++ tX cI ta σ = lW1 o u cI cZ cJ ta T ga (mrm τ σ) := rfl
theorem lW1_90 : (lW1 o u cI cZ cJ ta T ga σ)[90]? = some (ta, .inl (cI, 10, .inl (σ.1 90))) := rfl
theorem lW2_90 : (lW2 o u cI cZ cJ ta pa pn T ga σ)[90]? = some (ta, .inl (cI, 10, .inl (σ.1 90))) := rfl
theorem lW2_91 : (lW2 o u cI cZ cJ ta pa pn T ga σ)[91]? = some (pa, .inl (cI, pn, .inl (σ.1 91))) := rfl
theorem lW1_0 : (lW1 o u cI cZ cJ ta T ga σ)[0]? = some (u 87, .inr (9, [.ref o, .ref ga.1, .int (σ.1 88 2), .int (σ.1 88 3), .ref (u 88), .ref (u 89), .ref (u 90), .int (σ.1 88 7), .int (σ.1 88 8), .int (σ.1 88 9), .int (σ.1 88 10), .int (σ.1 88 11), .ref (u 91), .ref (u 92)])) := rfl
theorem lW2_0 : (lW2 o u cI cZ cJ ta pa pn T ga σ)[0]? = some (u 87, .inr (9, [.ref o, .ref ga.1, .int (σ.1 88 2), .int (σ.1 88 3), .ref (u 88), .ref (u 89), .ref (u 90), .int (σ.1 88 7), .int (σ.1 88 8), .int (σ.1 88 9), .int (σ.1 88 10), .int (σ.1 88 11), .ref (u 91), .ref (u 92)])) := rfl
theorem lWa_90 {i : Nat} {v : Int32} : (lW1 o u cI cZ cJ ta T ga σ).set 90 (ta, .inl (cI, 10, .inl (upd (σ.1 90) i v))) = lW1 o u cI cZ cJ ta T ga (sF σ 90 i v) := by rw [upd_sF]; rfl
theorem lWa_91 {i : Nat} {v : Int32} : (lW2 o u cI cZ cJ ta pa pn T ga σ).set 91 (pa, .inl (cI, pn, .inl (upd (σ.1 91) i v))) = lW2 o u cI cZ cJ ta pa pn T ga (sF σ 91 i v) := by rw [upd_sF]; rfl
theorem lWn_90 : mW o u cI cZ cJ T ga σ ++ [(ta, .inl (cI, 10, .inl (fun _ => 0)))] = lW1 o u cI cZ cJ ta T ga (sC σ 90 0) := rfl
theorem lWn_91 : lW1 o u cI cZ cJ ta T ga σ ++ [(pa, .inl (cI, pn, .inl (fun _ => 0)))] = lW2 o u cI cZ cJ ta pa pn T ga (sC σ 91 0) := rfl
/-- the fresh world -/
theorem xT_z0 {d : Int32} : (o, (.inr (8, xF u) : va_E)) :: xT u cI cZ cJ = cW o u cI cZ cJ 75 (z0 d) := rfl
end LR
