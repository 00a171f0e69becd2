/-! The law: rows of its own: the script, calls that throw and are caught, methods with an exception table. -/
def th_Y : List Cond := [Cond.not (Cond.castable "java/lang/IllegalStateException" "java/lang/IllegalArgumentException"), Cond.not (Cond.castable "java/lang/UnsupportedOperationException" "java/lang/IllegalArgumentException"), Cond.not (Cond.castable "java/lang/IllegalStateException" "java/lang/UnsupportedOperationException")]
def ps_Y (U : State) : Prop := ∀ (U' : State) (a : Array Value), U.WarmedH U'.vm → ∀ w ∈ th_Y, w.before a U' = true
theorem ps_Y.to {U V : State} (h : ps_Y U) (hW : U.WarmedH V.vm) : ps_Y V := fun U' a g w hw => h U' a (State.WarmedH.trans hW g) w hw
def ps_PW (D : va_G) (ca : Nat → ClassId) (A : Nat → Prop) (adr : Nat → Nat → Nat) (σ : ps_S) (as : List ps_A) : Array Value → State → Prop := fun v U => ps_PT D ca A adr σ as v U ∧ ps_Y U
theorem ps_PW.blind {D : va_G} {ca : Nat → ClassId} {A : Nat → Prop} {adr : Nat → Nat → Nat} {σ : ps_S} {as : List ps_A} : FrameBlind (ps_PW D ca A adr σ as) := by
  intro a U g mk h
  exact ⟨ps_PT.blind a U g mk h.1, h.2.to (State.WarmedH.refl U)⟩
def x4 (h : ExceptionTableEntry) : Nat × Nat × Nat × Nat := (h.startPc, h.endPc, h.handlerPc, h.catchType)
/-- the contract of a method with an exception table -/
abbrev ps_MW (l : Launch) (y : MethodName) (cc : ByteArray) (maxL : Nat) (ret : Option FieldType) (hh : List (Nat × Nat × Nat × Nat)) (rm : Room) (D : va_G) (ca : Nat → ClassId) (A : Nat → Prop) (adr : Nat → Nat → Nat) (σ : ps_S) (as : List ps_A) (Qf : Option ps_A → ps_S → Prop) : Prop :=
  Met l y [Cond.codeWith y cc maxL ret hh] rm (ps_PW D ca A adr σ as) (ps_Qc D ca A adr σ Qf) rm.cells rm.slots A
theorem ps_MW.of {l : Launch} {y : MethodName} {cc : ByteArray} {maxL : Nat} {ret : Option FieldType} {hh : List (Nat × Nat × Nat × Nat)} {rm : Room} {D : va_G} {ca : Nat → ClassId} {A : Nat → Prop} {adr : Nat → Nat → Nat} {σ : ps_S} {as : List ps_A} {Qf : Option ps_A → ps_S → Prop}
    (hy : plainName y.cls = true) (hlen : ps_len as ≤ maxL)
    (body : ∀ (p : Program) (e : Env) (s : State) (m : MethodId) (args : Array Value) (below : List Frame) (meth : Method) (c : Code), ps_E p s m c cc maxL y.cls D ca → meth.sig.returnType = ret → meth.locks = false → c.exceptionTable.toList.map x4 = hh → ps_Z A s → ps_Y s →
      ps_V p l e rm s m args below meth c maxL D ca A s.heap adr σ (MQ below (ps_Qc D ca A adr σ Qf) args s rm.cells rm.slots A) 0 (ps_as 0 as) [] σ 0 0) : ps_MW l y cc maxL ret hh rm D ca A adr σ as Qf := by
  refine va_MetW (cc := cc) (maxL := maxL) (ret := ret) (hh := hh) hy rfl ?_
  intro p e s m args below meth c s₁ B hml hv
  obtain ⟨⟨⟨rfl, hok, hW, hG, hA⟩, hZ⟩, hYs⟩ := hv
  have hE : ps_E p s m c cc maxL y.cls D ca := ⟨B.exec, B.bytes, hml, findClass_of_methodNamed B.named, hG⟩
  have hl := lv_entry (as.map (ps_v adr)) (n := maxL) (by rw [ps_len_v]; exact hlen)
  have hex : c.exceptionTable.toList.map x4 = hh := by
    obtain ⟨m', meth', c', hn', h1, h2, h3, h4, h5, h6, h7, -⟩ := Cond.codeWith_spec (atoms_spec (ws := [Cond.codeWith y cc maxL ret hh]) B.pre _ List.mem_cons_self)
    have e0 := B.named
    rw [hn'] at e0
    cases e0
    have Xs := Stand.of_body B
    have e1 := Xs.method
    have e2 := Xs.code
    rw [h1] at e1
    cases e1
    rw [h2] at e2
    cases e2
    exact h5
  rw [lg_entry_eq]
  exact body p e s m _ below meth c hE B.returns B.notSynchronized hex hZ hYs adr s.heap [] _ ⟨hW, va_S.rf, hA, fun _ _ _ => rfl, fun _ => Nat.le_refl _⟩ (fun a h => by cases h) (ps_as_ok as 0 hok) (by rw [ps_as_map]; exact hl)
theorem x4_split : ∀ {l : List ExceptionTableEntry} {hp hr : List (Nat × Nat × Nat × Nat)} {q : Nat × Nat × Nat × Nat}, l.map x4 = hp ++ q :: hr → ∃ pre x rs, l = pre ++ x :: rs ∧ pre.map x4 = hp ∧ x4 x = q
  | [], [], hr, q, h => by cases h
  | [], _ :: _, hr, q, h => by cases h
  | a :: l, [], hr, q, h => by
    have h' := List.cons.inj h
    exact ⟨[], a, l, rfl, rfl, h'.1⟩
  | a :: l, z :: hp, hr, q, h => by
    have h' := List.cons.inj h
    obtain ⟨pre, x, rs, e1, e2, e3⟩ := x4_split h'.2
    exact ⟨a :: pre, x, rs, by rw [e1]; rfl, by rw [List.map_cons, e2, h'.1], e3⟩
section PSL
variable {p : Program} {l : Launch} {e : Env} {R : Room} {s : State} {m : MethodId} {args : Array Value} {below : List Frame} {meth : Method} {c : Code} {nL : Nat} {D : va_G} {ca : Nat → ClassId} {A : Nat → Prop} {H0 : Heap} {adr0 : Nat → Nat → Nat} {σ0 : ps_S} {Q : State → Prop}
variable {cc : ByteArray} {own : String} {pc : Nat} {L : List (Nat × ps_A)} {st : List ps_A} {σ : ps_S} {ce sl : Nat}
theorem pv_aloadR (E : ps_E p s m c cc nL own D ca) {k : Fin 4} {i b : Nat} (hd : decode cc pc = .ok (.aload_n k, 1)) (hi : (k : Nat) = i) (hl : L.lookup i = some (ps_raw b))
    (kk : ps_V p l e R s m args below meth c nL D ca A H0 adr0 σ0 Q (pc + 1) L (ps_raw b :: st) σ ce sl) : ps_V p l e R s m args below meth c nL D ca A H0 adr0 σ0 Q pc L st σ ce sl := by
  intro adr H locs ls hB hs hL hls
  exact lv_aload_n E.1 E.2.1 hd hi (ps_lk hls hl) (kk adr H locs ls hB (ps_cn trivial hs) hL hls)
theorem pv_astoreR_n (E : ps_E p s m c cc nL own D ca) {k : Fin 4} {i b : Nat} (hd : decode cc pc = .ok (.astore_n k, 1)) (hi : (k : Nat) = i) (hn : i < nL)
    (kk : ps_V p l e R s m args below meth c nL D ca A H0 adr0 σ0 Q (pc + 1) (ps_ls L i (ps_raw b)) st σ ce sl) : ps_V p l e R s m args below meth c nL D ca A H0 adr0 σ0 Q pc L (ps_raw b :: st) σ ce sl := by
  intro adr H locs ls hB hs hL hls
  exact lv_astore_n E.1 E.2.1 hd hi hls hn (ps_ls_map adr L i (ps_raw b)) (fun ls' h' => kk adr H locs ls' hB (ps_tl hs) (ps_ls_ok hL trivial) h')
theorem pv_astoreR (E : ps_E p s m c cc nL own D ca) {i b : Nat} (hd : decode cc pc = .ok (.astore i, 2)) (hn : i < nL)
    (kk : ps_V p l e R s m args below meth c nL D ca A H0 adr0 σ0 Q (pc + 2) (ps_ls L i (ps_raw b)) st σ ce sl) : ps_V p l e R s m args below meth c nL D ca A H0 adr0 σ0 Q pc L (ps_raw b :: st) σ ce sl := by
  intro adr H locs ls hB hs hL hls
  exact lv_astore E.1 E.2.1 hd hls hn (ps_ls_map adr L i (ps_raw b)) (fun ls' h' => kk adr H locs ls' hB (ps_tl hs) (ps_ls_ok hL trivial) h')
theorem pv_sld (E : ps_E p s m c cc nL own D ca) {b n : Nat} {xs : Nat → Int32} (hX : va_X b n xs s H0) (hbl : b < H0.size) (hbA : ¬ A b) {i : Int32} (hin : vp_in i n) (hd : decode cc pc = .ok (.iaload, 1))
    (kk : ps_V p l e R s m args below meth c nL D ca A H0 adr0 σ0 Q (pc + 1) L (ps_int (xs i.toNatClampNeg) :: st) σ ce sl) : ps_V p l e R s m args below meth c nL D ca A H0 adr0 σ0 Q pc L (ps_int i :: ps_raw b :: st) σ ce sl := by
  intro adr H locs ls hB hs hL hls
  exact va_sld E.1 E.2.1 hX hbl hbA hB.2.1 hin hd (kk adr H locs ls hB (ps_cn trivial (ps_tl (ps_tl hs))) hL hls)
theorem pv_slen (E : ps_E p s m c cc nL own D ca) {b n : Nat} {xs : Nat → Int32} (hX : va_X b n xs s H0) (hbl : b < H0.size) (hbA : ¬ A b) (hd : decode cc pc = .ok (.arraylength, 1))
    (kk : ps_V p l e R s m args below meth c nL D ca A H0 adr0 σ0 Q (pc + 1) L (ps_int (Int32.ofNat n) :: st) σ ce sl) : ps_V p l e R s m args below meth c nL D ca A H0 adr0 σ0 Q pc L (ps_raw b :: st) σ ce sl := by
  intro adr H locs ls hB hs hL hls
  exact va_slen E.1 E.2.1 hX hbl hbA hB.2.1 hd (kk adr H locs ls hB (ps_cn trivial (ps_tl hs)) hL hls)
/-- a call of a static method that has an exception table -/
theorem va_runSW {y : MethodName} {bytes cc : ByteArray} {maxL nL n index : Nat} {ret : Option FieldType} {hh : List (Nat × Nat × Nat × Nat)} {rm : Room} {Pc : Array Value → State → Prop} {Qc : Array Value → State → Outcome → State → Prop} {free : Addr → Prop} {own : String} {As rest : List Value} {g : JFrame} {H : Heap} {locs : List Loc} {cells slots : Nat}
    (hx : p.tables.exec = Jvm.exec) (hb : c.code = cc) (hml : c.maxLocals = nL) (ho : s.vm.findClass own = some m.cls)
    (hM : Met l y [Cond.codeWith y bytes maxL ret hh] rm Pc Qc rm.cells rm.slots free) (hbl : FrameBlind Pc) (hR : rm.frames + 1 ≤ R.frames ∧ 8 + (maxL + 11) + rm.locals ≤ R.locals)
    (hcw : ∀ (a' : Array Value) (U : State), s.WarmedH U.vm → (Cond.codeWith y bytes maxL ret hh).before a' U = true) (hini : ∀ (a' : Array Value) (U : State), s.WarmedH U.vm → (Cond.initialized y.cls).before a' U = true)
    (hl : (Cond.methodLink own index y).before args s = true) (hst : (Cond.static y).before args s = true) (hy : y.cls ≠ "java/lang/invoke/MethodHandle" ∧ y.cls ≠ "java/lang/invoke/VarHandle") (hlen : ∀ sig, parseMethodDescriptor y.desc = some sig → n = sig.parameters.length)
    (hPc : ∀ U : State, U.heap = H → s.WarmedH U.vm → Pc As.toArray U)
    (hg : g.method = m) (hn : As.length = n) (hsize : g.locals.size = nL) (hstack : g.stack = As.reverse ++ rest) (hW : 2 * g.monitorRoom + (rest.map fun v => v.category).sum ≤ 8) (hdg : decode cc g.pc = .ok (.invokestatic index, 3)) (hf : cells + rm.cells ≤ R.cells ∧ slots + rm.slots ≤ R.slots) :
    va_Run p l e R s m args below meth c H locs cells slots rm.cells rm.slots g rest (Qc As.toArray) free := by
  have hK : Back l R p e below s args y 3 8 (PreOf R rm.cells rm.slots Pc) (PostOf Qc rm.cells rm.slots free) := va_backW (hh := hh) (bytes := bytes) (maxL := maxL) (ret := ret) hM hbl rfl rfl hR.1 hR.2 (fun w hw a' U hW => by rw [List.mem_singleton] at hw; subst hw; exact hcw a' U hW) List.mem_cons_self hini
  intro T hT X
  obtain ⟨mk, methM, cM, hnamed, hmethM, -, -, -, -, -, -, hsigM⟩ := Cond.codeWith_spec (hcw args s (State.WarmedH.refl s))
  have hstatic : methM.isStatic = true := Cond.static_spec hnamed hmethM hst
  obtain ⟨kP, hkP, -⟩ := className_of_methodNamed hnamed
  have hinitP : kP.init = .initialized := Cond.initialized_spec (findClass_of_methodNamed hnamed) hkP (hini args s (State.WarmedH.refl s))
  obtain ⟨vm₁, X₁, hstep₁⟩ := X.invokestatic hx ho hl hnamed hmethM hstatic hkP hinitP hy (g := g) hg (argsL := As) (rest := rest) (hn.trans (hlen _ hsigM)) hstack (by rw [hb]; exact hdg)
  obtain ⟨v, ⟨U', l2, c2, s2⟩, X', ⟨g', mk', t, Lc, e1, e2, hq, h1, hL, h2, h3⟩, hsteps⟩ := hK m meth c ⟨T.setVm vm₁, locs, cells, slots⟩ { g with stack := rest } (.invokestatic index) mk As.toArray X₁ hg (hsize.trans hml.symm) (by rw [hb]; exact hdg) hW (X₁.named hnamed) ⟨hf.1, hf.2, hPc (T.setVm vm₁) hT X₁.warmed⟩
  dsimp only [Pt.U, Pt.locs, Pt.cells, Pt.slots] at X' e1 e2 h1 h2 h3 hsteps
  subst h1; subst h2; subst h3
  exact ⟨v, (T.setVm vm₁).calling g' mk' As.toArray, t, U', Lc, hT, X', hL, e1, e2, hq, fun target h => hstep₁ _ fun acts => by rw [doInvoke_state]; exact hsteps.trans h⟩
theorem pv_callSW (E : ps_E p s m c cc nL own D ca) (hH : H0 = s.heap) (hZ : ps_Z A s) (hYs : ps_Y s) {y : MethodName} {bytes : ByteArray} {maxL : Nat} {ret : Option FieldType} {hh : List (Nat × Nat × Nat × Nat)} {rm : Room} {index n : Nat} {as rest stk : List ps_A} {Qf : Option ps_A → ps_S → Prop}
    (hM : ∀ adr, ps_MW l y bytes maxL ret hh rm D ca A adr σ as Qf) (y1 : Cond.codeWith y bytes maxL ret hh ∈ ps_T) (y2 : Cond.initialized y.cls ∈ ps_T) (y3 : Cond.static y ∈ ps_T) (w1 : Cond.methodLink own index y ∈ ps_T)
    (y5 : y.cls ≠ "java/lang/invoke/MethodHandle") (y6 : y.cls ≠ "java/lang/invoke/VarHandle") (y7 : (parseMethodDescriptor y.desc).map (fun d => d.parameters.length) = some n)
    (hst : stk = as.reverse ++ rest) (hn : as.length = n) (hR : rm.frames + 1 ≤ R.frames ∧ 8 + (maxL + 11) + rm.locals ≤ R.locals) (hro : (rest.map ps_cat).sum ≤ 8)
    (hd : decode cc pc = .ok (.invokestatic index, 3)) (hf : ce + rm.cells ≤ R.cells ∧ sl + rm.slots ≤ R.slots)
    (kk : ∀ (r : Option ps_A) (σ' : ps_S), Qf r σ' → ps_V p l e R s m args below meth c nL D ca A H0 adr0 σ0 Q (pc + 3) L (r.toList ++ rest) σ' (ce + rm.cells) (sl + rm.slots)) : ps_V p l e R s m args below meth c nL D ca A H0 adr0 σ0 Q pc L stk σ ce sl := by
  subst hst
  refine pv_run (av := fun adr => (as.map (ps_v adr)).toArray) (fun adr H locs ls hB hs hsz => ?_) ps_rest kk
  have ht := E.2.2.2.2.words args
  have hwm : ∀ w ∈ ps_T, ∀ (a' : Array Value) (U : State), s.WarmedH U.vm → w.before a' U = true := fun w hw a' U hW => (E.2.2.2.2.warm hW).words a' w hw
  refine va_runSW (As := as.map (ps_v adr)) E.1 E.2.1 E.2.2.1 E.2.2.2.1 (hM adr) ps_PW.blind hR (hwm _ y1) (hwm _ y2) (ht _ w1) (ht _ y3) ⟨y5, y6⟩ (fun sig h => by rw [h] at y7; exact (Option.some.inj y7).symm) (fun U hU hW => ?_) rfl (by rw [List.length_map]; exact hn) hsz ?_ (ps_room hro) hd hf
  · have hS := hB.2.1
    refine ⟨⟨⟨rfl, fun a ha => hs a (List.mem_append_left _ (List.mem_reverse.mpr ha)), by rw [hU]; exact hB.1, E.2.2.2.2.warm hW, fun q hq => hB.2.2.1 q (Nat.le_trans hS.1 (by rw [hU] at hq; exact hq))⟩, hZ.to hW ?_ ?_⟩, hYs.to hW⟩
    · rw [hU, ← hH]; exact hS.1
    · intro q hq hnA
      rw [hU, ← hH]
      exact hS.2.1 q (by rw [hH]; exact hq) hnA
  · show (as.reverse ++ rest).map (ps_v adr) = _
    rw [List.map_append, List.map_reverse]
/-- a call that throws, caught in the method itself -/
theorem pv_callVT (E : ps_E p s m c cc nL own D ca) (hH : H0 = s.heap) (hZ : ps_Z A s) {y : MethodName} {bytes : ByteArray} {maxL : Nat} {ret : Option FieldType} {rm : Room} {index ci n : Nat} {T : u_T} {N : Nat} {κ i : Nat} {as rest stk : List ps_A} {X nm : String} {hp hr : List (Nat × Nat × Nat × Nat)} {q : Nat × Nat × Nat × Nat}
    (hM : ∀ adr, ps_MT l y bytes maxL ret rm D ca A adr σ (ps_ref (some (κ, i)) :: as) X) (hY : ps_YV y bytes maxL ret n) (w1 : Cond.methodLink own index y ∈ ps_T)
    (hst : stk = as.reverse ++ ps_ref (some (κ, i)) :: rest) (hn : as.length = n) (hF : ∀ adr, ∃ fs, ps_cell ca adr σ κ i = .inr (ci, fs)) (hc : ps_cl[ci]? = some (y.cls, T, N)) (hR : rm.frames + 1 ≤ R.frames ∧ 8 + (maxL + 11) + rm.locals ≤ R.locals) (hro : (rest.map ps_cat).sum ≤ 8)
    (hd : decode cc pc = .ok (.invokevirtual index, 3)) (hf : ce + rm.cells ≤ R.cells ∧ sl + rm.slots ≤ R.slots)
    (htab : c.exceptionTable.toList.map x4 = hp ++ q :: hr) (hpass : ∀ z ∈ hp, z.2.2.2 ≠ 0 ∧ ∃ n2, Cond.classLink own z.2.2.2 n2 ∈ ps_T ∧ (Cond.not (Cond.castable X n2)).before args s = true)
    (hcov : q.1 ≤ pc ∧ pc < q.2.1) (h0 : q.2.2.2 ≠ 0) (hlink : Cond.classLink own q.2.2.2 nm ∈ ps_T) (hcast : (Cond.castable X nm).before args s = true)
    (kk : ∀ a, ps_V p l e R s m args below meth c nL D ca A H0 adr0 σ0 Q q.2.2.1 L [ps_raw a] σ (ce + rm.cells) (sl + rm.slots)) : ps_V p l e R s m args below meth c nL D ca A H0 adr0 σ0 Q pc L stk σ ce sl := by
  subst hst
  intro adr H locs ls hB hs hL hls T0 hT0 Xs
  obtain ⟨y1, y2, y3, y4, y5, y6, y7⟩ := hY
  have hi : i < ps_N σ κ := hs _ (List.mem_append_right _ List.mem_cons_self)
  have ht := E.2.2.2.2.words args
  have hS := hB.2.1
  obtain ⟨fs, hfs⟩ := hF adr
  obtain ⟨k0, hk0⟩ := ps_ws_get (ca := ca) (adr := adr) hi (hB.1.1 κ i hi).1
  rw [hfs] at hk0
  obtain ⟨cellB, hcB, hoB, hclB⟩ := va_recv E.2.2.2.2.2 hB.1.P hc hk0
  let Pre : Pt → Array Value → Prop := PreOf R rm.cells rm.slots (ps_PT D ca A adr σ (ps_ref (some (κ, i)) :: as))
  let Post : Pt → Array Value → Addr → Pt → Prop := fun A' a v B => ∃ (g : JFrame) (mk : MethodId) (t : State) (Lc : List Loc), ps_QT D ca A adr σ X a (A'.U.calling g mk a) (.threw v) t ∧ B = ⟨(({ A'.U with heap := t.heap, slotsUsed := t.slotsUsed } : State).setVm t.vm), A'.locs ++ Lc, A'.cells + rm.cells, A'.slots + rm.slots⟩ ∧ ∀ x ∈ Lc, A x.base
  have hK : Jvm.Free.BackT l R p e below s args y 3 8 Pre Post := by
    refine Jvm.Free.BackT.of_free (S := headSpec [Cond.code y bytes maxL ret] rm) (bytes := bytes) (maxL := maxL) (ret := ret) (E := fun a st o t L k n => k = rm.cells ∧ n = rm.slots ∧ ∀ x ∈ L, A x.base) (hM adr) hR.1 hR.2 ?_ ?_ (fun _ _ _ _ _ _ _ _ _ => trivial) ?_ ?_
    · intro m' meth' c' A' a X' hp'
      have hG' := E.2.2.2.2.warm X'.warmed
      exact ⟨atoms_intro fun w hw => by rw [List.mem_singleton] at hw; subst hw; exact hG'.words a _ y1, hG'.words a _ y1, hG'.words a _ y2, hp'.1, hp'.2.1⟩
    · intro m' meth' c' A' a g mk X' hp'
      exact ps_PT.blind _ _ _ _ hp'.2.2
    · intro a first o t hq
      obtain ⟨h1, LL, h2, h3⟩ := hq
      exact ⟨LL, rm.cells, rm.slots, h2, rfl, rfl, h3⟩
    · intro m' meth' c' A' a g mk v t LL k n' X' hp' hq hF' hE'
      obtain ⟨e1, e2, h3⟩ := hE'
      subst e1; subst e2
      exact ⟨g, mk, t, LL, hq.1, rfl, h3⟩
  obtain ⟨mk, methM, hnamed, hmethM, hstM, habM⟩ := Cond.instanceMethod_spec (ht _ y3)
  obtain ⟨methM', cM, hmethM', -, -, -, -, -, -, hsigM⟩ := Cond.code_spec hnamed (ht _ y1)
  cases hmethM.symm.trans hmethM'
  obtain ⟨c2, r2, m2, q1, q2, q3, q4, kP, hkP, hkPi⟩ := Cond.selects_spec (ht _ y4)
  cases hclB.symm.trans q1
  cases (State.methodFound?_of_named hnamed ⟨y5, y6⟩).symm.trans q2
  cases hnamed.symm.trans q3
  have hselP : selectMethod e.platform s.vm cellB.cls mk = .method mk := by rw [Launch.admits_selectMethod Xs.admits]; exact q4
  have hlen : (as.map (ps_v adr)).length = methM.sig.parameters.length := by
    rw [List.length_map, hn]
    rw [hsigM] at y7
    exact (Option.some.inj y7).symm
  have hstack : (as.reverse ++ ps_ref (some (κ, i)) :: rest).map (ps_v adr) = (as.map (ps_v adr)).reverse ++ .ref (adr κ i) :: rest.map (ps_v adr) := by
    rw [List.map_append, List.map_reverse]
    rfl
  obtain ⟨vm₁, X₁, hstep₁⟩ := Xs.invokevirtual E.1 E.2.2.2.1 (ht _ w1) hnamed hmethM hstM hkP hkPi ⟨y5, y6⟩ (a := adr κ i) (cell := cellB) (by rw [hT0]; exact hcB)
    (fun z h => by rw [h] at hoB; cases hoB) hselP hmethM habM hkP hkPi (g := F0 m pc ls ((as.reverse ++ ps_ref (some (κ, i)) :: rest).map (ps_v adr))) rfl (argsL := as.map (ps_v adr)) (rest := rest.map (ps_v adr)) hlen hstack (by rw [E.2.1]; exact hd)
  have hpre : Pre ⟨T0.setVm vm₁, locs, ce, sl⟩ (Value.ref (adr κ i) :: as.map (ps_v adr)).toArray := by
    refine ⟨hf.1, hf.2, ⟨rfl, fun a ha => hs a ?_, by show ps_W D ca adr A σ T0.heap; rw [hT0]; exact hB.1, E.2.2.2.2.warm X₁.warmed, fun x hx => hB.2.2.1 x (Nat.le_trans hS.1 (by rw [← hT0]; exact hx))⟩, hZ.to X₁.warmed ?_ ?_⟩
    · rcases List.mem_cons.mp ha with rfl | h
      · exact List.mem_append_right _ List.mem_cons_self
      · exact List.mem_append_left _ (List.mem_reverse.mpr h)
    · show s.heap.size ≤ T0.heap.size
      rw [hT0, ← hH]; exact hS.1
    · intro x hx hnA
      show T0.heap[x]? = s.heap[x]?
      rw [hT0, ← hH]
      exact hS.2.1 x (by rw [hH]; exact hx) hnA
  obtain ⟨v, B, X', ⟨g', mk', t, Lc, ⟨a9, cell, qo, qsz, qcell, qvm, qfc, qW, qF⟩, hBeq, hLc⟩, hsteps⟩ := hK m meth c ⟨T0.setVm vm₁, locs, ce, sl⟩ (F0 m pc ls (rest.map (ps_v adr))) (.invokevirtual index) mk (Value.ref (adr κ i) :: as.map (ps_v adr)).toArray X₁ rfl (hls.1.trans E.2.2.1.symm) (by rw [E.2.1]; exact hd) (ps_room hro) (X₁.named hnamed) hpre
  cases qo
  subst hBeq
  dsimp only [Pt.U, Pt.locs, Pt.cells, Pt.slots] at X' hsteps
  have hfX : s.vm.findClass X = some cell.cls := by
    have h9 : vm₁.findClass X = some cell.cls := qfc
    rw [← h9]
    exact (X₁.warmed.alike.findClass X none).symm
  obtain ⟨c3, cT, hc3, hcT, hasg⟩ := Cond.castable_spec hcast
  cases hfX.symm.trans hc3
  obtain ⟨pre, x, rs, hsplit, hpe, hxe⟩ := x4_split htab
  subst hxe
  have hpl : e.platform.magicAccessors = ({} : Platform).magicAccessors := by rw [Xs.admits.platform]
  obtain ⟨hend, hkk⟩ := X'.catches_of_link E.2.2.2.1 (x := x) h0 (ht _ hlink) hcT hasg
  have hps : ∀ z ∈ pre, RowPassed e.platform s m.cls pc cell.cls z := by
    intro z hz
    obtain ⟨z0, n2, zl, zn⟩ := hpass (x4 z) (by rw [← hpe]; exact List.mem_map.mpr ⟨z, hz, rfl⟩)
    exact RowPassed.of_words hpl E.2.2.2.1 z0 (ht _ zl) hfX zn
  have hcome : Steps p.tables e below (T0.setTop (F0 m pc ls ((as.reverse ++ ps_ref (some (κ, i)) :: rest).map (ps_v adr)))) (((({ T0.setVm vm₁ with heap := t.heap, slotsUsed := t.slotsUsed } : State).setVm t.vm).setTop (F0 m pc ls (rest.map (ps_v adr)))).pushFrame (.throwing v)) := hstep₁ _ fun acts => by rw [doInvoke_state]; exact hsteps
  obtain ⟨vm', XV, hst2⟩ := X'.thenCaughtThrough v (g := F0 m pc ls (rest.map (ps_v adr))) rfl hcome (cell := cell) qcell (by rw [qvm]; rfl) hkk pre x rs hsplit hps (by show (decide (x.startPc ≤ pc) && decide (pc < x.endPc)) = true; rw [decide_eq_true (show x.startPc ≤ pc from hcov.1), decide_eq_true (show pc < x.endPc from hcov.2)]; rfl) hend
  have hB' : ps_B D ca A H0 adr0 σ0 adr σ t.heap (locs ++ Lc) := by
    refine ⟨qW, ⟨?_, fun z h1 h2 => ?_, fun z hz => ?_⟩, hB.2.2.1, hB.2.2.2.1, hB.2.2.2.2⟩
    · refine Nat.le_trans hS.1 ?_
      have := qF.1
      rw [← hT0]
      exact this
    · have h3 := qF.2 z (by show z < T0.heap.size; rw [hT0]; exact Nat.lt_of_lt_of_le h1 hS.1) h2
      rw [h3]
      show T0.heap[z]? = _
      rw [hT0]
      exact hS.2.1 z h1 h2
    · rcases List.mem_append.mp hz with h | h
      · exact hS.2.2 z h
      · exact hLc z h
  obtain ⟨t2, a1, b1⟩ := kk v adr t.heap (locs ++ Lc) ls hB' (ps_cn trivial (fun a h => by cases h)) hL hls (((({ T0.setVm vm₁ with heap := t.heap, slotsUsed := t.slotsUsed } : State).setVm t.vm).setVm vm')) rfl XV
  exact ⟨t2, hst2.trans a1, b1⟩
end PSL
