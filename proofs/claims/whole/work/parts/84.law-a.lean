/-! The law: rows of its own: the script, calls that throw and are caught, methods with an exception table. -/
def th_Y : List Cond := [Cond.not (Cond.castable "java/lang/IllegalStateException" "java/lang/IllegalArgumentException"), Cond.not (Cond.castable "java/lang/UnsupportedOperationException" "java/lang/IllegalArgumentException"), Cond.not (Cond.castable "java/lang/IllegalStateException" "java/lang/UnsupportedOperationException")]
def ps_Y (U : State) : Prop := ∀ (U' : State) (a : Array Value), U.WarmedH U'.vm → ∀ w ∈ th_Y, w.before a U' = true
theorem ps_Y.to {U V : State} (h : ps_Y U) (hW : U.WarmedH V.vm) : ps_Y V := fun U' a g w hw => h U' a (State.WarmedH.trans hW g) w hw
def ps_PW (D : va_G) (ca : Nat → ClassId) (A : Nat → Prop) (adr : Nat → Nat → Nat) (σ : ps_S) (as : List ps_A) : Array Value → State → Prop := fun v U => ps_PT D ca A adr σ as v U ∧ ps_Y U
theorem ps_PW.blind {D : va_G} {ca : Nat → ClassId} {A : Nat → Prop} {adr : Nat → Nat → Nat} {σ : ps_S} {as : List ps_A} : FrameBlind (ps_PW D ca A adr σ as) := by
  intro a U g mk h
  exact ⟨ps_PT.blind a U g mk h.1, h.2.to (State.WarmedH.refl U)⟩
def x4 (h : ExceptionTableEntry) : Nat × Nat × Nat × Nat := (h.startPc, h.endPc, h.handlerPc, h.catchType)
/-- the contract of a method with an exception table -/
abbrev ps_MW (l : Launch) (y : MethodName) (cc : ByteArray) (maxL : Nat) (ret : Option FieldType) (hh : List (Nat × Nat × Nat × Nat)) (rm : Room) (D : va_G) (ca : Nat → ClassId) (A : Nat → Prop) (adr : Nat → Nat → Nat) (σ : ps_S) (as : List ps_A) (Qf : Option ps_A → ps_S → Prop) : Prop :=
  Met l y [Cond.codeWith y cc maxL ret hh] rm (ps_PW D ca A adr σ as) (ps_Qc D ca A adr σ Qf) rm.cells rm.slots A
theorem ps_MW.of {l : Launch} {y : MethodName} {cc : ByteArray} {maxL : Nat} {ret : Option FieldType} {hh : List (Nat × Nat × Nat × Nat)} {rm : Room} {D : va_G} {ca : Nat → ClassId} {A : Nat → Prop} {adr : Nat → Nat → Nat} {σ : ps_S} {as : List ps_A} {Qf : Option ps_A → ps_S → Prop}
    (hy : plainName y.cls = true) (hlen : ps_len as ≤ maxL)
    (body : ∀ (p : Program) (e : Env) (s : State) (m : MethodId) (args : Array Value) (below : List Frame) (meth : Method) (c : Code), ps_E p s m c cc maxL y.cls D ca → meth.sig.returnType = ret → meth.locks = false → c.exceptionTable.toList.map x4 = hh → ps_Z A s → ps_Y s →
      ps_V p l e rm s m args below meth c maxL D ca A s.heap adr σ (MQ below (ps_Qc D ca A adr σ Qf) args s rm.cells rm.slots A) 0 (ps_as 0 as) [] σ 0 0) : ps_MW l y cc maxL ret hh rm D ca A adr σ as Qf := by
  refine va_MetW (cc := cc) (maxL := maxL) (ret := ret) (hh := hh) hy rfl ?_
  intro p e s m args below meth c s₁ B hml hv
  obtain ⟨⟨⟨rfl, hok, hW, hG, hA⟩, hZ⟩, hYs⟩ := hv
  have hE : ps_E p s m c cc maxL y.cls D ca := ⟨B.exec, B.bytes, hml, findClass_of_methodNamed B.named, hG⟩
  have hl := lv_entry (as.map (ps_v adr)) (n := maxL) (by rw [ps_len_v]; exact hlen)
  have hex : c.exceptionTable.toList.map x4 = hh := by
    obtain ⟨m', meth', c', hn', h1, h2, h3, h4, h5, h6, h7, -⟩ := Cond.codeWith_spec (atoms_spec (ws := [Cond.codeWith y cc maxL ret hh]) B.pre _ List.mem_cons_self)
    have e0 := B.named
    rw [hn'] at e0
    cases e0
    have Xs := Stand.of_body B
    have e1 := Xs.method
    have e2 := Xs.code
    rw [h1] at e1
    cases e1
    rw [h2] at e2
    cases e2
    exact h5
  rw [lg_entry_eq]
  exact body p e s m _ below meth c hE B.returns B.notSynchronized hex hZ hYs adr s.heap [] _ ⟨hW, va_S.rf, hA, fun _ _ _ => rfl, fun _ => Nat.le_refl _⟩ (fun a h => by cases h) (ps_as_ok as 0 hok) (by rw [ps_as_map]; exact hl)
theorem x4_split : ∀ {l : List ExceptionTableEntry} {hp hr : List (Nat × Nat × Nat × Nat)} {q : Nat × Nat × Nat × Nat}, l.map x4 = hp ++ q :: hr → ∃ pre x rs, l = pre ++ x :: rs ∧ pre.map x4 = hp ∧ x4 x = q
  | [], [], hr, q, h => by cases h
  | [], _ :: _, hr, q, h => by cases h
  | a :: l, [], hr, q, h => by
    have h' := List.cons.inj h
    exact ⟨[], a, l, rfl, rfl, h'.1⟩
  | a :: l, z :: hp, hr, q, h => by
    have h' := List.cons.inj h
    obtain ⟨pre, x, rs, e1, e2, e3⟩ := x4_split h'.2
    exact ⟨a :: pre, x, rs, by rw [e1]; rfl, by rw [List.map_cons, e2, h'.1], e3⟩
/-- a callee that throws, back at the frame that called it -/
theorem ps_thrown {p : Program} {l : Launch} {e : Env} {R : Room} {s : State} {m : MethodId} {args : Array Value} {below : List Frame} {meth : Method} {c : Code} {U : State} {locs : List Loc} {ce sl : Nat} (Xu : Stand p l e R s m args below meth c U locs ce sl)
    {y : MethodName} {bytes : ByteArray} {maxL : Nat} {ret : Option FieldType} {rm : Room} {D : va_G} {ca : Nat → ClassId} {A : Nat → Prop} {adr : Nat → Nat → Nat} {σ : ps_S} {as : List ps_A} {X : String} (hM : ps_MT l y bytes maxL ret rm D ca A adr σ as X)
    {g : JFrame} {ig : Instr} {len : Nat} {mk : MethodId} {a : Array Value} (hg : g.method = m) (hsz : g.locals.size = c.maxLocals) (hd : decode c.code g.pc = .ok (ig, len)) (hro : 2 * g.monitorRoom + (g.stack.map fun v => v.category).sum ≤ 8)
    (hnm : U.methodNamed? y = some mk) (hR : rm.frames + 1 ≤ R.frames ∧ 8 + (maxL + 11) + rm.locals ≤ R.locals) (hcode : (Cond.code y bytes maxL ret).before a U = true) (hini : (Cond.initialized y.cls).before a U = true) (hfit : ce + rm.cells ≤ R.cells ∧ sl + rm.slots ≤ R.slots) (hP : ps_PT D ca A adr σ as a U) :
    ∃ (v : Addr) (t : State) (Lc : List Loc), ps_QT D ca A adr σ X a (U.calling g mk a) (.threw v) t ∧ (∀ x ∈ Lc, A x.base) ∧ Stand p l e R s m args below meth c (({ U with heap := t.heap, slotsUsed := t.slotsUsed } : State).setVm t.vm) (locs ++ Lc) (ce + rm.cells) (sl + rm.slots) ∧
      Steps p.tables e below (doInvoke e (U.setTop g) [] mk a).1 (((({ U with heap := t.heap, slotsUsed := t.slotsUsed } : State).setVm t.vm).setTop g).pushFrame (.throwing v)) := by
  obtain ⟨my, cy, hmy, hcy, -, hly, -, -, -, -⟩ := Cond.code_spec hnm hcode
  obtain ⟨ky, hky, -⟩ := className_of_methodNamed hnm
  have hin := Cond.initialized_spec (findClass_of_methodNamed hnm) hky hini
  have hat : At U g.method c below := by rw [hg]; exact Xu.here
  have happ : (headSpec [Cond.code y bytes maxL ret] rm).appliesLoose y e.platform (U.calling g mk a) = true :=
    Spec.appliesLoose_calling (g := g) hat hd hnm hky hin (Xu.room_calling (g := g) (R' := rm) hsz hmy hcy hR.1 (by rw [hly]; have := hR.2; omega) hfit.1 hfit.2) (atoms_intro fun w hw => by rw [List.mem_singleton] at hw; subst hw; exact hcode)
  obtain ⟨mid, hmid⟩ := hat.above
  have hfr : (U.setTop g).frames = (.java g :: mid) ++ below := by rw [State.frames_setTop' g hat.top, hmid]; rfl
  obtain ⟨o, t, hst, -, hend, hq0⟩ := Jvm.Free.Steps.callFree hM p Xu.admits Xu.cas Xu.clock (acts := []) hfr happ (ps_PT.blind _ _ _ _ hP) trivial
  obtain ⟨hq, Lc, ⟨⟨v, hov⟩, hWt, hsame⟩, hLc⟩ := hq0
  subst hov
  obtain ⟨g0, hg0⟩ := Option.isSome_iff_exists.mp hat.top
  obtain ⟨r, hr⟩ := State.topJava?_eq_some.mp hg0
  rw [State.frames_setTop' g hat.top] at hend
  have hft : t.frames = .throwing v :: .java g :: U.frames.tail := hend
  have hWu : U.WarmedH t.vm := hWt
  obtain ⟨e0, e1, e2, e3, e4, e5⟩ := hsame
  have et : t = ({ (U.calling g mk a).setFrames t.frames with heap := t.heap, slotsUsed := t.slotsUsed } : State).setVm t.vm := by
    have q0 : t = (t.setVm (U.calling g mk a).vm).setVm t.vm := rfl
    have q1 : t.setVm (U.calling g mk a).vm = ({ (U.calling g mk a).setFrames t.frames with heap := t.heap, slotsUsed := t.slotsUsed } : State) := e0
    rw [q1] at q0
    exact q0
  have hs2 : t = ((({ U with heap := t.heap, slotsUsed := t.slotsUsed } : State).setVm t.vm).setTop g).pushFrame (.throwing v) := by
    have hr' : (({ U with heap := t.heap, slotsUsed := t.slotsUsed } : State).setVm t.vm).frames = .java g0 :: r := hr
    refine et.trans ?_
    rw [hft, State.calling_eq hat.top, State.setFrames_setFrames, State.pushFrame, State.frames_setTop _ hr', State.setTop_of_frames _ hr', State.setFrames_setFrames, hr]
    rfl
  have hsu : U.sameButNew ({ U with heap := t.heap, slotsUsed := t.slotsUsed } : State) Lc rm.cells rm.slots := by
    refine ⟨?_, e1, e2, e3, e4, e5⟩
    obtain ⟨th, hth, -⟩ := State.frames_cons hr
    show ({ U with heap := t.heap, slotsUsed := t.slotsUsed } : State) = { U.setFrames U.frames with heap := t.heap, slotsUsed := t.slotsUsed }
    rw [State.setFrames_self hth]
  refine ⟨v, t, Lc, hq, hLc, ?_, ?_⟩
  · subst hg
    exact ⟨Xu.admits, Xu.cas, Xu.clock, Xu.frames, Xu.room, Xu.hears, Xu.method, Xu.code, (Xu.here.setHeapUsed t.heap t.slotsUsed).setVm hWu.alike, Xu.tail, State.WarmedH.trans Xu.warmed hWu, Xu.limits, Xu.bytes, Xu.same.trans (hsu.setVm s.vm)⟩
  · show Steps p.tables e below _ (((({ U with heap := t.heap, slotsUsed := t.slotsUsed } : State).setVm t.vm).setTop g).pushFrame (.throwing v))
    rw [← hs2]
    exact hst
/-- one row of an exception table that names a class: it is resolved, cold or warm; it takes the object or the search goes on -/
theorem ps_row {e : Env} {S : State} {f : JFrame} {a : Addr} {cell : Cell} {cT : ClassId} {x : ExceptionTableEntry} {rs : List ExceptionTableEntry} (hx : covers x f.pc = true) (h0 : x.catchType ≠ 0) (hl : S.vm.ClassLinks e.platform f.method.cls x.catchType cT)
    (hcell : S.heap[a]? = some cell) (hobj : ∀ k, cell.vm ≠ .statics k) (hk : ∃ k, S.vm.classes[cell.cls]? = some k) (hkT : ∃ k, S.vm.classes[cT]? = some k) {Q : Handler → Pre} {E : CtlPost} {d : Bool} {acts : List Action} :
    wp (findHandler.go f a (x :: rs)) Q E e d acts S ↔ if S.vm.assignable cell.cls cT = true then Q (.found x.handlerPc) d acts (S.setVm (S.vm.noted f.method.cls x.catchType (.cls cT))) else wp (findHandler.go f a rs) Q E e d acts (S.setVm (S.vm.noted f.method.cls x.catchType (.cls cT))) := by
  simp only [covers] at hx
  obtain ⟨r1, r2⟩ := (resolveClass_links e.toSetting hl).op (op := VmOp.resolveClass f.method.cls x.catchType) rfl
  have hal : S.vm.Alike (S.vm.noted f.method.cls x.catchType (.cls cT)) := (Vm.Alike.refl S.vm).noted _ _ _
  obtain ⟨k1, hk1⟩ := hk
  obtain ⟨k2, hk2⟩ := hkT
  obtain ⟨k3, hk3, -⟩ := hal.2.2 _ _ hk1
  obtain ⟨k4, hk4, -⟩ := hal.2.2 _ _ hk2
  have hasg := hal.assignable cell.cls cT
  cases hfit : S.vm.assignable cell.cls cT with
  | true =>
    rw [hfit] at hasg
    simp [findHandler.go, hx, h0, r1, r2, hcell, hobj, hk3, hk4, hasg, VmOp.dirties, VmOp.acts]
  | false =>
    rw [hfit] at hasg
    simp [findHandler.go, hx, h0, r1, r2, hcell, hobj, hk3, hk4, hasg, VmOp.dirties, VmOp.acts]
/-- what a row of the table says at the method's entry: the class it names, and whether an object of the class cX is one -/
def ps_tk (pl : Platform) (s : State) (own cX : ClassId) (b : Bool) (z : ExceptionTableEntry) : Prop := z.catchType ≠ 0 ∧ ∃ cT, s.vm.ClassLinks pl own z.catchType cT ∧ s.vm.assignable cX cT = b
theorem ps_tk.k {pl : Platform} {s : State} {own cX : ClassId} {b : Bool} {z : ExceptionTableEntry} {n : String} {args : Array Value} (hpl : pl.magicAccessors = ({} : Platform).magicAccessors) {o : String} (hown : s.vm.findClass o = some own) (h0 : z.catchType ≠ 0) (hl : (Cond.classLink o z.catchType n).before args s = true)
    (hb : ∀ cT, s.vm.findClass n = some cT → s.vm.assignable cX cT = b) : ps_tk pl s own cX b z := by
  obtain ⟨cT, hcT, hcl⟩ := Cond.classLink_spec hown hl pl hpl
  exact ⟨h0, cT, hcl, hb cT hcT⟩
theorem ps_find {e : Env} {s : State} {f : JFrame} {a : Addr} {cell : Cell} (hobj : ∀ k, cell.vm ≠ .statics k) (hk : ∃ k, s.vm.classes[cell.cls]? = some k) {x : ExceptionTableEntry} {rs : List ExceptionTableEntry} (hx : covers x f.pc = true) (hc : ps_tk e.platform s f.method.cls cell.cls true x) :
    ∀ (pre : List ExceptionTableEntry) (S : State), s.WarmedH S.vm → S.heap[a]? = some cell → (∀ z ∈ pre, ps_tk e.platform s f.method.cls cell.cls false z) →
      ∃ vm', s.WarmedH vm' ∧ ∀ (Q : Handler → Pre) (E : CtlPost) (d : Bool) (acts : List Action), wp (findHandler.go f a (pre ++ x :: rs)) Q E e d acts S ↔ Q (.found x.handlerPc) d acts (S.setVm vm')
  | [], S, hW, hcell, _ => by
    obtain ⟨h0, cT, hl, hfit⟩ := hc
    obtain ⟨k, hk⟩ := hk
    obtain ⟨k', hk', -⟩ := hW.alike.2.2 _ _ hk
    obtain ⟨dk, _, _, kt, hd, _, _, _, _, hkt, _, hopen⟩ := hl.here
    obtain ⟨kt', hkt', -⟩ := hW.alike.2.2 _ _ hkt
    refine ⟨_, hW.noted hd hopen (State.rightAt_cls hl), fun Q E d acts => ?_⟩
    rw [List.nil_append, ps_row hx h0 (hW.classLinks hl) hcell hobj ⟨k', hk'⟩ ⟨kt', hkt'⟩, if_pos (by rw [hW.alike.assignable]; exact hfit)]
  | z :: pre, S, hW, hcell, hp => by
    obtain ⟨z0, zT, zl, zno⟩ := hp z List.mem_cons_self
    by_cases hcov : covers z f.pc = true
    · have hk2 := hk
      obtain ⟨k, hk1⟩ := hk
      obtain ⟨k', hk', -⟩ := hW.alike.2.2 _ _ hk1
      obtain ⟨dk, _, _, kt, hd, _, _, _, _, hkt, _, hopen⟩ := zl.here
      obtain ⟨kt', hkt', -⟩ := hW.alike.2.2 _ _ hkt
      obtain ⟨vm', hW', hq⟩ := ps_find hobj hk2 hx hc pre (S.setVm (S.vm.noted f.method.cls z.catchType (.cls zT))) (hW.noted hd hopen (State.rightAt_cls zl)) hcell (fun y hy => hp y (List.mem_cons_of_mem _ hy))
      refine ⟨vm', hW', fun Q E d acts => ?_⟩
      rw [List.cons_append, ps_row hcov z0 (hW.classLinks zl) hcell hobj ⟨k', hk'⟩ ⟨kt', hkt'⟩, if_neg (by rw [hW.alike.assignable, zno]; decide)]
      exact hq Q E d acts
    · obtain ⟨vm', hW', hq⟩ := ps_find hobj hk hx hc pre S hW hcell (fun y hy => hp y (List.mem_cons_of_mem _ hy))
      refine ⟨vm', hW', fun Q E d acts => ?_⟩
      rw [List.cons_append, Jvm.W.findHandler_go_skip (by simpa using hcov)]
      exact hq Q E d acts
/-- from the throw to the handler -/
theorem ps_caught {p : Program} {l : Launch} {e : Env} {R : Room} {s : State} {m : MethodId} {args : Array Value} {below : List Frame} {meth : Method} {c : Code} {T : State} {locs : List Loc} {ce sl : Nat} (Xs : Stand p l e R s m args below meth c T locs ce sl)
    (a : Addr) {g : JFrame} (hg : g.method = m) {cell : Cell} (hcell : T.heap[a]? = some cell) (hobj : ∀ k, cell.vm ≠ .statics k) (hk : ∃ k, s.vm.classes[cell.cls]? = some k) {pre rs : List ExceptionTableEntry} {x : ExceptionTableEntry} (hsplit : c.exceptionTable.toList = pre ++ x :: rs)
    (hp : ∀ z ∈ pre, ps_tk e.platform s m.cls cell.cls false z) (hx : covers x g.pc = true) (hc : ps_tk e.platform s m.cls cell.cls true x) :
    ∃ vm', Stand p l e R s m args below meth c (T.setVm vm') locs ce sl ∧ Steps p.tables e below ((T.setTop g).pushFrame (.throwing a)) ((T.setVm vm').setTop { g with pc := x.handlerPc, stack := [.ref a] }) := by
  subst hg
  obtain ⟨vm', hW', hq⟩ := ps_find (e := e) (f := g) (a := a) hobj hk (rs := rs) hx hc pre ((T.setTop g).pushFrame (.throwing a)) Xs.warmed hcell hp
  refine ⟨vm', Xs.noted hW', ?_⟩
  have hfind : ∀ (Q : Handler → Pre) (E : CtlPost) (d : Bool) (acts : List Action), wp (findHandler g a) Q E e d acts ((T.setTop g).pushFrame (.throwing a)) ↔ Q (.found x.handlerPc) d acts (((T.setTop g).pushFrame (.throwing a)).setVm vm') := fun Q E d acts => by
    rw [Jvm.W.findHandler_eq (s := (T.setTop g).pushFrame (.throwing a)) (meth := meth) (code := c) Xs.method' Xs.code, hsplit]
    exact hq Q E d acts
  obtain ⟨hgo, hw⟩ := Xs.here.throwing a
  refine Steps.head hgo hw ?_
  have hstep : (stepThrowing e ((T.setTop g).pushFrame (.throwing a)) a (.java g :: T.frames.tail)).1 = ((((T.setTop g).pushFrame (.throwing a)).setVm vm').setFrames (.java { g with pc := x.handlerPc, stack := [.ref a] } :: T.frames.tail)) := by
    simp only [stepThrowing, searchFrame, vmDo]
    generalize hr : Sem.go _ e false [] ((T.setTop g).pushFrame (.throwing a)) = res
    obtain ⟨as, rfl, ha⟩ := Sem.eq_ok_of hr (a := Handler.found x.handlerPc) (s' := ((T.setTop g).pushFrame (.throwing a)).setVm vm') (acts' := []) (by simp [hfind _ _ _ _])
    rfl
  rw [stepThread_throwing (frames_entered Xs.here.top _), hstep]
  obtain ⟨g1, hg1⟩ := Option.isSome_iff_exists.mp Xs.here.top
  obtain ⟨r, hr⟩ := State.topJava?_eq_some.mp hg1
  have hr' : (T.setVm vm').frames = .java g1 :: r := hr
  have e1 : (((T.setTop g).pushFrame (.throwing a)).setVm vm').setFrames (.java { g with pc := x.handlerPc, stack := [.ref a] } :: T.frames.tail) = (T.setVm vm').setTop { g with pc := x.handlerPc, stack := [.ref a] } := by
    rw [State.setTop_of_frames _ hr', hr, List.tail_cons, State.pushFrame, State.setTop_of_frames _ hr]
    show ((((T.setFrames _).setFrames _).setVm vm').setFrames _) = _
    rw [State.setFrames_setFrames]
    show ((T.setVm vm').setFrames _).setFrames _ = _
    rw [State.setFrames_setFrames]
  rw [e1]
  exact Steps.refl _
section PSL
variable {p : Program} {l : Launch} {e : Env} {R : Room} {s : State} {m : MethodId} {args : Array Value} {below : List Frame} {meth : Method} {c : Code} {nL : Nat} {D : va_G} {ca : Nat → ClassId} {A : Nat → Prop} {H0 : Heap} {adr0 : Nat → Nat → Nat} {σ0 : ps_S} {Q : State → Prop}
variable {cc : ByteArray} {own : String} {pc : Nat} {L : List (Nat × ps_A)} {st : List ps_A} {σ : ps_S} {ce sl : Nat}
theorem pv_aloadR (E : ps_E p s m c cc nL own D ca) {k : Fin 4} {i b : Nat} (hd : decode cc pc = .ok (.aload_n k, 1)) (hi : (k : Nat) = i) (hl : L.lookup i = some (ps_raw b))
    (kk : ps_V p l e R s m args below meth c nL D ca A H0 adr0 σ0 Q (pc + 1) L (ps_raw b :: st) σ ce sl) : ps_V p l e R s m args below meth c nL D ca A H0 adr0 σ0 Q pc L st σ ce sl := by
  intro adr H locs ls hB hs hL hls
  exact lv_aload_n E.1 E.2.1 hd hi (ps_lk hls hl) (kk adr H locs ls hB (ps_cn trivial hs) hL hls)
theorem pv_astoreR_n (E : ps_E p s m c cc nL own D ca) {k : Fin 4} {i b : Nat} (hd : decode cc pc = .ok (.astore_n k, 1)) (hi : (k : Nat) = i) (hn : i < nL)
    (kk : ps_V p l e R s m args below meth c nL D ca A H0 adr0 σ0 Q (pc + 1) (ps_ls L i (ps_raw b)) st σ ce sl) : ps_V p l e R s m args below meth c nL D ca A H0 adr0 σ0 Q pc L (ps_raw b :: st) σ ce sl := by
  intro adr H locs ls hB hs hL hls
  exact lv_astore_n E.1 E.2.1 hd hi hls hn (ps_ls_map adr L i (ps_raw b)) (fun ls' h' => kk adr H locs ls' hB (ps_tl hs) (ps_ls_ok hL trivial) h')
theorem pv_astoreR (E : ps_E p s m c cc nL own D ca) {i b : Nat} (hd : decode cc pc = .ok (.astore i, 2)) (hn : i < nL)
    (kk : ps_V p l e R s m args below meth c nL D ca A H0 adr0 σ0 Q (pc + 2) (ps_ls L i (ps_raw b)) st σ ce sl) : ps_V p l e R s m args below meth c nL D ca A H0 adr0 σ0 Q pc L (ps_raw b :: st) σ ce sl := by
  intro adr H locs ls hB hs hL hls
  exact lv_astore E.1 E.2.1 hd hls hn (ps_ls_map adr L i (ps_raw b)) (fun ls' h' => kk adr H locs ls' hB (ps_tl hs) (ps_ls_ok hL trivial) h')
theorem pv_sld (E : ps_E p s m c cc nL own D ca) {b n : Nat} {xs : Nat → Int32} (hX : va_X b n xs s H0) (hbl : b < H0.size) (hbA : ¬ A b) {i : Int32} (hin : vp_in i n) (hd : decode cc pc = .ok (.iaload, 1))
    (kk : ps_V p l e R s m args below meth c nL D ca A H0 adr0 σ0 Q (pc + 1) L (ps_int (xs i.toNatClampNeg) :: st) σ ce sl) : ps_V p l e R s m args below meth c nL D ca A H0 adr0 σ0 Q pc L (ps_int i :: ps_raw b :: st) σ ce sl := by
  intro adr H locs ls hB hs hL hls
  exact va_sld E.1 E.2.1 hX hbl hbA hB.2.1 hin hd (kk adr H locs ls hB (ps_cn trivial (ps_tl (ps_tl hs))) hL hls)
theorem pv_slen (E : ps_E p s m c cc nL own D ca) {b n : Nat} {xs : Nat → Int32} (hX : va_X b n xs s H0) (hbl : b < H0.size) (hbA : ¬ A b) (hd : decode cc pc = .ok (.arraylength, 1))
    (kk : ps_V p l e R s m args below meth c nL D ca A H0 adr0 σ0 Q (pc + 1) L (ps_int (Int32.ofNat n) :: st) σ ce sl) : ps_V p l e R s m args below meth c nL D ca A H0 adr0 σ0 Q pc L (ps_raw b :: st) σ ce sl := by
  intro adr H locs ls hB hs hL hls
  exact va_slen E.1 E.2.1 hX hbl hbA hB.2.1 hd (kk adr H locs ls hB (ps_cn trivial (ps_tl hs)) hL hls)
/-- a call of a static method that has an exception table -/
theorem va_runSW {y : MethodName} {bytes cc : ByteArray} {maxL nL n index : Nat} {ret : Option FieldType} {hh : List (Nat × Nat × Nat × Nat)} {rm : Room} {Pc : Array Value → State → Prop} {Qc : Array Value → State → Outcome → State → Prop} {free : Addr → Prop} {own : String} {As rest : List Value} {g : JFrame} {H : Heap} {locs : List Loc} {cells slots : Nat}
    (hx : p.tables.exec = Jvm.exec) (hb : c.code = cc) (hml : c.maxLocals = nL) (ho : s.vm.findClass own = some m.cls)
    (hM : Met l y [Cond.codeWith y bytes maxL ret hh] rm Pc Qc rm.cells rm.slots free) (hbl : FrameBlind Pc) (hR : rm.frames + 1 ≤ R.frames ∧ 8 + (maxL + 11) + rm.locals ≤ R.locals)
    (hcw : ∀ (a' : Array Value) (U : State), s.WarmedH U.vm → (Cond.codeWith y bytes maxL ret hh).before a' U = true) (hini : ∀ (a' : Array Value) (U : State), s.WarmedH U.vm → (Cond.initialized y.cls).before a' U = true)
    (hl : (Cond.methodLink own index y).before args s = true) (hst : (Cond.static y).before args s = true) (hy : y.cls ≠ "java/lang/invoke/MethodHandle" ∧ y.cls ≠ "java/lang/invoke/VarHandle") (hlen : ∀ sig, parseMethodDescriptor y.desc = some sig → n = sig.parameters.length)
    (hPc : ∀ U : State, U.heap = H → s.WarmedH U.vm → Pc As.toArray U)
    (hg : g.method = m) (hn : As.length = n) (hsize : g.locals.size = nL) (hstack : g.stack = As.reverse ++ rest) (hW : 2 * g.monitorRoom + (rest.map fun v => v.category).sum ≤ 8) (hdg : decode cc g.pc = .ok (.invokestatic index, 3)) (hf : cells + rm.cells ≤ R.cells ∧ slots + rm.slots ≤ R.slots) :
    va_Run p l e R s m args below meth c H locs cells slots rm.cells rm.slots g rest (Qc As.toArray) free := by
  have hK : Back l R p e below s args y 3 8 (PreOf R rm.cells rm.slots Pc) (PostOf Qc rm.cells rm.slots free) := va_backW (hh := hh) (bytes := bytes) (maxL := maxL) (ret := ret) hM hbl rfl rfl hR.1 hR.2 (fun w hw a' U hW => by rw [List.mem_singleton] at hw; subst hw; exact hcw a' U hW) List.mem_cons_self hini
  intro T hT X
  obtain ⟨mk, methM, cM, hnamed, hmethM, -, -, -, -, -, -, hsigM⟩ := Cond.codeWith_spec (hcw args s (State.WarmedH.refl s))
  have hstatic : methM.isStatic = true := Cond.static_spec hnamed hmethM hst
  obtain ⟨kP, hkP, -⟩ := className_of_methodNamed hnamed
  have hinitP : kP.init = .initialized := Cond.initialized_spec (findClass_of_methodNamed hnamed) hkP (hini args s (State.WarmedH.refl s))
  obtain ⟨vm₁, X₁, hstep₁⟩ := X.invokestatic hx ho hl hnamed hmethM hstatic hkP hinitP hy (g := g) hg (argsL := As) (rest := rest) (hn.trans (hlen _ hsigM)) hstack (by rw [hb]; exact hdg)
  obtain ⟨v, ⟨U', l2, c2, s2⟩, X', ⟨g', mk', t, Lc, e1, e2, hq, h1, hL, h2, h3⟩, hsteps⟩ := hK m meth c ⟨T.setVm vm₁, locs, cells, slots⟩ { g with stack := rest } (.invokestatic index) mk As.toArray X₁ hg (hsize.trans hml.symm) (by rw [hb]; exact hdg) hW (X₁.named hnamed) ⟨hf.1, hf.2, hPc (T.setVm vm₁) hT X₁.warmed⟩
  dsimp only [Pt.U, Pt.locs, Pt.cells, Pt.slots] at X' e1 e2 h1 h2 h3 hsteps
  subst h1; subst h2; subst h3
  exact ⟨v, (T.setVm vm₁).calling g' mk' As.toArray, t, U', Lc, hT, X', hL, e1, e2, hq, fun target h => hstep₁ _ fun acts => by rw [doInvoke_state]; exact hsteps.trans h⟩
theorem pv_callSW (E : ps_E p s m c cc nL own D ca) (hH : H0 = s.heap) (hZ : ps_Z A s) (hYs : ps_Y s) {y : MethodName} {bytes : ByteArray} {maxL : Nat} {ret : Option FieldType} {hh : List (Nat × Nat × Nat × Nat)} {rm : Room} {index n : Nat} {as rest stk : List ps_A} {Qf : Option ps_A → ps_S → Prop}
    (hM : ∀ adr, ps_MW l y bytes maxL ret hh rm D ca A adr σ as Qf) (y1 : Cond.codeWith y bytes maxL ret hh ∈ ps_T) (y2 : Cond.initialized y.cls ∈ ps_T) (y3 : Cond.static y ∈ ps_T) (w1 : Cond.methodLink own index y ∈ ps_T)
    (y5 : y.cls ≠ "java/lang/invoke/MethodHandle") (y6 : y.cls ≠ "java/lang/invoke/VarHandle") (y7 : (parseMethodDescriptor y.desc).map (fun d => d.parameters.length) = some n)
    (hst : stk = as.reverse ++ rest) (hn : as.length = n) (hR : rm.frames + 1 ≤ R.frames ∧ 8 + (maxL + 11) + rm.locals ≤ R.locals) (hro : (rest.map ps_cat).sum ≤ 8)
    (hd : decode cc pc = .ok (.invokestatic index, 3)) (hf : ce + rm.cells ≤ R.cells ∧ sl + rm.slots ≤ R.slots)
    (kk : ∀ (r : Option ps_A) (σ' : ps_S), Qf r σ' → ps_V p l e R s m args below meth c nL D ca A H0 adr0 σ0 Q (pc + 3) L (r.toList ++ rest) σ' (ce + rm.cells) (sl + rm.slots)) : ps_V p l e R s m args below meth c nL D ca A H0 adr0 σ0 Q pc L stk σ ce sl := by
  subst hst
  refine pv_run (av := fun adr => (as.map (ps_v adr)).toArray) (fun adr H locs ls hB hs hsz => ?_) ps_rest kk
  have ht := E.2.2.2.2.words args
  have hwm : ∀ w ∈ ps_T, ∀ (a' : Array Value) (U : State), s.WarmedH U.vm → w.before a' U = true := fun w hw a' U hW => (E.2.2.2.2.warm hW).words a' w hw
  refine va_runSW (As := as.map (ps_v adr)) E.1 E.2.1 E.2.2.1 E.2.2.2.1 (hM adr) ps_PW.blind hR (hwm _ y1) (hwm _ y2) (ht _ w1) (ht _ y3) ⟨y5, y6⟩ (fun sig h => by rw [h] at y7; exact (Option.some.inj y7).symm) (fun U hU hW => ?_) rfl (by rw [List.length_map]; exact hn) hsz ?_ (ps_room hro) hd hf
  · have hS := hB.2.1
    refine ⟨⟨⟨rfl, fun a ha => hs a (List.mem_append_left _ (List.mem_reverse.mpr ha)), by rw [hU]; exact hB.1, E.2.2.2.2.warm hW, fun q hq => hB.2.2.1 q (Nat.le_trans hS.1 (by rw [hU] at hq; exact hq))⟩, hZ.to hW ?_ ?_⟩, hYs.to hW⟩
    · rw [hU, ← hH]; exact hS.1
    · intro q hq hnA
      rw [hU, ← hH]
      exact hS.2.1 q (by rw [hH]; exact hq) hnA
  · show (as.reverse ++ rest).map (ps_v adr) = _
    rw [List.map_append, List.map_reverse]
/-- a call that throws, caught in the method itself -/
theorem pv_callVT (E : ps_E p s m c cc nL own D ca) (hH : H0 = s.heap) (hZ : ps_Z A s) {y : MethodName} {bytes : ByteArray} {maxL : Nat} {ret : Option FieldType} {rm : Room} {index ci n : Nat} {T : u_T} {N : Nat} {κ i : Nat} {as rest stk : List ps_A} {X nm : String} {hp hr : List (Nat × Nat × Nat × Nat)} {q : Nat × Nat × Nat × Nat}
    (hM : ∀ adr, ps_MT l y bytes maxL ret rm D ca A adr σ (ps_ref (some (κ, i)) :: as) X) (hY : ps_YV y bytes maxL ret n) (w1 : Cond.methodLink own index y ∈ ps_T)
    (hst : stk = as.reverse ++ ps_ref (some (κ, i)) :: rest) (hn : as.length = n) (hF : ∀ adr, ∃ fs, ps_cell ca adr σ κ i = .inr (ci, fs)) (hc : ps_cl[ci]? = some (y.cls, T, N)) (hR : rm.frames + 1 ≤ R.frames ∧ 8 + (maxL + 11) + rm.locals ≤ R.locals) (hro : (rest.map ps_cat).sum ≤ 8)
    (hd : decode cc pc = .ok (.invokevirtual index, 3)) (hf : ce + rm.cells ≤ R.cells ∧ sl + rm.slots ≤ R.slots)
    (htab : c.exceptionTable.toList.map x4 = hp ++ q :: hr) (hpass : ∀ z ∈ hp, z.2.2.2 ≠ 0 ∧ ∃ n2, Cond.classLink own z.2.2.2 n2 ∈ ps_T ∧ (Cond.not (Cond.castable X n2)).before args s = true)
    (hcov : q.1 ≤ pc ∧ pc < q.2.1) (h0 : q.2.2.2 ≠ 0) (hlink : Cond.classLink own q.2.2.2 nm ∈ ps_T) (hcast : (Cond.castable X nm).before args s = true)
    (kk : ∀ a, ps_V p l e R s m args below meth c nL D ca A H0 adr0 σ0 Q q.2.2.1 L [ps_raw a] σ (ce + rm.cells) (sl + rm.slots)) : ps_V p l e R s m args below meth c nL D ca A H0 adr0 σ0 Q pc L stk σ ce sl := by
  subst hst
  intro adr H locs ls hB hs hL hls T0 hT0 Xs
  obtain ⟨y1, y2, y3, y4, y5, y6, y7⟩ := hY
  have hi : i < ps_N σ κ := hs _ (List.mem_append_right _ List.mem_cons_self)
  have ht := E.2.2.2.2.words args
  have hS := hB.2.1
  obtain ⟨fs, hfs⟩ := hF adr
  obtain ⟨k0, hk0⟩ := ps_ws_get (ca := ca) (adr := adr) hi (hB.1.1 κ i hi).1
  rw [hfs] at hk0
  obtain ⟨cellB, hcB, hoB, hclB⟩ := va_recv E.2.2.2.2.2 hB.1.P hc hk0
  obtain ⟨mk, methM, hnamed, hmethM, hstM, habM⟩ := Cond.instanceMethod_spec (ht _ y3)
  obtain ⟨methM', cM, hmethM', -, -, -, -, -, -, hsigM⟩ := Cond.code_spec hnamed (ht _ y1)
  cases hmethM.symm.trans hmethM'
  obtain ⟨c2, r2, m2, q1, q2, q3, q4, kP, hkP, hkPi⟩ := Cond.selects_spec (ht _ y4)
  cases hclB.symm.trans q1
  cases (State.methodFound?_of_named hnamed ⟨y5, y6⟩).symm.trans q2
  cases hnamed.symm.trans q3
  have hselP : selectMethod e.platform s.vm cellB.cls mk = .method mk := by rw [Launch.admits_selectMethod Xs.admits]; exact q4
  have hlen : (as.map (ps_v adr)).length = methM.sig.parameters.length := by
    rw [List.length_map, hn]
    rw [hsigM] at y7
    exact (Option.some.inj y7).symm
  have hstack : (as.reverse ++ ps_ref (some (κ, i)) :: rest).map (ps_v adr) = (as.map (ps_v adr)).reverse ++ .ref (adr κ i) :: rest.map (ps_v adr) := by
    rw [List.map_append, List.map_reverse]
    rfl
  obtain ⟨vm₁, X₁, hstep₁⟩ := Xs.invokevirtual E.1 E.2.2.2.1 (ht _ w1) hnamed hmethM hstM hkP hkPi ⟨y5, y6⟩ (a := adr κ i) (cell := cellB) (by rw [hT0]; exact hcB)
    (fun z h => by rw [h] at hoB; cases hoB) hselP hmethM habM hkP hkPi (g := F0 m pc ls ((as.reverse ++ ps_ref (some (κ, i)) :: rest).map (ps_v adr))) rfl (argsL := as.map (ps_v adr)) (rest := rest.map (ps_v adr)) hlen hstack (by rw [E.2.1]; exact hd)
  have hpre : ps_PT D ca A adr σ (ps_ref (some (κ, i)) :: as) (Value.ref (adr κ i) :: as.map (ps_v adr)).toArray (T0.setVm vm₁) := by
    refine ⟨⟨rfl, fun a ha => hs a ?_, by show ps_W D ca adr A σ T0.heap; rw [hT0]; exact hB.1, E.2.2.2.2.warm X₁.warmed, fun x hx => hB.2.2.1 x (Nat.le_trans hS.1 (by rw [← hT0]; exact hx))⟩, hZ.to X₁.warmed ?_ ?_⟩
    · rcases List.mem_cons.mp ha with rfl | h
      · exact List.mem_append_right _ List.mem_cons_self
      · exact List.mem_append_left _ (List.mem_reverse.mpr h)
    · show s.heap.size ≤ T0.heap.size
      rw [hT0, ← hH]; exact hS.1
    · intro x hx hnA
      show T0.heap[x]? = s.heap[x]?
      rw [hT0, ← hH]
      exact hS.2.1 x (by rw [hH]; exact hx) hnA
  have hG1 := E.2.2.2.2.warm X₁.warmed
  obtain ⟨v, t, Lc, ⟨a9, cell, qo, qsz, qcell, qvm, qfc, qW, qF⟩, hLc, X', hsteps⟩ := ps_thrown X₁ (hM adr) (g := F0 m pc ls (rest.map (ps_v adr))) (ig := .invokevirtual index) (len := 3) (mk := mk) rfl (hls.1.trans E.2.2.1.symm) (by rw [E.2.1]; exact hd) (ps_room hro) (X₁.named hnamed) hR (hG1.words _ _ y1) (hG1.words _ _ y2) hf hpre
  cases qo
  have hfX : s.vm.findClass X = some cell.cls := by
    have h9 : vm₁.findClass X = some cell.cls := qfc
    rw [← h9]
    exact (X₁.warmed.alike.findClass X none).symm
  obtain ⟨c3, cT, hc3, hcT, hasg⟩ := Cond.castable_spec hcast
  cases hfX.symm.trans hc3
  obtain ⟨pre, x, rs, hsplit, hpe, hxe⟩ := x4_split htab
  subst hxe
  have hpl : e.platform.magicAccessors = ({} : Platform).magicAccessors := by rw [Xs.admits.platform]
  have hend : ps_tk e.platform s m.cls cell.cls true x := ps_tk.k hpl E.2.2.2.1 h0 (ht _ hlink) (fun c5 h5 => by cases hcT.symm.trans h5; exact hasg)
  have hps : ∀ z ∈ pre, ps_tk e.platform s m.cls cell.cls false z := by
    intro z hz
    obtain ⟨z0, n2, zl, zn⟩ := hpass (x4 z) (by rw [← hpe]; exact List.mem_map.mpr ⟨z, hz, rfl⟩)
    refine ps_tk.k hpl E.2.2.2.1 z0 (ht _ zl) (fun c5 h5 => ?_)
    have hv := Cond.holds_not_iff.mp zn
    simp only [Cond.value, hfX, h5] at hv
    exact Option.some.inj hv
  have hcome : Steps p.tables e below (T0.setTop (F0 m pc ls ((as.reverse ++ ps_ref (some (κ, i)) :: rest).map (ps_v adr)))) (((({ T0.setVm vm₁ with heap := t.heap, slotsUsed := t.slotsUsed } : State).setVm t.vm).setTop (F0 m pc ls (rest.map (ps_v adr)))).pushFrame (.throwing v)) := hstep₁ _ fun acts => by rw [doInvoke_state]; exact hsteps
  obtain ⟨vm', XV, hst1⟩ := ps_caught X' v (g := F0 m pc ls (rest.map (ps_v adr))) rfl (cell := cell) qcell (fun k hk => by rw [qvm] at hk; cases hk) (Vm.classAt_of_findClass hfX) hsplit hps (by show (decide (x.startPc ≤ pc) && decide (pc < x.endPc)) = true; rw [decide_eq_true (show x.startPc ≤ pc from hcov.1), decide_eq_true (show pc < x.endPc from hcov.2)]; rfl) hend
  have hst2 := hcome.trans hst1
  have hB' : ps_B D ca A H0 adr0 σ0 adr σ t.heap (locs ++ Lc) := by
    refine ⟨qW, ⟨?_, fun z h1 h2 => ?_, fun z hz => ?_⟩, hB.2.2.1, hB.2.2.2.1, hB.2.2.2.2⟩
    · refine Nat.le_trans hS.1 ?_
      have := qF.1
      rw [← hT0]
      exact this
    · have h3 := qF.2 z (by show z < T0.heap.size; rw [hT0]; exact Nat.lt_of_lt_of_le h1 hS.1) h2
      rw [h3]
      show T0.heap[z]? = _
      rw [hT0]
      exact hS.2.1 z h1 h2
    · rcases List.mem_append.mp hz with h | h
      · exact hS.2.2 z h
      · exact hLc z h
  obtain ⟨t2, a1, b1⟩ := kk v adr t.heap (locs ++ Lc) ls hB' (ps_cn trivial (fun a h => by cases h)) hL hls (((({ T0.setVm vm₁ with heap := t.heap, slotsUsed := t.slotsUsed } : State).setVm t.vm).setVm vm')) rfl XV
  exact ⟨t2, hst2.trans a1, b1⟩
end PSL
