/-! The law: what holds at its entry. -/
theorem zk_cast {s U : State} {a a' : Array Value} (hW : s.WarmedH U.vm) {c t : String} (h : (Cond.castable c t).before a s = true) : (Cond.castable c t).before a' U = true := by
  simp only [Cond.before, Cond.holds, Cond.value, hW.alike.findClass, hW.alike.assignable] at h ⊢
  exact h
theorem zk_not {s U : State} {a a' : Array Value} (hW : s.WarmedH U.vm) {c t : String} (h : (Cond.not (Cond.castable c t)).before a s = true) : (Cond.not (Cond.castable c t)).before a' U = true := by
  simp only [Cond.before, Cond.holds, Cond.value, hW.alike.findClass, hW.alike.assignable] at h ⊢
  exact h
theorem zk_decl {s U : State} {a a' : Array Value} (hW : s.WarmedH U.vm) {x : MethodName} (h : (Cond.declares x).before a s = true) : (Cond.declares x).before a' U = true := by
  have e : U.methodNamed? x = s.methodNamed? x := State.methodNamed?_setVm (s := s) hW.alike x
  have e2 : U.vm.method? = s.vm.method? := funext fun y => hW.alike.method? y
  simp only [Cond.before, Cond.holds, Cond.value, e, e2] at h ⊢
  exact h
theorem zk_str {s U : State} {a a' : Array Value} (hW : s.WarmedH U.vm) {c x : String} {i : Nat} (h : (Cond.stringRef c i x).before a s = true) : (Cond.stringRef c i x).before a' U = true := by
  have h2 := Cond.stringRef_warmed hW h
  exact h2
theorem zk_lays {s U : State} {a a' : Array Value} (hW : s.WarmedH U.vm) (hh : ∀ q, q < s.heap.size → U.heap[q]? = s.heap[q]?) {o f d : String} (h : (Cond.laysStatic o f d).before a s = true) : (Cond.laysStatic o f d).before a' U = true := by
  obtain ⟨c, k, i, fd, x, cell, hc, hf, hst, hsta, hcell, hiss, hcls, hlt, hty⟩ := Cond.laysStatic_spec h
  obtain ⟨k', hf', he⟩ := State.fieldFound?_setVm hW.alike hf
  exact Cond.laysStatic_of (s := U) (by rw [hW.alike.findClass]; exact hc) hf' hst (by rw [he]; exact hsta) (by rw [hh x (Array.getElem?_eq_some_iff.mp hcell).1]; exact hcell) hiss hcls hlt (by rw [he]; exact hty)
theorem zk_ref {s U : State} {a a' : Array Value} (hW : s.WarmedH U.vm) (hh : ∀ q, q < s.heap.size → U.heap[q]? = s.heap[q]?) {o f d : String} (h : (Cond.laysStatic o f d).before a s = true) (hr : (Cond.isRef (.static o f d)).before a s = true) : (Cond.isRef (.static o f d)).before a' U = true := by
  obtain ⟨c, k, i, fd, x, cell, hc, hf, hst, hsta, hcell, hiss, hcls, hlt, hty⟩ := Cond.laysStatic_spec h
  obtain ⟨k', hf', he⟩ := State.fieldFound?_setVm hW.alike hf
  have hf2 : U.fieldFound? o f d = some (c, k', i, fd) := hf'
  have hsta' : k'.statics = some x := by rw [he]; exact hsta
  have hcell' : U.heap[x]? = some cell := by rw [hh x (Array.getElem?_eq_some_iff.mp hcell).1]; exact hcell
  have hv : cell.slots[fd.slot]? = some cell.slots[fd.slot] := Array.getElem?_eq_getElem hlt
  have e1 : (Term.static o f d).eval a s none [] s = some cell.slots[fd.slot] := by
    simp [Term.eval, State.fieldNamed?, hf, hst, hsta, hcell, hiss, hv]
  have e2 : (Term.static o f d).eval a' U none [] U = some cell.slots[fd.slot] := by
    simp [Term.eval, State.fieldNamed?, hf2, hst, hsta', hcell', hiss, hv]
  simp only [Cond.before, Cond.holds, Cond.value, e1, e2] at hr ⊢
  exact hr
/-! THE CLAIM OUT OF ONE WALK OF THE LAW'S BODY. Your part is whole_start (and what it stands on); all else here is the same for every law, but numbers. -/
def R_law : String := "PromiseScopesLaw"
def lw_P (b : Addr) (xs : List Int32) (args : Array Value) (s : State) : Prop := args = #[.ref b] ∧ s.IntsAt b xs ∧ xs.length ≤ 3584 ∧ (Jvm.Cond.and given_1 narrow_1).before args s = true
def lw_Q (_ : Array Value) (s : State) (o : Outcome) (t : State) : Prop := o = .returned (some (.int 1)) ∧ Framed s o t [] 601024 7293034
def lw_Z (below : List Frame) (a : Array Value) (s : State) : State → Prop := fun t => ∃ o, t.status = .running ∧ Ended t below o ∧ lw_Q a s o t
/-- the law's own end, with 1 on the stack, nothing written that was there before, its room as the claim has it -/
theorem lw_ret {p : Program} {l : Launch} {e : Env} {s : State} {m : MethodId} {below : List Frame} {meth : Method} {c : Code} {b : Nat} (hx : p.tables.exec = Jvm.exec) (hb : c.code = code) (hr : meth.sig.returnType = ret) (hlocks : meth.locks = false) {pc : Nat} {H : Heap} {ls : Array Slot} (hdg : decode code pc = .ok (.ireturn, 1)) : W p l e room_1 s m #[Value.ref b] below meth c H [] 601024 7293034 (lw_Z below #[Value.ref b] s) (F0 m pc ls [.int 1]) := by
  intro T hT X
  obtain ⟨fs, hret, hrun, hended, hW, hframe⟩ := X.leave (v := some (.int 1)) (hlocks := hlocks) (fun h => by rw [hr] at h; cases h)
  have hmeth' : T.vm.method? m = some meth := X.method'
  refine ⟨T.setFrames fs, ?_, .returned (some (.int 1)), hrun, hended, rfl, ⟨_, rfl⟩, hW, hframe⟩
  jvm_step X.here [X.here.top, hx, hb, hdg, hmeth', hr, ret, narrow_b1]
  (try refine ⟨rfl, ?_⟩); (try refine ⟨rfl, ?_⟩)
  first | (intro acts; rw [hret _ acts rfl rfl rfl]) | rw [hret _ _ rfl rfl rfl]
  exact Steps.refl _
/-- what holds at the law's entry: the machine, the code, the tables' words (any of lw_tbl by 'hts w (by decide +kernel)'), the script of L ints xs at the cell b, what the Statement gives of the start (any of its parts by flat_of_before) -/
def lw_At (p : Program) (s : State) (m : MethodId) (meth : Method) (c : Code) (b L : Nat) (xs : Nat → Int32) : Prop :=
  p.tables.exec = Jvm.exec ∧ c.code = code ∧ meth.sig.returnType = ret ∧ c.maxLocals = 7 ∧ s.vm.findClass R_law = some m.cls ∧ (∀ w ∈ lw_tbl, w.before #[Value.ref b] s = true) ∧ va_X b L xs s s.heap ∧ b < s.heap.size ∧ meth.locks = false ∧ (Jvm.Cond.and given_1 narrow_1).before #[Value.ref b] s = true
set_option maxRecDepth 100000 in
theorem lw_Zs {s : State} {args : Array Value} (hts : ∀ w ∈ lw_tbl, w.before args s = true) (hgv : ∀ w ∈ flatC (Jvm.Cond.and given_1 narrow_1), w.before args s = true) : ps_Z (fun q => s.heap.size ≤ q) s := by
  intro U a hW hsz hq
  have hh : ∀ q, q < s.heap.size → U.heap[q]? = s.heap[q]? := fun q h => hq q h (Nat.not_le.mpr h)
  exact th_all_mem (P := fun w => w.before a U = true) (l := th_X) (And.intro (zk_cast hW (hts _ (List.mem_of_getElem? (i := 433) (by decide +kernel)))) (And.intro (zk_decl hW (hts _ (List.mem_of_getElem? (i := 434) (by decide +kernel)))) (And.intro (zk_decl hW (hts _ (List.mem_of_getElem? (i := 435) (by decide +kernel)))) (And.intro (zk_decl hW (hts _ (List.mem_of_getElem? (i := 436) (by decide +kernel)))) (And.intro (zk_decl hW (hts _ (List.mem_of_getElem? (i := 437) (by decide +kernel)))) (And.intro (zk_decl hW (hts _ (List.mem_of_getElem? (i := 438) (by decide +kernel)))) (And.intro (zk_decl hW (hts _ (List.mem_of_getElem? (i := 439) (by decide +kernel)))) (And.intro (zk_lays hW hh (hts _ (List.mem_of_getElem? (i := 458) (by decide +kernel)))) (And.intro (zk_lays hW hh (hts _ (List.mem_of_getElem? (i := 460) (by decide +kernel)))) (And.intro (zk_str hW (hts _ (List.mem_of_getElem? (i := 472) (by decide +kernel)))) (And.intro (zk_cast hW (hts _ (List.mem_of_getElem? (i := 574) (by decide +kernel)))) (And.intro (zk_str hW (hts _ (List.mem_of_getElem? (i := 581) (by decide +kernel)))) (And.intro (zk_str hW (hts _ (List.mem_of_getElem? (i := 615) (by decide +kernel)))) (And.intro (zk_str hW (hts _ (List.mem_of_getElem? (i := 634) (by decide +kernel)))) (And.intro (zk_cast hW (hts _ (List.mem_of_getElem? (i := 637) (by decide +kernel)))) (And.intro (zk_str hW (hts _ (List.mem_of_getElem? (i := 644) (by decide +kernel)))) (And.intro (zk_str hW (hts _ (List.mem_of_getElem? (i := 651) (by decide +kernel)))) (And.intro (zk_str hW (hts _ (List.mem_of_getElem? (i := 659) (by decide +kernel)))) (And.intro (zk_str hW (hts _ (List.mem_of_getElem? (i := 664) (by decide +kernel)))) (And.intro (zk_str hW (hts _ (List.mem_of_getElem? (i := 733) (by decide +kernel)))) (And.intro (zk_str hW (hts _ (List.mem_of_getElem? (i := 738) (by decide +kernel)))) (And.intro (zk_str hW (hts _ (List.mem_of_getElem? (i := 795) (by decide +kernel)))) (And.intro (zk_ref hW hh (hts _ (List.mem_of_getElem? (i := 458) (by decide +kernel))) (hgv _ (by decide +kernel))) (And.intro (zk_ref hW hh (hts _ (List.mem_of_getElem? (i := 460) (by decide +kernel))) (hgv _ (by decide +kernel))) (trivial)))))))))))))))))))))))))
theorem lw_Ys {s : State} {args : Array Value} (hgv : ∀ w ∈ flatC (Jvm.Cond.and given_1 narrow_1), w.before args s = true) : ps_Y s := by
  intro U a hW
  exact th_all_mem (P := fun w => w.before a U = true) (l := th_Y) (And.intro (zk_not hW (hgv _ (by decide +kernel))) (And.intro (zk_not hW (hgv _ (by decide +kernel))) (And.intro (zk_not hW (hgv _ (by decide +kernel))) trivial)))
theorem lw_arr {s : State} {args : Array Value} {ty : FieldType} (h : (Cond.arrayClass ty).before args s = true) : ∃ cA, ArrOfT s cA ty ∧ s.vm.findClass ("[" ++ ty.toString) = some cA := by
  obtain ⟨cA, kA, comp, h1, h2, h3⟩ := Cond.arrayClass_spec h
  exact ⟨cA, fun n z => ⟨fun k h => (by cases h), kA, h2, comp, h3⟩, h1⟩
theorem lw_aro {s : State} {args : Array Value} {C : String} (h : (Cond.arrayOver (.object C)).before args s = true) : ∃ cA, ArrOfT s cA (.object C) ∧ va_RA s cA (.object C) := by
  obtain ⟨comp, cA, kA, h1, h2, h3, h4, h5⟩ := Cond.arrayOver_spec h
  exact ⟨cA, fun n z => ⟨fun k h => (by cases h), kA, h3, comp, h4⟩, kA, comp, h3, h4, h1, h5⟩
set_option maxRecDepth 100000 in
theorem lw_G {s : State} {args : Array Value} (hts : ∀ w ∈ lw_tbl, w.before args s = true) : ∃ (D : va_G) (ca : Nat → ClassId), ps_G D ca s := by
  have hw : ∀ w ∈ ps_T, w.before #[] s = true := fun w hw => ps_warm (List.mem_filter.mp hw).2 (State.WarmedH.refl s) (hts w (List.mem_filter.mp hw).1)
  obtain ⟨c0, i0, k0⟩ := u_known (n := 2) hw in_Ps (hw _ wd_19)
  obtain ⟨c1, i1, k1⟩ := u_known (n := 5) hw in_Graph (hw _ wd_27)
  obtain ⟨c2, i2, k2⟩ := u_known (n := 3) hw in_Queue (hw _ wd_35)
  obtain ⟨c3, i3, k3⟩ := u_known (n := 11) hw in_Stage (hw _ wd_466)
  obtain ⟨c4, i4, k4⟩ := u_known (n := 10) hw in_Scope (hw _ wd_634)
  obtain ⟨c5, i5, k5⟩ := u_known (n := 9) hw in_Task (hw _ wd_702)
  obtain ⟨c6, i6, k6⟩ := u_known (n := 6) hw in_Tree (hw _ wd_69)
  obtain ⟨c7, i7, k7⟩ := u_known (n := 44) hw in_Mod (hw _ wd_757)
  obtain ⟨a4, q4, r4⟩ := lw_aro (hw _ wd_33)
  obtain ⟨a8, q8, r8⟩ := lw_aro (hw _ wd_75)
  obtain ⟨a9, q9, r9⟩ := lw_aro (hw _ wd_77)
  obtain ⟨aI, qI, rI⟩ := lw_arr (hw _ wd_680)
  obtain ⟨aZ, qZ, rZ⟩ := lw_arr (hw _ wd_681)
  obtain ⟨aJ, qJ, rJ⟩ := lw_arr (hw _ wd_895)
  refine ⟨(fun c => match c with | 0 => c0 | 1 => c1 | 2 => c2 | 3 => c3 | 4 => c4 | 5 => c5 | 6 => c6 | _ => c7, fun c => match c with | 0 => i0 | 1 => i1 | 2 => i2 | 3 => i3 | 4 => i4 | 5 => i5 | 6 => i6 | _ => i7), fun κ => match κ with | 4 => a4 | 8 => a8 | 9 => a9 | 10 => aI | 14 => aI | 11 => aZ | 15 => aZ | _ => aJ, hw, fun c q hc => ?_, fun k q hk => ?_⟩
  · match c, hc with
    | 0, hc => cases hc; exact k0
    | 1, hc => cases hc; exact k1
    | 2, hc => cases hc; exact k2
    | 3, hc => cases hc; exact k3
    | 4, hc => cases hc; exact k4
    | 5, hc => cases hc; exact k5
    | 6, hc => cases hc; exact k6
    | 7, hc => cases hc; exact k7
    | n + 8, hc => cases hc
  · match k, hk with
    | 0, hk => cases hk; exact ⟨q4, r4⟩
    | 1, hk => cases hk; exact ⟨q8, r8⟩
    | 2, hk => cases hk; exact ⟨q9, r9⟩
    | 3, hk => cases hk; exact ⟨qI, rI⟩
    | 4, hk => cases hk; exact ⟨qZ, rZ⟩
    | 5, hk => cases hk; exact ⟨qJ, rJ⟩
    | 6, hk => cases hk; exact ⟨qI, rI⟩
    | 7, hk => cases hk; exact ⟨qZ, rZ⟩
    | 8, hk => cases hk; exact ⟨qJ, rJ⟩
    | n + 9, hk => cases hk
set_option maxHeartbeats 4000000 in
/-- from the entry, for every script of at most 3584 ints, the law comes to its end with true -/
theorem whole_start {p : Program} {e : Env} {s : State} {m : MethodId} {below : List Frame} {meth : Method} {c : Code} (l : Launch) (htr : l.stackTraces = false) {b L : Nat} {xs : Nat → Int32} (hL : L ≤ 3584) (C0 : lw_At p s m meth c b L xs) : W p l e room_1 s m #[Value.ref b] below meth c s.heap [] 0 0 (lw_Z below #[Value.ref b] s) (entryFrame m ([Value.ref b] : List Value).toArray 7) := by
  obtain ⟨hx, hb, hret, hml, hown, hts, hX, hbl, hlk, hgv⟩ := C0
  have hgf := flat_of_before _ hgv
  obtain ⟨D, ca, hG⟩ := lw_G hts
  have E : ps_E p s m c code 7 "PromiseScopesLaw" D ca := ⟨hx, hb, hml, hown, hG⟩
  have hl := lv_entry [Value.ref b] (n := 7) (Nat.le_of_ble_eq_true rfl)
  have hV := lw_V (A := fun q => s.heap.size ≤ q) (adr0 := fun _ _ => 0) (σ0 := σ_i) (args := #[Value.ref b]) (e := e) (below := below) (meth := meth) (Q := lw_Z below #[Value.ref b] s) l htr E hX hbl (Nat.not_le.mpr hbl) (lw_Zs hts hgf) (lw_Ys hgf) hL (fun L' σ' ce' sl' h1 h2 => by
    refine pv_iconst (v := 1) E d_Law_law_1220 (by decide) ?_
    intro adr H locs ls hB hs hLo hls
    exact W.widen h1 h2 (va_forget hB.2.1.2.2 (lw_ret hx hb hret hlk d_Law_law_1221)))
  rw [lg_entry_eq]
  exact hV (fun _ _ => 0) s.heap [] _ ⟨⟨fun κ i h => absurd h (Nat.not_lt_zero i), fun κ i κ' i' h => absurd h (Nat.not_lt_zero i), fun κ i j q h => absurd h (Nat.not_lt_zero i)⟩, va_S.rf, fun q hq => hq, fun _ _ _ => rfl, fun _ => Nat.le_refl _⟩ (fun a h => by cases h) (fun q hq => by rw [List.mem_singleton] at hq; subst hq; trivial) hl
