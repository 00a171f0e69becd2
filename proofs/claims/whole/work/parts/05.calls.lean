/-! A method's contract over stores; calls; the ends. -/
def ps_Pc (D : va_G) (ca : Nat → ClassId) (A : Nat → Prop) (adr : Nat → Nat → Nat) (σ : ps_S) (as : List ps_A) : Array Value → State → Prop := fun v U =>
  v = (as.map (ps_v adr)).toArray ∧ (∀ a ∈ as, ps_ok σ a) ∧ ps_W D ca adr A σ U.heap ∧ ps_G D ca U ∧ ∀ q, U.heap.size ≤ q → A q
def ps_Qc (D : va_G) (ca : Nat → ClassId) (A : Nat → Prop) (adr : Nat → Nat → Nat) (σ : ps_S) (Qf : Option ps_A → ps_S → Prop) : Array Value → State → Outcome → State → Prop := fun _ st o t =>
  ∃ (r : Option ps_A) (σ' : ps_S) (adr' : Nat → Nat → Nat), Qf r σ' ∧ o = .returned (r.map (ps_v adr')) ∧ (∀ κ i, i < ps_N σ κ → adr' κ i = adr κ i) ∧ (∀ κ, ps_N σ κ ≤ ps_N σ' κ) ∧ (∀ a, r = some a → ps_ok σ' a) ∧ ps_W D ca adr' A σ' t.heap ∧ va_F A st t
/-- the contract: at the store σ, with these arguments, y returns an answer and a store with Qf -/
abbrev ps_M (l : Launch) (y : MethodName) (cc : ByteArray) (maxL : Nat) (ret : Option FieldType) (rm : Room) (D : va_G) (ca : Nat → ClassId) (A : Nat → Prop) (adr : Nat → Nat → Nat) (σ : ps_S) (as : List ps_A) (Qf : Option ps_A → ps_S → Prop) : Prop :=
  Met l y [Cond.code y cc maxL ret] rm (ps_Pc D ca A adr σ as) (ps_Qc D ca A adr σ Qf) rm.cells rm.slots A
theorem ps_Pc.blind {D : va_G} {ca : Nat → ClassId} {A : Nat → Prop} {adr : Nat → Nat → Nat} {σ : ps_S} {as : List ps_A} : FrameBlind (ps_Pc D ca A adr σ as) := by
  intro a U g mk h
  obtain ⟨h1, h2, h3, h4, h5⟩ := h
  exact ⟨h1, h2, h3, h4.warm (U := U.calling g mk a) (State.WarmedH.refl U), h5⟩
def ps_as : Nat → List ps_A → List (Nat × ps_A)
  | _, [] => []
  | i, a :: as => (i, a) :: ps_as (if ps_cat a = 2 then i + 2 else i + 1) as
theorem ps_as_map (adr : Nat → Nat → Nat) : ∀ (as : List ps_A) (i : Nat), ((ps_as i as).map fun q => (q.1, ps_v adr q.2)) = lv_args i (as.map (ps_v adr))
  | [], i => rfl
  | a :: as, i => by
    rw [ps_as, List.map_cons, List.map_cons, lv_args, ps_as_map adr as, ps_cat_v]
theorem ps_as_ok {σ : ps_S} : ∀ (as : List ps_A) (i : Nat), (∀ a ∈ as, ps_ok σ a) → ∀ q ∈ ps_as i as, ps_ok σ q.2
  | [], i, _, q, hq => by cases hq
  | a :: as, i, h, q, hq => by
    rw [ps_as] at hq
    rcases List.mem_cons.mp hq with rfl | hq
    · exact h a List.mem_cons_self
    · exact ps_as_ok as _ (fun b hb => h b (List.mem_cons_of_mem _ hb)) q hq
def ps_len : List ps_A → Nat
  | [] => 0
  | a :: as => ps_cat a + ps_len as
theorem ps_len_v (adr : Nat → Nat → Nat) : ∀ as : List ps_A, (lg_sl (as.map (ps_v adr))).length = ps_len as
  | [] => rfl
  | a :: as => by
    have ih := ps_len_v adr as
    rw [List.map_cons, ps_len]
    unfold lg_sl at ih ⊢
    rw [List.flatMap_cons, List.length_append, ih, ps_cat_v]
    rcases a with x | x | r | b
    · rfl
    · rfl
    · rfl
    · rfl
theorem ps_M.of {l : Launch} {y : MethodName} {cc : ByteArray} {maxL : Nat} {ret : Option FieldType} {rm : Room} {D : va_G} {ca : Nat → ClassId} {A : Nat → Prop} {adr : Nat → Nat → Nat} {σ : ps_S} {as : List ps_A} {Qf : Option ps_A → ps_S → Prop}
    (hy : plainName y.cls = true) (hlen : ps_len as ≤ maxL)
    (body : ∀ (p : Program) (e : Env) (s : State) (m : MethodId) (args : Array Value) (below : List Frame) (meth : Method) (c : Code), ps_E p s m c cc maxL y.cls D ca → meth.sig.returnType = ret → meth.locks = false → meth.name = y.name →
      ps_V p l e rm s m args below meth c maxL D ca A s.heap adr σ (MQ below (ps_Qc D ca A adr σ Qf) args s rm.cells rm.slots A) 0 (ps_as 0 as) [] σ 0 0) : ps_M l y cc maxL ret rm D ca A adr σ as Qf := by
  refine Met.ofW (cc := cc) (maxL := maxL) (ret := ret) hy rfl ?_
  intro p e s m args below meth c s₁ B hml hv
  obtain ⟨rfl, hok, hW, hG, hA⟩ := hv
  have hE : ps_E p s m c cc maxL y.cls D ca := ⟨B.exec, B.bytes, hml, findClass_of_methodNamed B.named, hG⟩
  have hl := lv_entry (as.map (ps_v adr)) (n := maxL) (by rw [ps_len_v]; exact hlen)
  rw [lg_entry_eq]
  exact body p e s m _ below meth c hE B.returns B.notSynchronized (name_of_methodNamed B.named B.method).1 adr s.heap [] _ ⟨hW, va_S.rf, hA, fun _ _ _ => rfl, fun _ => Nat.le_refl _⟩ (fun a h => by cases h) (ps_as_ok as 0 hok) (by rw [ps_as_map]; exact hl)
theorem ps_room {m : MethodId} {pc : Nat} {ls : Array Slot} {st : List Value} {rest : List ps_A} {adr : Nat → Nat → Nat} (h : (rest.map ps_cat).sum ≤ 8) : 2 * (F0 m pc ls st).monitorRoom + ((rest.map (ps_v adr)).map fun v => v.category).sum ≤ 8 := by
  refine lv_room ?_
  rw [List.map_map]
  have e : (fun v => Value.category v) ∘ ps_v adr = ps_cat := by
    funext a
    exact ps_cat_v adr a
  rw [show ((fun v : Value => v.category) ∘ ps_v adr) = ps_cat from e]
  exact h
/-- what a callee's names give: an instance method -/
def ps_YV (y : MethodName) (cc : ByteArray) (maxL : Nat) (ret : Option FieldType) (n : Nat) : Prop :=
  Cond.code y cc maxL ret ∈ ps_T ∧ Cond.initialized y.cls ∈ ps_T ∧ Cond.instanceMethod y ∈ ps_T ∧ Cond.selects y.cls y y ∈ ps_T ∧ y.cls ≠ "java/lang/invoke/MethodHandle" ∧ y.cls ≠ "java/lang/invoke/VarHandle" ∧ (parseMethodDescriptor y.desc).map (fun d => d.parameters.length) = some n
def ps_YS (y : MethodName) (cc : ByteArray) (maxL : Nat) (ret : Option FieldType) (n : Nat) : Prop :=
  Cond.code y cc maxL ret ∈ ps_T ∧ Cond.initialized y.cls ∈ ps_T ∧ Cond.static y ∈ ps_T ∧ y.cls ≠ "java/lang/invoke/MethodHandle" ∧ y.cls ≠ "java/lang/invoke/VarHandle" ∧ (parseMethodDescriptor y.desc).map (fun d => d.parameters.length) = some n
def ps_YI (y : MethodName) (cc : ByteArray) (maxL : Nat) (n : Nat) : Prop :=
  Cond.code y cc maxL none ∈ ps_T ∧ Cond.initialized y.cls ∈ ps_T ∧ Cond.instanceMethod y ∈ ps_T ∧ y.name = "<init>" ∧ y.cls ≠ "java/lang/invoke/MethodHandle" ∧ y.cls ≠ "java/lang/invoke/VarHandle" ∧ (parseMethodDescriptor y.desc).map (fun d => d.parameters.length) = some n
theorem ps_gc {y : MethodName} {cc : ByteArray} {maxL : Nat} {ret : Option FieldType} (h : Cond.code y cc maxL ret ∈ ps_T) : GoodIn ps_T [Cond.code y cc maxL ret] := by
  intro w hw
  rw [List.mem_singleton] at hw
  subst hw
  exact ⟨h, Or.inl rfl⟩
def ps_sub (L : List (Nat × ps_A)) : List (Nat × ps_A) → Prop
  | [] => True
  | q :: r => L.lookup q.1 = some q.2 ∧ ps_sub L r
theorem ps_sub_mem {L : List (Nat × ps_A)} : ∀ {L' : List (Nat × ps_A)}, ps_sub L L' → ∀ q ∈ L', L.lookup q.1 = some q.2
  | [], _, q, hq => by cases hq
  | a :: r, h, q, hq => by
    rcases List.mem_cons.mp hq with rfl | hq
    · exact h.1
    · exact ps_sub_mem h.2 q hq
section PSC
variable {p : Program} {l : Launch} {e : Env} {R : Room} {s : State} {m : MethodId} {args : Array Value} {below : List Frame} {meth : Method} {c : Code} {nL : Nat} {D : va_G} {ca : Nat → ClassId} {A : Nat → Prop} {H0 : Heap} {adr0 : Nat → Nat → Nat} {σ0 : ps_S} {Q : State → Prop}
variable {cc : ByteArray} {own : String} {pc : Nat} {L : List (Nat × ps_A)} {st : List ps_A} {σ : ps_S} {ce sl : Nat}
theorem pv_run {stk rest : List ps_A} {mc ms : Nat} {Qf : Option ps_A → ps_S → Prop} {av : (Nat → Nat → Nat) → Array Value}
    (hr : ∀ (adr : Nat → Nat → Nat) (H : Heap) (locs : List Loc) (ls : Array Slot), ps_B D ca A H0 adr0 σ0 adr σ H locs → (∀ a ∈ stk, ps_ok σ a) → ls.size = nL → va_Run p l e R s m args below meth c H locs ce sl mc ms (F0 m pc ls (stk.map (ps_v adr))) (rest.map (ps_v adr)) (ps_Qc D ca A adr σ Qf (av adr)) A)
    (hsub : ∀ a ∈ rest, a ∈ stk)
    (kk : ∀ (r : Option ps_A) (σ' : ps_S), Qf r σ' → ps_V p l e R s m args below meth c nL D ca A H0 adr0 σ0 Q (pc + 3) L (r.toList ++ rest) σ' (ce + mc) (sl + ms)) : ps_V p l e R s m args below meth c nL D ca A H0 adr0 σ0 Q pc L stk σ ce sl := by
  intro adr H locs ls hB hs hL hls T hT X
  obtain ⟨v, st₀, t, T', Lc, h0, X', hLf, e1, e2, ⟨r, σ', adr', hq, ho, hag, hmono, hok, hW', hF⟩, go⟩ := hr adr H locs ls hB hs hls.1 T hT X
  have hv : v = r.map (ps_v adr') := Outcome.returned.inj ho
  subst hv
  have hS := hB.2.1
  have hrest : ∀ a ∈ rest, ps_ok σ a := fun a ha => hs a (hsub a ha)
  have hB' : ps_B D ca A H0 adr0 σ0 adr' σ' T'.heap (locs ++ Lc) := by
    refine ⟨by rw [e1]; exact hW', ⟨?_, fun q h1 h2 => ?_, fun q hq => ?_⟩, hB.2.2.1, fun κ i hi => (hag κ i (Nat.lt_of_lt_of_le hi (hB.2.2.2.2 κ))).trans (hB.2.2.2.1 κ i hi), fun κ => Nat.le_trans (hB.2.2.2.2 κ) (hmono κ)⟩
    · rw [e1]
      exact Nat.le_trans hS.1 (by rw [← h0]; exact hF.1)
    · rw [e1, hF.2 q (by rw [h0]; exact Nat.lt_of_lt_of_le h1 hS.1) h2, h0]
      exact hS.2.1 q h1 h2
    · rcases List.mem_append.mp hq with h | h
      · exact hS.2.2 q h
      · exact hLf q h
  have hst : ∀ a ∈ r.toList ++ rest, ps_ok σ' a := by
    intro a ha
    rcases List.mem_append.mp ha with h | h
    · exact hok a (Option.mem_toList.mp h)
    · exact ps_ok_up hmono (hrest a h)
  obtain ⟨t2, a1, b1⟩ := kk r σ' hq adr' T'.heap (locs ++ Lc) ls hB' hst (fun q hq => ps_ok_up hmono (hL q hq)) (by rw [ps_L_eq hag hL]; exact hls) T' rfl X'
  have e5 : (r.toList ++ rest).map (ps_v adr') = (r.map (ps_v adr')).toList ++ rest.map (ps_v adr) := by
    rw [List.map_append, ps_st_eq hag hrest]
    cases r <;> rfl
  rw [e5] at a1
  exact ⟨t2, go t2 a1, b1⟩
theorem ps_rest {as rest : List ps_A} : ∀ a ∈ rest, a ∈ as ++ rest := fun _ h => List.mem_append_right _ h
theorem ps_rest2 {as rest : List ps_A} {b : ps_A} : ∀ a ∈ rest, a ∈ as ++ b :: rest := fun _ h => List.mem_append_right _ (List.mem_cons_of_mem _ h)
theorem pv_callV (E : ps_E p s m c cc nL own D ca) {y : MethodName} {bytes : ByteArray} {maxL : Nat} {ret : Option FieldType} {rm : Room} {index ci n : Nat} {T : u_T} {N : Nat} {κ i : Nat} {as rest stk : List ps_A} {Qf : Option ps_A → ps_S → Prop}
    (hM : ∀ adr, ps_M l y bytes maxL ret rm D ca A adr σ (ps_ref (some (κ, i)) :: as) Qf) (hY : ps_YV y bytes maxL ret n) (w1 : Cond.methodLink own index y ∈ ps_T)
    (hst : stk = as.reverse ++ ps_ref (some (κ, i)) :: rest) (hn : as.length = n) (hF : ∀ adr, ∃ fs, ps_cell ca adr σ κ i = .inr (ci, fs)) (hc : ps_cl[ci]? = some (y.cls, T, N)) (hR : rm.frames + 1 ≤ R.frames ∧ 8 + (maxL + 11) + rm.locals ≤ R.locals) (hro : (rest.map ps_cat).sum ≤ 8)
    (hd : decode cc pc = .ok (.invokevirtual index, 3)) (hf : ce + rm.cells ≤ R.cells ∧ sl + rm.slots ≤ R.slots)
    (kk : ∀ (r : Option ps_A) (σ' : ps_S), Qf r σ' → ps_V p l e R s m args below meth c nL D ca A H0 adr0 σ0 Q (pc + 3) L (r.toList ++ rest) σ' (ce + rm.cells) (sl + rm.slots)) : ps_V p l e R s m args below meth c nL D ca A H0 adr0 σ0 Q pc L stk σ ce sl := by
  subst hst
  refine pv_run (av := fun adr => ((ps_ref (some (κ, i)) :: as).map (ps_v adr)).toArray) (fun adr H locs ls hB hs hsz => ?_) ps_rest2 kk
  obtain ⟨y1, y2, y3, y4, y5, y6, y7⟩ := hY
  have hi : i < ps_N σ κ := hs _ (List.mem_append_right _ List.mem_cons_self)
  have ht := E.2.2.2.2.words args
  obtain ⟨fs, hfs⟩ := hF adr
  obtain ⟨k0, hk0⟩ := ps_ws_get (ca := ca) (adr := adr) hi (hB.1.1 κ i hi).1
  rw [hfs] at hk0
  refine va_runV (As := as.map (ps_v adr)) (b := adr κ i) (C := y.cls) ⟨E.1, E.2.1, E.2.2.1, E.2.2.2.1, ht⟩ (hM adr) ⟨callB_of n ht (ps_gc y1) rfl rfl rfl (ht _ y2) (ht _ w1) ⟨y5, y6, y7⟩ hR, ht _ y3, ht _ y4⟩
    ⟨ps_Pc.blind, va_recv E.2.2.2.2.2 hB.1.P hc hk0, fun U hU hW => ⟨rfl, fun a ha => hs a ?_, by rw [hU]; exact hB.1, E.2.2.2.2.warm hW, fun q hq => hB.2.2.1 q (Nat.le_trans hB.2.1.1 (by rw [hU] at hq; exact hq))⟩⟩ rfl (by rw [List.length_map]; exact hn) hsz ?_ (ps_room hro) hd hf
  · rcases List.mem_cons.mp ha with rfl | h
    · exact List.mem_append_right _ List.mem_cons_self
    · exact List.mem_append_left _ (List.mem_reverse.mpr h)
  · show (as.reverse ++ ps_ref (some (κ, i)) :: rest).map (ps_v adr) = _
    rw [List.map_append, List.map_reverse]
    rfl
theorem pv_callVN (E : ps_E p s m c cc nL own D ca) {y : MethodName} {bytes : ByteArray} {maxL : Nat} {ret : Option FieldType} {rm : Room} {index ci n : Nat} {T : u_T} {N : Nat} {host : String} {κ i : Nat} {as rest stk : List ps_A} {Qf : Option ps_A → ps_S → Prop}
    (hM : ∀ adr, ps_M l y bytes maxL ret rm D ca A adr σ (ps_ref (some (κ, i)) :: as) Qf) (hY : ps_YV y bytes maxL ret n) (w1 : Cond.methodLinkNest own index y host ∈ ps_T)
    (hst : stk = as.reverse ++ ps_ref (some (κ, i)) :: rest) (hn : as.length = n) (hF : ∀ adr, ∃ fs, ps_cell ca adr σ κ i = .inr (ci, fs)) (hc : ps_cl[ci]? = some (y.cls, T, N)) (hR : rm.frames + 1 ≤ R.frames ∧ 8 + (maxL + 11) + rm.locals ≤ R.locals) (hro : (rest.map ps_cat).sum ≤ 8)
    (hd : decode cc pc = .ok (.invokevirtual index, 3)) (hf : ce + rm.cells ≤ R.cells ∧ sl + rm.slots ≤ R.slots)
    (kk : ∀ (r : Option ps_A) (σ' : ps_S), Qf r σ' → ps_V p l e R s m args below meth c nL D ca A H0 adr0 σ0 Q (pc + 3) L (r.toList ++ rest) σ' (ce + rm.cells) (sl + rm.slots)) : ps_V p l e R s m args below meth c nL D ca A H0 adr0 σ0 Q pc L stk σ ce sl := by
  subst hst
  refine pv_run (av := fun adr => ((ps_ref (some (κ, i)) :: as).map (ps_v adr)).toArray) (fun adr H locs ls hB hs hsz => ?_) ps_rest2 kk
  obtain ⟨y1, y2, y3, y4, y5, y6, y7⟩ := hY
  have hi : i < ps_N σ κ := hs _ (List.mem_append_right _ List.mem_cons_self)
  have ht := E.2.2.2.2.words args
  obtain ⟨fs, hfs⟩ := hF adr
  obtain ⟨k0, hk0⟩ := ps_ws_get (ca := ca) (adr := adr) hi (hB.1.1 κ i hi).1
  rw [hfs] at hk0
  refine va_runVN (As := as.map (ps_v adr)) (b := adr κ i) (C := y.cls) (host := host) ⟨E.1, E.2.1, E.2.2.1, E.2.2.2.1, ht⟩ (hM adr) ⟨va_cnB n ht (ps_gc y1) rfl rfl rfl (va_Nw.of rfl (ht _ w1)) (ht _ y2) ⟨y5, y6, y7⟩ hR, ht _ y3, ht _ y4⟩
    ⟨ps_Pc.blind, va_recv E.2.2.2.2.2 hB.1.P hc hk0, fun U hU hW => ⟨rfl, fun a ha => hs a ?_, by rw [hU]; exact hB.1, E.2.2.2.2.warm hW, fun q hq => hB.2.2.1 q (Nat.le_trans hB.2.1.1 (by rw [hU] at hq; exact hq))⟩⟩ rfl (by rw [List.length_map]; exact hn) hsz ?_ (ps_room hro) hd hf
  · rcases List.mem_cons.mp ha with rfl | h
    · exact List.mem_append_right _ List.mem_cons_self
    · exact List.mem_append_left _ (List.mem_reverse.mpr h)
  · show (as.reverse ++ ps_ref (some (κ, i)) :: rest).map (ps_v adr) = _
    rw [List.map_append, List.map_reverse]
    rfl
theorem pv_callS (E : ps_E p s m c cc nL own D ca) {y : MethodName} {bytes : ByteArray} {maxL : Nat} {ret : Option FieldType} {rm : Room} {index n : Nat} {as rest stk : List ps_A} {Qf : Option ps_A → ps_S → Prop}
    (hM : ∀ adr, ps_M l y bytes maxL ret rm D ca A adr σ as Qf) (hY : ps_YS y bytes maxL ret n) (w1 : Cond.methodLink own index y ∈ ps_T)
    (hst : stk = as.reverse ++ rest) (hn : as.length = n) (hR : rm.frames + 1 ≤ R.frames ∧ 8 + (maxL + 11) + rm.locals ≤ R.locals) (hro : (rest.map ps_cat).sum ≤ 8)
    (hd : decode cc pc = .ok (.invokestatic index, 3)) (hf : ce + rm.cells ≤ R.cells ∧ sl + rm.slots ≤ R.slots)
    (kk : ∀ (r : Option ps_A) (σ' : ps_S), Qf r σ' → ps_V p l e R s m args below meth c nL D ca A H0 adr0 σ0 Q (pc + 3) L (r.toList ++ rest) σ' (ce + rm.cells) (sl + rm.slots)) : ps_V p l e R s m args below meth c nL D ca A H0 adr0 σ0 Q pc L stk σ ce sl := by
  subst hst
  refine pv_run (av := fun adr => (as.map (ps_v adr)).toArray) (fun adr H locs ls hB hs hsz => ?_) ps_rest kk
  obtain ⟨y1, y2, y3, y5, y6, y7⟩ := hY
  have ht := E.2.2.2.2.words args
  refine va_runS (As := as.map (ps_v adr)) ⟨E.1, E.2.1, E.2.2.1, E.2.2.2.1, ht⟩ (hM adr) ⟨callB_of n ht (ps_gc y1) rfl rfl rfl (ht _ y2) (ht _ w1) ⟨y5, y6, y7⟩ hR, ht _ y3⟩
    ⟨ps_Pc.blind, fun U hU hW => ⟨rfl, fun a ha => hs a (List.mem_append_left _ (List.mem_reverse.mpr ha)), by rw [hU]; exact hB.1, E.2.2.2.2.warm hW, fun q hq => hB.2.2.1 q (Nat.le_trans hB.2.1.1 (by rw [hU] at hq; exact hq))⟩⟩ rfl (by rw [List.length_map]; exact hn) hsz ?_ (ps_room hro) hd hf
  show (as.reverse ++ rest).map (ps_v adr) = _
  rw [List.map_append, List.map_reverse]
theorem pv_callSN (E : ps_E p s m c cc nL own D ca) {y : MethodName} {bytes : ByteArray} {maxL : Nat} {ret : Option FieldType} {rm : Room} {index n : Nat} {host : String} {as rest stk : List ps_A} {Qf : Option ps_A → ps_S → Prop}
    (hM : ∀ adr, ps_M l y bytes maxL ret rm D ca A adr σ as Qf) (hY : ps_YS y bytes maxL ret n) (w1 : Cond.methodLinkNest own index y host ∈ ps_T)
    (hst : stk = as.reverse ++ rest) (hn : as.length = n) (hR : rm.frames + 1 ≤ R.frames ∧ 8 + (maxL + 11) + rm.locals ≤ R.locals) (hro : (rest.map ps_cat).sum ≤ 8)
    (hd : decode cc pc = .ok (.invokestatic index, 3)) (hf : ce + rm.cells ≤ R.cells ∧ sl + rm.slots ≤ R.slots)
    (kk : ∀ (r : Option ps_A) (σ' : ps_S), Qf r σ' → ps_V p l e R s m args below meth c nL D ca A H0 adr0 σ0 Q (pc + 3) L (r.toList ++ rest) σ' (ce + rm.cells) (sl + rm.slots)) : ps_V p l e R s m args below meth c nL D ca A H0 adr0 σ0 Q pc L stk σ ce sl := by
  subst hst
  refine pv_run (av := fun adr => (as.map (ps_v adr)).toArray) (fun adr H locs ls hB hs hsz => ?_) ps_rest kk
  obtain ⟨y1, y2, y3, y5, y6, y7⟩ := hY
  have ht := E.2.2.2.2.words args
  refine va_runSN (As := as.map (ps_v adr)) (host := host) ⟨E.1, E.2.1, E.2.2.1, E.2.2.2.1, ht⟩ (hM adr) ⟨va_cnB n ht (ps_gc y1) rfl rfl rfl (va_Nw.of rfl (ht _ w1)) (ht _ y2) ⟨y5, y6, y7⟩ hR, ht _ y3, trivial⟩
    ⟨ps_Pc.blind, fun U hU hW => ⟨rfl, fun a ha => hs a (List.mem_append_left _ (List.mem_reverse.mpr ha)), by rw [hU]; exact hB.1, E.2.2.2.2.warm hW, fun q hq => hB.2.2.1 q (Nat.le_trans hB.2.1.1 (by rw [hU] at hq; exact hq))⟩⟩ rfl (by rw [List.length_map]; exact hn) hsz ?_ (ps_room hro) hd hf
  show (as.reverse ++ rest).map (ps_v adr) = _
  rw [List.map_append, List.map_reverse]
theorem pv_callI (E : ps_E p s m c cc nL own D ca) {y : MethodName} {bytes : ByteArray} {maxL : Nat} {rm : Room} {index n : Nat} {κ i : Nat} {as rest stk : List ps_A} {Qf : Option ps_A → ps_S → Prop}
    (hM : ∀ adr, ps_M l y bytes maxL none rm D ca A adr σ (ps_ref (some (κ, i)) :: as) Qf) (hY : ps_YI y bytes maxL n) (w1 : Cond.methodLink own index y ∈ ps_T)
    (hst : stk = as.reverse ++ ps_ref (some (κ, i)) :: rest) (hn : as.length = n) (hR : rm.frames + 1 ≤ R.frames ∧ 8 + (maxL + 11) + rm.locals ≤ R.locals) (hro : (rest.map ps_cat).sum ≤ 8)
    (hd : decode cc pc = .ok (.invokespecial index, 3)) (hf : ce + rm.cells ≤ R.cells ∧ sl + rm.slots ≤ R.slots)
    (kk : ∀ (r : Option ps_A) (σ' : ps_S), Qf r σ' → ps_V p l e R s m args below meth c nL D ca A H0 adr0 σ0 Q (pc + 3) L (r.toList ++ rest) σ' (ce + rm.cells) (sl + rm.slots)) : ps_V p l e R s m args below meth c nL D ca A H0 adr0 σ0 Q pc L stk σ ce sl := by
  subst hst
  refine pv_run (av := fun adr => ((ps_ref (some (κ, i)) :: as).map (ps_v adr)).toArray) (fun adr H locs ls hB hs hsz => ?_) ps_rest2 kk
  obtain ⟨y1, y2, y3, y4, y5, y6, y7⟩ := hY
  have ht := E.2.2.2.2.words args
  refine va_runI (As := as.map (ps_v adr)) (b := adr κ i) ⟨E.1, E.2.1, E.2.2.1, E.2.2.2.1, ht⟩ (hM adr) ⟨callB_of n ht (ps_gc y1) rfl rfl rfl (ht _ y2) (ht _ w1) ⟨y5, y6, y7⟩ hR, y4, ht _ y3⟩
    ⟨ps_Pc.blind, fun U hU hW => ⟨rfl, fun a ha => hs a ?_, by rw [hU]; exact hB.1, E.2.2.2.2.warm hW, fun q hq => hB.2.2.1 q (Nat.le_trans hB.2.1.1 (by rw [hU] at hq; exact hq))⟩⟩ rfl (by rw [List.length_map]; exact hn) hsz ?_ (ps_room hro) hd hf
  · rcases List.mem_cons.mp ha with rfl | h
    · exact List.mem_append_right _ List.mem_cons_self
    · exact List.mem_append_left _ (List.mem_reverse.mpr h)
  · show (as.reverse ++ ps_ref (some (κ, i)) :: rest).map (ps_v adr) = _
    rw [List.map_append, List.map_reverse]
    rfl
theorem pv_callIN (E : ps_E p s m c cc nL own D ca) {y : MethodName} {bytes : ByteArray} {maxL : Nat} {rm : Room} {index n : Nat} {host : String} {κ i : Nat} {as rest stk : List ps_A} {Qf : Option ps_A → ps_S → Prop}
    (hM : ∀ adr, ps_M l y bytes maxL none rm D ca A adr σ (ps_ref (some (κ, i)) :: as) Qf) (hY : ps_YI y bytes maxL n) (w1 : Cond.methodLinkNest own index y host ∈ ps_T)
    (hst : stk = as.reverse ++ ps_ref (some (κ, i)) :: rest) (hn : as.length = n) (hR : rm.frames + 1 ≤ R.frames ∧ 8 + (maxL + 11) + rm.locals ≤ R.locals) (hro : (rest.map ps_cat).sum ≤ 8)
    (hd : decode cc pc = .ok (.invokespecial index, 3)) (hf : ce + rm.cells ≤ R.cells ∧ sl + rm.slots ≤ R.slots)
    (kk : ∀ (r : Option ps_A) (σ' : ps_S), Qf r σ' → ps_V p l e R s m args below meth c nL D ca A H0 adr0 σ0 Q (pc + 3) L (r.toList ++ rest) σ' (ce + rm.cells) (sl + rm.slots)) : ps_V p l e R s m args below meth c nL D ca A H0 adr0 σ0 Q pc L stk σ ce sl := by
  subst hst
  refine pv_run (av := fun adr => ((ps_ref (some (κ, i)) :: as).map (ps_v adr)).toArray) (fun adr H locs ls hB hs hsz => ?_) ps_rest2 kk
  obtain ⟨y1, y2, y3, y4, y5, y6, y7⟩ := hY
  have ht := E.2.2.2.2.words args
  refine va_runIN (As := as.map (ps_v adr)) (b := adr κ i) (host := host) ⟨E.1, E.2.1, E.2.2.1, E.2.2.2.1, ht⟩ (hM adr) ⟨va_cnB n ht (ps_gc y1) rfl rfl rfl (va_Nw.of rfl (ht _ w1)) (ht _ y2) ⟨y5, y6, y7⟩ hR, y4, ht _ y3⟩
    ⟨ps_Pc.blind, fun U hU hW => ⟨rfl, fun a ha => hs a ?_, by rw [hU]; exact hB.1, E.2.2.2.2.warm hW, fun q hq => hB.2.2.1 q (Nat.le_trans hB.2.1.1 (by rw [hU] at hq; exact hq))⟩⟩ rfl (by rw [List.length_map]; exact hn) hsz ?_ (ps_room hro) hd hf
  · rcases List.mem_cons.mp ha with rfl | h
    · exact List.mem_append_right _ List.mem_cons_self
    · exact List.mem_append_left _ (List.mem_reverse.mpr h)
  · show (as.reverse ++ ps_ref (some (κ, i)) :: rest).map (ps_v adr) = _
    rw [List.map_append, List.map_reverse]
    rfl
/-- Object.<init> -/
theorem pv_objInit (E : ps_E p s m c cc nL own D ca) {idx κ i : Nat} (w1 : Cond.methodLink own idx Lib.objectInit ∈ ps_T) (w2 : Cond.instanceMethod Lib.objectInit ∈ ps_T) (w3 : Cond.code Lib.objectInit ⟨#[0xb1]⟩ 1 none ∈ ps_T) (hro : (st.map ps_cat).sum + 12 ≤ R.locals) (hfr : 1 ≤ R.frames) (hd : decode cc pc = .ok (.invokespecial idx, 3))
    (kk : ps_V p l e R s m args below meth c nL D ca A H0 adr0 σ0 Q (pc + 3) L st σ ce sl) : ps_V p l e R s m args below meth c nL D ca A H0 adr0 σ0 Q pc L (ps_ref (some (κ, i)) :: st) σ ce sl := by
  intro adr H locs ls hB hs hL hls
  have ht := E.2.2.2.2.words args
  have e1 : ((st.map (ps_v adr)).map fun v => v.category).sum = (st.map ps_cat).sum := by
    rw [List.map_map]
    exact congrArg List.sum (List.map_congr_left fun a _ => ps_cat_v adr a)
  refine W.objInit (a := adr κ i) (rest := st.map (ps_v adr)) E.1 E.2.1 E.2.2.2.1 (ht _ w1) (ht _ w2) (ht _ w3) rfl (hls.1.trans E.2.2.1.symm) rfl hd hfr ?_ (kk adr H locs ls hB (ps_tl hs) hL hls)
  show 2 * 0 + _ + 12 ≤ _
  rw [e1]
  omega
theorem pv_sub {L' : List (Nat × ps_A)} (h : ps_sub L L') (kk : ps_V p l e R s m args below meth c nL D ca A H0 adr0 σ0 Q pc L' st σ ce sl) : ps_V p l e R s m args below meth c nL D ca A H0 adr0 σ0 Q pc L st σ ce sl := pv_loc L' (ps_sub_mem h) kk
/-- a loop: a measure that falls -/
theorem pv_loop {ι : Type} (μ : ι → Nat) (Lf : ι → List (Nat × ps_A)) (σf : ι → ps_S) (I : ι → Prop)
    (step : ∀ x, I x → (∀ y, I y → μ y < μ x → ps_V p l e R s m args below meth c nL D ca A H0 adr0 σ0 Q pc (Lf y) st (σf y) ce sl) → ps_V p l e R s m args below meth c nL D ca A H0 adr0 σ0 Q pc (Lf x) st (σf x) ce sl) :
    ∀ x, I x → ps_V p l e R s m args below meth c nL D ca A H0 adr0 σ0 Q pc (Lf x) st (σf x) ce sl := by
  have key : ∀ n x, μ x ≤ n → I x → ps_V p l e R s m args below meth c nL D ca A H0 adr0 σ0 Q pc (Lf x) st (σf x) ce sl := by
    intro n
    induction n with
    | zero => intro x hx hI; exact step x hI (fun y _ hlt => absurd hlt (by omega))
    | succ n ih => intro x hx hI; exact step x hI (fun y hy hlt => ih y (by omega) hy)
  intro x hI
  exact key _ x (Nat.le_refl _) hI
section Ends
variable {Qf : Option ps_A → ps_S → Prop} {mc ms : Nat}
theorem pv_iret (E : ps_E p s m c cc nL own D ca) {x : Int32} (hr : meth.sig.returnType = some .int) (hlk : meth.locks = false) (hd : decode cc pc = .ok (.ireturn, 1)) (h1 : ce ≤ mc) (h2 : sl ≤ ms) (hq : Qf (some (ps_int x)) σ) :
    ps_V p l e R s m args below meth c nL D ca A s.heap adr0 σ0 (MQ below (ps_Qc D ca A adr0 σ0 Qf) args s mc ms A) pc L [ps_int x] σ ce sl :=
  fun adr H locs ls hB hs hL hls => W.widen h1 h2 (W.iret E.1 E.2.1 hr (fun t ht hW => ⟨some (ps_int x), σ, adr, hq, rfl, hB.2.2.2.1, hB.2.2.2.2, fun a ha => by cases ha; trivial, by rw [ht]; exact hB.1, hB.2.1.F ht⟩) hB.2.1.2.2 hd hlk)
theorem pv_zret (E : ps_E p s m c cc nL own D ca) {x : Int32} (hr : meth.sig.returnType = some .boolean) (hlk : meth.locks = false) (hd : decode cc pc = .ok (.ireturn, 1)) (hn : narrow .boolean (.int x) = .int x) (h1 : ce ≤ mc) (h2 : sl ≤ ms) (hq : Qf (some (ps_int x)) σ) :
    ps_V p l e R s m args below meth c nL D ca A s.heap adr0 σ0 (MQ below (ps_Qc D ca A adr0 σ0 Qf) args s mc ms A) pc L [ps_int x] σ ce sl :=
  fun adr H locs ls hB hs hL hls => W.widen h1 h2 (W.zret E.1 E.2.1 hr hn (fun t ht hW => ⟨some (ps_int x), σ, adr, hq, rfl, hB.2.2.2.1, hB.2.2.2.2, fun a ha => by cases ha; trivial, by rw [ht]; exact hB.1, hB.2.1.F ht⟩) hB.2.1.2.2 hd hlk)
theorem pv_vret (E : ps_E p s m c cc nL own D ca) (hr : meth.sig.returnType = none) (hlk : meth.locks = false) (hd : decode cc pc = .ok (.return_, 1)) (h1 : ce ≤ mc) (h2 : sl ≤ ms) (hq : Qf none σ) :
    ps_V p l e R s m args below meth c nL D ca A s.heap adr0 σ0 (MQ below (ps_Qc D ca A adr0 σ0 Qf) args s mc ms A) pc L [] σ ce sl :=
  fun adr H locs ls hB hs hL hls => W.widen h1 h2 (W.vret E.1 E.2.1 hr (fun t ht hW => ⟨none, σ, adr, hq, rfl, hB.2.2.2.1, hB.2.2.2.2, fun a ha => (by cases ha), by rw [ht]; exact hB.1, hB.2.1.F ht⟩) hB.2.1.2.2 hd hlk)
theorem pv_aret (E : ps_E p s m c cc nL own D ca) {x : Option (Nat × Nat)} {rt : FieldType} (hr : meth.sig.returnType = some rt) (hrt : (∃ n, rt = .object n) ∨ ∃ t, rt = .array t) (hlk : meth.locks = false) (hd : decode cc pc = .ok (.areturn, 1)) (h1 : ce ≤ mc) (h2 : sl ≤ ms) (hq : Qf (some (ps_ref x)) σ) :
    ps_V p l e R s m args below meth c nL D ca A s.heap adr0 σ0 (MQ below (ps_Qc D ca A adr0 σ0 Qf) args s mc ms A) pc L [ps_ref x] σ ce sl :=
  fun adr H locs ls hB hs hL hls => W.widen h1 h2 (W.aret (v := va_rf (ps_e adr x)) E.1 E.2.1 hr hrt (va_rf_or _) (fun t ht hW => ⟨some (ps_ref x), σ, adr, hq, rfl, hB.2.2.2.1, hB.2.2.2.2, fun a ha => by cases ha; exact ps_hd hs, by rw [ht]; exact hB.1, hB.2.1.F ht⟩) hB.2.1.2.2 hd hlk)
end Ends
end PSC
