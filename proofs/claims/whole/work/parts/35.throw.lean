/-! Throwing: the words of the exceptions, the row from new to athrow, the contract of a method that throws (by gen_throw.py). -/
def th_nm : List String := ["java/lang/RuntimeException", "java/lang/Exception"]
/-- the words that must be carried along: they are no words of the tables alone -/
def th_X : List Cond := [(Jvm.Cond.castable "java/lang/IllegalStateException" "java/lang/IllegalStateException"), (Jvm.Cond.declares ({ cls := "java/lang/RuntimeException", name := "<init>", desc := "()V" } : Jvm.MethodName)), (Jvm.Cond.declares ({ cls := "java/lang/RuntimeException", name := "<init>", desc := "(Ljava/lang/String;)V" } : Jvm.MethodName)), (Jvm.Cond.declares ({ cls := "java/lang/Exception", name := "<init>", desc := "()V" } : Jvm.MethodName)), (Jvm.Cond.declares ({ cls := "java/lang/Exception", name := "<init>", desc := "(Ljava/lang/String;)V" } : Jvm.MethodName)), (Jvm.Cond.declares ({ cls := "java/lang/Throwable", name := "<init>", desc := "()V" } : Jvm.MethodName)), (Jvm.Cond.declares ({ cls := "java/lang/Throwable", name := "<init>", desc := "(Ljava/lang/String;)V" } : Jvm.MethodName)), (Jvm.Cond.laysStatic "java/lang/Throwable" "UNASSIGNED_STACK" "[Ljava/lang/StackTraceElement;"), (Jvm.Cond.laysStatic "java/lang/Throwable" "SUPPRESSED_SENTINEL" "Ljava/util/List;"), (Jvm.Cond.stringRef "PromiseScopes" (29 : Nat) "there are 48 stages"), (Jvm.Cond.castable "java/lang/IllegalArgumentException" "java/lang/IllegalArgumentException"), (Jvm.Cond.stringRef "PromiseScopes" (53 : Nat) "no such stage, kind or function"), (Jvm.Cond.stringRef "PromiseScopes" (74 : Nat) "no such stages or kind"), (Jvm.Cond.stringRef "PromiseScopes" (94 : Nat) "no such stage"), (Jvm.Cond.castable "java/lang/UnsupportedOperationException" "java/lang/UnsupportedOperationException"), (Jvm.Cond.stringRef "PromiseScopes" (101 : Nat) "the stage is pending"), (Jvm.Cond.stringRef "PromiseScopes" (104 : Nat) "the stage failed"), (Jvm.Cond.stringRef "PromiseScopes" (138 : Nat) "no such open parent or policy"), (Jvm.Cond.stringRef "PromiseScopes" (143 : Nat) "there are 12 scopes or 48 stages"), (Jvm.Cond.stringRef "PromiseScopes" (163 : Nat) "no such open scope, cost or function"), (Jvm.Cond.stringRef "PromiseScopes" (168 : Nat) "there are 30 tasks"), (Jvm.Cond.stringRef "PromiseScopes" (208 : Nat) "no such scope or key"), (Jvm.Cond.isRef (Jvm.Term.static "java/lang/Throwable" "UNASSIGNED_STACK" "[Ljava/lang/StackTraceElement;")), (Jvm.Cond.isRef (Jvm.Term.static "java/lang/Throwable" "SUPPRESSED_SENTINEL" "Ljava/util/List;"))]
theorem zx_0 : (Jvm.Cond.castable "java/lang/IllegalStateException" "java/lang/IllegalStateException") ∈ th_X := List.mem_of_getElem? (i := 0) rfl
theorem zx_1 : (Jvm.Cond.declares ({ cls := "java/lang/RuntimeException", name := "<init>", desc := "()V" } : Jvm.MethodName)) ∈ th_X := List.mem_of_getElem? (i := 1) rfl
theorem zx_2 : (Jvm.Cond.declares ({ cls := "java/lang/RuntimeException", name := "<init>", desc := "(Ljava/lang/String;)V" } : Jvm.MethodName)) ∈ th_X := List.mem_of_getElem? (i := 2) rfl
theorem zx_3 : (Jvm.Cond.declares ({ cls := "java/lang/Exception", name := "<init>", desc := "()V" } : Jvm.MethodName)) ∈ th_X := List.mem_of_getElem? (i := 3) rfl
theorem zx_4 : (Jvm.Cond.declares ({ cls := "java/lang/Exception", name := "<init>", desc := "(Ljava/lang/String;)V" } : Jvm.MethodName)) ∈ th_X := List.mem_of_getElem? (i := 4) rfl
theorem zx_5 : (Jvm.Cond.declares ({ cls := "java/lang/Throwable", name := "<init>", desc := "()V" } : Jvm.MethodName)) ∈ th_X := List.mem_of_getElem? (i := 5) rfl
theorem zx_6 : (Jvm.Cond.declares ({ cls := "java/lang/Throwable", name := "<init>", desc := "(Ljava/lang/String;)V" } : Jvm.MethodName)) ∈ th_X := List.mem_of_getElem? (i := 6) rfl
theorem zx_7 : (Jvm.Cond.laysStatic "java/lang/Throwable" "UNASSIGNED_STACK" "[Ljava/lang/StackTraceElement;") ∈ th_X := List.mem_of_getElem? (i := 7) rfl
theorem zx_8 : (Jvm.Cond.laysStatic "java/lang/Throwable" "SUPPRESSED_SENTINEL" "Ljava/util/List;") ∈ th_X := List.mem_of_getElem? (i := 8) rfl
theorem zx_9 : (Jvm.Cond.stringRef "PromiseScopes" (29 : Nat) "there are 48 stages") ∈ th_X := List.mem_of_getElem? (i := 9) rfl
theorem zx_10 : (Jvm.Cond.castable "java/lang/IllegalArgumentException" "java/lang/IllegalArgumentException") ∈ th_X := List.mem_of_getElem? (i := 10) rfl
theorem zx_11 : (Jvm.Cond.stringRef "PromiseScopes" (53 : Nat) "no such stage, kind or function") ∈ th_X := List.mem_of_getElem? (i := 11) rfl
theorem zx_12 : (Jvm.Cond.stringRef "PromiseScopes" (74 : Nat) "no such stages or kind") ∈ th_X := List.mem_of_getElem? (i := 12) rfl
theorem zx_13 : (Jvm.Cond.stringRef "PromiseScopes" (94 : Nat) "no such stage") ∈ th_X := List.mem_of_getElem? (i := 13) rfl
theorem zx_14 : (Jvm.Cond.castable "java/lang/UnsupportedOperationException" "java/lang/UnsupportedOperationException") ∈ th_X := List.mem_of_getElem? (i := 14) rfl
theorem zx_15 : (Jvm.Cond.stringRef "PromiseScopes" (101 : Nat) "the stage is pending") ∈ th_X := List.mem_of_getElem? (i := 15) rfl
theorem zx_16 : (Jvm.Cond.stringRef "PromiseScopes" (104 : Nat) "the stage failed") ∈ th_X := List.mem_of_getElem? (i := 16) rfl
theorem zx_17 : (Jvm.Cond.stringRef "PromiseScopes" (138 : Nat) "no such open parent or policy") ∈ th_X := List.mem_of_getElem? (i := 17) rfl
theorem zx_18 : (Jvm.Cond.stringRef "PromiseScopes" (143 : Nat) "there are 12 scopes or 48 stages") ∈ th_X := List.mem_of_getElem? (i := 18) rfl
theorem zx_19 : (Jvm.Cond.stringRef "PromiseScopes" (163 : Nat) "no such open scope, cost or function") ∈ th_X := List.mem_of_getElem? (i := 19) rfl
theorem zx_20 : (Jvm.Cond.stringRef "PromiseScopes" (168 : Nat) "there are 30 tasks") ∈ th_X := List.mem_of_getElem? (i := 20) rfl
theorem zx_21 : (Jvm.Cond.stringRef "PromiseScopes" (208 : Nat) "no such scope or key") ∈ th_X := List.mem_of_getElem? (i := 21) rfl
theorem zx_22 : (Jvm.Cond.isRef (Jvm.Term.static "java/lang/Throwable" "UNASSIGNED_STACK" "[Ljava/lang/StackTraceElement;")) ∈ th_X := List.mem_of_getElem? (i := 22) rfl
theorem zx_23 : (Jvm.Cond.isRef (Jvm.Term.static "java/lang/Throwable" "SUPPRESSED_SENTINEL" "Ljava/util/List;")) ∈ th_X := List.mem_of_getElem? (i := 23) rfl
set_option maxRecDepth 20000 in
theorem wx_412 : (Jvm.Cond.superclass "java/lang/Throwable" "java/lang/Object") ∈ ps_T := ps_in (List.mem_of_getElem? (i := 453) rfl) rfl
set_option maxRecDepth 20000 in
theorem wx_425 : (Jvm.Cond.codeSync ({ cls := "java/lang/Throwable", name := "fillInStackTrace", desc := "()Ljava/lang/Throwable;" } : Jvm.MethodName) prog_18_method_18_code (1 : Nat) (Option.some (Jvm.ClassFile.FieldType.object "java/lang/Throwable"))) ∈ ps_T := ps_in (List.mem_of_getElem? (i := 466) rfl) rfl
set_option maxRecDepth 20000 in
theorem wx_430 : (Jvm.Cond.native ({ cls := "java/lang/Throwable", name := "fillInStackTrace", desc := "(I)Ljava/lang/Throwable;" } : Jvm.MethodName)) ∈ ps_T := ps_in (List.mem_of_getElem? (i := 471) rfl) rfl
def ps_Z (A : Nat → Prop) (U : State) : Prop := ∀ (U' : State) (a : Array Value), U.WarmedH U'.vm → U.heap.size ≤ U'.heap.size → (∀ q, q < U.heap.size → ¬ A q → U'.heap[q]? = U.heap[q]?) → ∀ w ∈ th_X, w.before a U' = true
theorem ps_Z.to {A : Nat → Prop} {U V : State} (h : ps_Z A U) (hW : U.WarmedH V.vm) (h1 : U.heap.size ≤ V.heap.size) (h2 : ∀ q, q < U.heap.size → ¬ A q → V.heap[q]? = U.heap[q]?) : ps_Z A V := by
  intro U' a g1 g2 g3 w hw
  exact h U' a (State.WarmedH.trans hW g1) (Nat.le_trans h1 g2) (fun q hq hn => (g3 q (Nat.lt_of_lt_of_le hq h1) hn).trans (h2 q hq hn)) w hw
theorem ps_Z.sub {A B : Nat → Prop} {U : State} (h : ps_Z A U) (hAB : ∀ q, B q → A q) : ps_Z B U :=
  fun U' a g1 g2 g3 w hw => h U' a g1 g2 (fun q hq hn => g3 q hq (fun hb => hn (hAB q hb))) w hw
def th_all (P : Cond → Prop) : List Cond → Prop
  | [] => True
  | a :: l => P a ∧ th_all P l
theorem th_all_mem {P : Cond → Prop} : ∀ {l : List Cond}, th_all P l → ∀ w ∈ l, P w
  | [], _, w, hw => by cases hw
  | a :: l, h, w, hw => by
    rcases List.mem_cons.mp hw with rfl | hw
    · exact h.1
    · exact th_all_mem h.2 w hw
theorem th_all_spec {s : State} {args : Array Value} {l : List Cond} (h : th_all (fun w => w.before args s = true) l) : ∀ w ∈ l, w.before args s = true := th_all_mem h

set_option maxRecDepth 20000 in
theorem th_ownS {D : va_G} {ca : Nat → ClassId} {A : Nat → Prop} {s : State} (hG : ps_G D ca s) (hZ : ps_Z A s) (args : Array Value) : ∀ w ∈ Bundle.ownAtoms "PromiseScopes" 31 "java/lang/IllegalStateException" th_nm, w.before args s = true :=
  th_all_spec (And.intro (hG.words args _ wd_6) (And.intro (hG.words args _ wx_412) (And.intro (hG.words args _ wd_421) (And.intro (hG.words args _ wx_425) (And.intro (hG.words args _ wd_428) (And.intro (hG.words args _ wx_430) (And.intro (hG.words args _ wd_413) (And.intro (hG.words args _ wd_414) (And.intro (hG.words args _ wd_24) (And.intro (hG.words args _ wd_25) (And.intro (hG.words args _ wd_415) (And.intro (hG.words args _ wd_420) (And.intro (hG.words args _ wd_426) (And.intro (hG.words args _ wd_446) (And.intro (hG.words args _ wd_402) (And.intro (hG.words args _ wd_447) (And.intro (hG.words args _ wd_404) (And.intro (hG.words args _ wd_448) (And.intro (hG.words args _ wd_406) (And.intro (hG.words args _ wd_416) (And.intro (hZ _ args (State.WarmedH.refl s) (Nat.le_refl _) (fun _ _ _ => rfl) _ zx_7) (And.intro (hG.words args _ wd_418) (And.intro (hZ _ args (State.WarmedH.refl s) (Nat.le_refl _) (fun _ _ _ => rfl) _ zx_8) (And.intro (hG.words args _ wd_408) (And.intro (hG.words args _ wd_442) (And.intro (hG.words args _ wd_443) (And.intro (hG.words args _ wd_445) (And.intro (hG.words args _ wd_408) (And.intro (hG.words args _ wd_433) (And.intro (hG.words args _ wd_434) (And.intro (hG.words args _ wd_435) (And.intro (hG.words args _ wd_436) (And.intro (hZ _ args (State.WarmedH.refl s) (Nat.le_refl _) (fun _ _ _ => rfl) _ zx_2) (And.intro (hG.words args _ wd_436) (And.intro (hG.words args _ wd_437) (And.intro (hG.words args _ wd_438) (And.intro (hG.words args _ wd_439) (And.intro (hZ _ args (State.WarmedH.refl s) (Nat.le_refl _) (fun _ _ _ => rfl) _ zx_4) (And.intro (hG.words args _ wd_439) (And.intro (hG.words args _ wd_440) (And.intro (hG.words args _ wd_441) (And.intro (hG.words args _ wd_442) (And.intro (hZ _ args (State.WarmedH.refl s) (Nat.le_refl _) (fun _ _ _ => rfl) _ zx_6) (And.intro (hG.words args _ wd_432) (And.intro (hG.words args _ wd_391) (And.intro (hZ _ args (State.WarmedH.refl s) (Nat.le_refl _) (fun _ _ _ => rfl) _ zx_0) (And.intro (hG.words args _ wd_399) (And.intro (hG.words args _ wd_400) (And.intro (hG.words args _ wd_401) (And.intro (hG.words args _ wd_403) (And.intro (hG.words args _ wd_405) (And.intro (hG.words args _ wd_407) (And.intro (hZ _ args (State.WarmedH.refl s) (Nat.le_refl _) (fun _ _ _ => rfl) _ zx_22) (And.intro (hZ _ args (State.WarmedH.refl s) (Nat.le_refl _) (fun _ _ _ => rfl) _ zx_23) (And.intro (hG.words args _ wd_411) (And.intro (hG.words args _ wd_410) (And.intro (hG.words args _ wd_409) (trivial))))))))))))))))))))))))))))))))))))))))))))))))))))))))))
set_option maxRecDepth 20000 in
theorem th_ownA {D : va_G} {ca : Nat → ClassId} {A : Nat → Prop} {s : State} (hG : ps_G D ca s) (hZ : ps_Z A s) (args : Array Value) : ∀ w ∈ Bundle.ownAtoms "PromiseScopes" 55 "java/lang/IllegalArgumentException" th_nm, w.before args s = true :=
  th_all_spec (And.intro (hG.words args _ wd_6) (And.intro (hG.words args _ wx_412) (And.intro (hG.words args _ wd_421) (And.intro (hG.words args _ wx_425) (And.intro (hG.words args _ wd_428) (And.intro (hG.words args _ wx_430) (And.intro (hG.words args _ wd_413) (And.intro (hG.words args _ wd_414) (And.intro (hG.words args _ wd_24) (And.intro (hG.words args _ wd_25) (And.intro (hG.words args _ wd_415) (And.intro (hG.words args _ wd_420) (And.intro (hG.words args _ wd_426) (And.intro (hG.words args _ wd_446) (And.intro (hG.words args _ wd_402) (And.intro (hG.words args _ wd_447) (And.intro (hG.words args _ wd_404) (And.intro (hG.words args _ wd_448) (And.intro (hG.words args _ wd_406) (And.intro (hG.words args _ wd_416) (And.intro (hZ _ args (State.WarmedH.refl s) (Nat.le_refl _) (fun _ _ _ => rfl) _ zx_7) (And.intro (hG.words args _ wd_418) (And.intro (hZ _ args (State.WarmedH.refl s) (Nat.le_refl _) (fun _ _ _ => rfl) _ zx_8) (And.intro (hG.words args _ wd_408) (And.intro (hG.words args _ wd_442) (And.intro (hG.words args _ wd_443) (And.intro (hG.words args _ wd_445) (And.intro (hG.words args _ wd_408) (And.intro (hG.words args _ wd_542) (And.intro (hG.words args _ wd_543) (And.intro (hG.words args _ wd_544) (And.intro (hG.words args _ wd_436) (And.intro (hZ _ args (State.WarmedH.refl s) (Nat.le_refl _) (fun _ _ _ => rfl) _ zx_2) (And.intro (hG.words args _ wd_436) (And.intro (hG.words args _ wd_437) (And.intro (hG.words args _ wd_438) (And.intro (hG.words args _ wd_439) (And.intro (hZ _ args (State.WarmedH.refl s) (Nat.le_refl _) (fun _ _ _ => rfl) _ zx_4) (And.intro (hG.words args _ wd_439) (And.intro (hG.words args _ wd_440) (And.intro (hG.words args _ wd_441) (And.intro (hG.words args _ wd_442) (And.intro (hZ _ args (State.WarmedH.refl s) (Nat.le_refl _) (fun _ _ _ => rfl) _ zx_6) (And.intro (hG.words args _ wd_541) (And.intro (hG.words args _ wd_532) (And.intro (hZ _ args (State.WarmedH.refl s) (Nat.le_refl _) (fun _ _ _ => rfl) _ zx_10) (And.intro (hG.words args _ wd_534) (And.intro (hG.words args _ wd_423) (And.intro (hG.words args _ wd_535) (And.intro (hG.words args _ wd_536) (And.intro (hG.words args _ wd_537) (And.intro (hG.words args _ wd_538) (And.intro (hZ _ args (State.WarmedH.refl s) (Nat.le_refl _) (fun _ _ _ => rfl) _ zx_22) (And.intro (hZ _ args (State.WarmedH.refl s) (Nat.le_refl _) (fun _ _ _ => rfl) _ zx_23) (And.intro (hG.words args _ wd_411) (And.intro (hG.words args _ wd_410) (And.intro (hG.words args _ wd_539) (trivial))))))))))))))))))))))))))))))))))))))))))))))))))))))))))
set_option maxRecDepth 20000 in
theorem th_ownU {D : va_G} {ca : Nat → ClassId} {A : Nat → Prop} {s : State} (hG : ps_G D ca s) (hZ : ps_Z A s) (args : Array Value) : ∀ w ∈ Bundle.ownAtoms "PromiseScopes" 103 "java/lang/UnsupportedOperationException" th_nm, w.before args s = true :=
  th_all_spec (And.intro (hG.words args _ wd_6) (And.intro (hG.words args _ wx_412) (And.intro (hG.words args _ wd_421) (And.intro (hG.words args _ wx_425) (And.intro (hG.words args _ wd_428) (And.intro (hG.words args _ wx_430) (And.intro (hG.words args _ wd_413) (And.intro (hG.words args _ wd_414) (And.intro (hG.words args _ wd_24) (And.intro (hG.words args _ wd_25) (And.intro (hG.words args _ wd_415) (And.intro (hG.words args _ wd_420) (And.intro (hG.words args _ wd_426) (And.intro (hG.words args _ wd_446) (And.intro (hG.words args _ wd_402) (And.intro (hG.words args _ wd_447) (And.intro (hG.words args _ wd_404) (And.intro (hG.words args _ wd_448) (And.intro (hG.words args _ wd_406) (And.intro (hG.words args _ wd_416) (And.intro (hZ _ args (State.WarmedH.refl s) (Nat.le_refl _) (fun _ _ _ => rfl) _ zx_7) (And.intro (hG.words args _ wd_418) (And.intro (hZ _ args (State.WarmedH.refl s) (Nat.le_refl _) (fun _ _ _ => rfl) _ zx_8) (And.intro (hG.words args _ wd_408) (And.intro (hG.words args _ wd_442) (And.intro (hG.words args _ wd_443) (And.intro (hG.words args _ wd_445) (And.intro (hG.words args _ wd_408) (And.intro (hG.words args _ wd_605) (And.intro (hG.words args _ wd_606) (And.intro (hG.words args _ wd_607) (And.intro (hG.words args _ wd_436) (And.intro (hZ _ args (State.WarmedH.refl s) (Nat.le_refl _) (fun _ _ _ => rfl) _ zx_2) (And.intro (hG.words args _ wd_436) (And.intro (hG.words args _ wd_437) (And.intro (hG.words args _ wd_438) (And.intro (hG.words args _ wd_439) (And.intro (hZ _ args (State.WarmedH.refl s) (Nat.le_refl _) (fun _ _ _ => rfl) _ zx_4) (And.intro (hG.words args _ wd_439) (And.intro (hG.words args _ wd_440) (And.intro (hG.words args _ wd_441) (And.intro (hG.words args _ wd_442) (And.intro (hZ _ args (State.WarmedH.refl s) (Nat.le_refl _) (fun _ _ _ => rfl) _ zx_6) (And.intro (hG.words args _ wd_604) (And.intro (hG.words args _ wd_595) (And.intro (hZ _ args (State.WarmedH.refl s) (Nat.le_refl _) (fun _ _ _ => rfl) _ zx_14) (And.intro (hG.words args _ wd_597) (And.intro (hG.words args _ wd_424) (And.intro (hG.words args _ wd_598) (And.intro (hG.words args _ wd_599) (And.intro (hG.words args _ wd_600) (And.intro (hG.words args _ wd_601) (And.intro (hZ _ args (State.WarmedH.refl s) (Nat.le_refl _) (fun _ _ _ => rfl) _ zx_22) (And.intro (hZ _ args (State.WarmedH.refl s) (Nat.le_refl _) (fun _ _ _ => rfl) _ zx_23) (And.intro (hG.words args _ wd_411) (And.intro (hG.words args _ wd_410) (And.intro (hG.words args _ wd_602) (trivial))))))))))))))))))))))))))))))))))))))))))))))))))))))))))
def ps_QT (D : va_G) (ca : Nat → ClassId) (A : Nat → Prop) (adr : Nat → Nat → Nat) (σ : ps_S) (X : String) : Array Value → State → Outcome → State → Prop := fun _ st o t =>
  ∃ (a : Addr) (cell : Cell), o = .threw a ∧ st.heap.size ≤ a ∧ t.heap[a]? = some cell ∧ cell.vm = .none ∧ st.vm.findClass X = some cell.cls ∧ ps_W D ca adr A σ t.heap ∧ va_F A st t
def ps_PT (D : va_G) (ca : Nat → ClassId) (A : Nat → Prop) (adr : Nat → Nat → Nat) (σ : ps_S) (as : List ps_A) : Array Value → State → Prop := fun v U => ps_Pc D ca A adr σ as v U ∧ ps_Z A U
theorem ps_PT.blind {D : va_G} {ca : Nat → ClassId} {A : Nat → Prop} {adr : Nat → Nat → Nat} {σ : ps_S} {as : List ps_A} : FrameBlind (ps_PT D ca A adr σ as) := by
  intro a U g mk h
  exact ⟨ps_Pc.blind a U g mk h.1, h.2.to (State.WarmedH.refl U) (Nat.le_refl _) (fun _ _ _ => rfl)⟩
/-- how a throw ends: it threw, the tables are warmer, nothing has moved but the places L and at most k new cells of n slots -/
def ps_FT (s0 : State) (o : Outcome) (t : State) (L : List Loc) (k n : Nat) : Prop := (∃ x, o = .threw x) ∧ s0.WarmedH t.vm ∧ s0.sameButNew (t.setVm s0.vm) L k n
/-- the contract of a method that throws an X and leaves the store as it was -/
def ps_MT (l : Launch) (y : MethodName) (cc : ByteArray) (maxL : Nat) (ret : Option FieldType) (rm : Room) (D : va_G) (ca : Nat → ClassId) (A : Nat → Prop) (adr : Nat → Nat → Nat) (σ : ps_S) (as : List ps_A) (X : String) : Prop :=
  MetFree l y (headSpec [Cond.code y cc maxL ret] rm) (ps_PT D ca A adr σ as) (fun _ _ _ _ _ => True) (fun a st o t => ps_QT D ca A adr σ X a st o t ∧ ∃ L, ps_FT st o t L rm.cells rm.slots ∧ ∀ q ∈ L, A q.base)
def MQT (below : List Frame) (Qc : Array Value → State → Outcome → State → Prop) (a : Array Value) (s : State) (mc ms : Nat) (free : Addr → Prop) : State → Prop := fun t =>
  ∃ o, t.status = .running ∧ Ended t below o ∧ Qc a s o t ∧ ∃ L, ps_FT s o t L mc ms ∧ ∀ q ∈ L, free q.base
theorem th_vm {D : va_G} {cl : List vw_C} {a : Nat} {e : va_E} {H : Heap} {c : Cell} (h : va_at D cl (a, e) H) (hc : H[a]? = some c) : c.vm = .none := by
  rcases e with e | e
  · have h' : H[a]? = some (vp_cell e.1 e.2) := h
    rw [hc] at h'
    cases h'
    rcases e with ⟨e1, e2, f | f | f | f | f⟩ <;> rfl
  · obtain ⟨r, hr, c', h1, h2, h3, h4⟩ := h
    have h1' : H[a]? = some c' := h1
    rw [hc] at h1'
    cases h1'
    exact h3
theorem th_cell {c c' : Cell} (h : c' = { c with slots := c'.slots }) (hs : ∀ i : Nat, c'.slots[i]? = c.slots[i]?) : c' = c := by
  have e : c'.slots = c.slots := Array.ext_getElem? hs
  rw [h, e]
theorem th_at {D : va_G} {cl : List vw_C} {a : Nat} {e : va_E} {H0 H1 H2 : Heap} (h0 : va_at D cl (a, e) H0) (h1 : va_at D cl (a, e) H1)
    (hk : ∀ c, H0[a]? = some c → ∃ c', H2[a]? = some c' ∧ c' = { c with slots := c'.slots } ∧ ∀ i : Nat, (∀ c1, H1[a]? = some c1 → c1.slots[i]? = c.slots[i]?) → c'.slots[i]? = c.slots[i]?) : va_at D cl (a, e) H2 := by
  rcases e with e | e
  · have q0 : H0[a]? = some (vp_cell e.1 e.2) := h0
    have q1 : H1[a]? = some (vp_cell e.1 e.2) := h1
    obtain ⟨c', g1, g2, g3⟩ := hk _ q0
    have e5 := th_cell g2 (fun i => g3 i (fun c1 hc1 => by rw [q1] at hc1; cases hc1; rfl))
    subst e5
    exact g1
  · obtain ⟨r, hr, c0, p1, p2, p3, p4⟩ := h0
    obtain ⟨r', hr', c1, q1, q2, q3, q4⟩ := h1
    rw [hr] at hr'
    cases hr'
    obtain ⟨c', g1, g2, g3⟩ := hk c0 p1
    refine ⟨r, hr, c', g1, ?_, ?_, fun k hk2 => ?_⟩
    · rw [g2]; exact p2
    · rw [g2]; exact p3
    · have q1' : H1[a]? = some c1 := q1
      rw [g3 _ (fun c9 hc9 => by rw [q1'] at hc9; cases hc9; exact (q4 k hk2).trans (p4 k hk2).symm)]
      exact p4 k hk2
section PST
variable {p : Program} {l : Launch} {e : Env} {R : Room} {s : State} {m : MethodId} {args : Array Value} {below : List Frame} {meth : Method} {c : Code} {nL : Nat} {D : va_G} {ca : Nat → ClassId} {A : Nat → Prop} {adr0 : Nat → Nat → Nat} {σ0 : ps_S}
variable {cc : ByteArray} {own : String} {pc : Nat} {L : List (Nat × ps_A)} {ce sl : Nat}
theorem pv_throw (E : ps_E p s m c cc nL own D ca) (htr : l.stackTraces = false) {X tx : String} {names : List String} {ic ci ks mc ms : Nat}
    (hX : Bundle.fit X = true) (hnames : ∀ n ∈ names, Bundle.fit n = true) (hat : ∀ w ∈ Bundle.ownAtoms own ic X names, w.before args s = true) (hsr : (Cond.stringRef own ks tx).before args s = true)
    (w1 : Cond.classLink own ci X ∈ ps_T) (w2 : Cond.instantiable X 6 ∈ ps_T) (w3 : Cond.initialized X ∈ ps_T)
    (hA : ∀ q, A q → q < s.heap.size → ∃ κ i, i < ps_N σ0 κ ∧ adr0 κ i = q) (hW0 : ps_W D ca adr0 A σ0 s.heap) (hlk : meth.locks = false) (hex : c.exceptionTable.isEmpty = true)
    (hd0 : decode cc pc = .ok (.new ci, 3)) (hd1 : decode cc (pc + 3) = .ok (.dup, 1)) (hd2 : decode cc (pc + 4) = .ok (.ldc ks, 2)) (hd3 : decode cc (pc + 6) = .ok (.invokespecial ic, 3)) (hd4 : decode cc (pc + 9) = .ok (.athrow, 1))
    (hfr : names.length + 3 < R.frames) (hlo : 13 * (names.length + 1) + 43 ≤ R.locals) (hc1 : ce + 1 ≤ R.cells) (hs1 : sl + 6 ≤ R.slots) (h1 : ce + 1 ≤ mc) (h2 : sl + 6 ≤ ms) :
    ps_V p l e R s m args below meth c nL D ca A s.heap adr0 σ0 (MQT below (ps_QT D ca A adr0 σ0 X) args s mc ms A) pc L [] σ0 ce sl := by
  classical
  intro adr H locs ls hB hst hL hls
  have ht := E.2.2.2.2.words args
  refine W.newc E.1 E.2.1 E.2.2.2.1 (ht _ w1) (ht _ w2) (ht _ w3) rfl hd0 hc1 hs1 (fun cC kC f1 f2 f3 f4 => ?_)
  refine W.eq (g2 := F0 m (pc + 3) ls [.ref H.size]) rfl ?_
  refine lv_dup E.1 E.2.1 hd1 rfl ?_
  obtain ⟨-, -, -, qa, -, -, -, -, -, hq⟩ := Cond.stringRef_spec (args := args) (first := s) (o := none) (idx := []) E.2.2.2.1 hsr
  intro T hT Xs
  have hTh : T.heap = H.push { cls := cC, slots := kC.instanceTypes.map defaultValue, vm := .none } := hT
  obtain ⟨y0, y1, y2, y3, y4, y5⟩ := Xs.same
  have hS := hB.2.1
  let dif : Loc → Prop := fun x => ¬ ∀ c0 c1, s.heap[x.base]? = some c0 → T.heap[x.base]? = some c1 → c1.slots[x.slot]? = c0.slots[x.slot]?
  let locs' := locs.filter (fun x => decide (dif x))
  have hsame : s.sameButNew (T.setVm s.vm) locs' (ce + 1) (sl + 6) := by
    refine ⟨y0, y1, y2, y3, y4, fun a c0 hc0 => ?_⟩
    obtain ⟨c', z1, z2, z3, z4⟩ := y5 a c0 hc0
    refine ⟨c', z1, z2, z3, fun i hi => ?_⟩
    by_cases hm : (⟨a, i⟩ : Loc) ∈ locs
    · by_cases hdf : dif ⟨a, i⟩
      · exact absurd (List.mem_filter.mpr ⟨hm, decide_eq_true hdf⟩) hi
      · exact Decidable.not_not.mp hdf c0 c' hc0 z1
    · exact z4 i hm
  have X' : Stand p l e R s m args below meth c T locs' (ce + 1) (sl + 6) := { Xs with same := hsame }
  have hbase : ∀ x ∈ locs', A x.base := fun x hx => hS.2.2 x (List.mem_filter.mp hx).1
  have hlocs : ∀ x ∈ locs', ∀ cell, s.heap[x.base]? = some cell → cell.vm.isStatics = false := by
    intro x hx cell hcell
    obtain ⟨κ, i, hi, hai⟩ := hA _ (hbase x hx) (Array.getElem?_eq_some_iff.mp hcell).1
    rw [← hai] at hcell
    rw [th_vm (hW0.1 κ i hi).2.1 hcell]
    rfl
  have htr' : e.platform.stackTraces = false := by rw [X'.admits.2.2.2.2.1]; exact htr
  have hcell : T.heap[H.size]? = some (freshCell cC kC) := by
    rw [hTh]
    simp [freshCell]
  obtain ⟨U, u1, u2, u3, u4, u5, cell, u6, u7⟩ := X'.ctorThrowS E.1 htr' E.2.2.2.1 hX hnames hat hlocs f1 f2 hcell hS.1 (msg := .ref qa) rfl (g := F0 m (pc + 6) ls [.ref qa, .ref H.size, .ref H.size]) rfl (hls.1.trans E.2.2.1.symm) rfl rfl (rest := []) rfl
    (by rw [E.2.1]; exact hd3) (by rw [E.2.1]; exact hd4) (fun x hx => by
      have : c.exceptionTable.toList = [] := by
        have := hex
        simp only [Array.isEmpty_iff] at this
        rw [this]
      rw [this] at hx
      cases hx) hfr (by show 2 * 0 + (1 + 0) + (13 * (names.length + 1) + 42) ≤ _; omega) hlk
  refine ⟨U, Xs.ldcString E.1 E.2.2.2.1 (text := tx) (a := qa) hsr hq (g := F0 m (pc + 3 + 1) ls [.ref H.size, .ref H.size]) rfl (by rw [E.2.1]; exact hd2) U u1, .threw H.size, u2, u3, ?_, locs', ⟨⟨_, rfl⟩, u4, u5.mono h1 h2⟩, hbase⟩
  obtain ⟨v0, v1, v2, v3, v4, v5⟩ := u5
  have hWU : ps_W D ca adr0 A σ0 U.heap := by
    refine ⟨fun κ i hi => ?_, hW0.2.1, hW0.2.2⟩
    have g0 := hW0.1 κ i hi
    have g1 := (hB.1.1 κ i hi).2.1
    have ea := hB.2.2.2.1 κ i hi
    have ec : ps_cell ca adr σ0 κ i = ps_cell ca adr0 σ0 κ i := by
      unfold ps_cell
      exact ps_F_congr _ _ _ _ _ _ _ _ (fun j x hx => hB.2.2.2.1 _ _ (hW0.2.2 κ i j x hi hx))
    rw [ea, ec] at g1
    refine ⟨g0.1, th_at g0.2.1 g1 (fun c0 hc0 => ?_), g0.2.2⟩
    obtain ⟨c', z1, z2, z3, z4⟩ := v5 _ c0 hc0
    refine ⟨c', z1, z2, fun i9 hi9 => z4 i9 (fun hm => ?_)⟩
    have hdf := of_decide_eq_true (List.mem_filter.mp hm).2
    refine hdf (fun c2 c3 hc2 hc3 => ?_)
    have hlt : adr0 κ i < H.size := Nat.lt_of_lt_of_le (Array.getElem?_eq_some_iff.mp hc0).1 hS.1
    rw [hTh, Array.getElem?_push_lt hlt] at hc3
    have hc2' : s.heap[adr0 κ i]? = some c2 := hc2
    rw [hc0] at hc2'
    cases hc2'
    exact hi9 c3 (by rw [Array.getElem?_eq_getElem hlt]; exact hc3)
  refine ⟨H.size, cell, rfl, hS.1, u6, u7.vm, u7.cls, hWU, v1, fun q hq hn => ?_⟩
  have hgc : s.heap[q]? = some s.heap[q] := Array.getElem?_eq_getElem hq
  obtain ⟨c', z1, z2, z3, z4⟩ := v5 q _ hgc
  rw [hgc]
  have := th_cell z2 (fun i => z4 i (fun hm => hn (hbase _ hm)))
  rw [← this]
  exact z1
end PST
theorem ps_MT.of {l : Launch} {y : MethodName} {cc : ByteArray} {maxL : Nat} {ret : Option FieldType} {rm : Room} {D : va_G} {ca : Nat → ClassId} {A : Nat → Prop} {adr : Nat → Nat → Nat} {σ : ps_S} {as : List ps_A} {X : String}
    (hy : plainName y.cls = true) (hlen : ps_len as ≤ maxL)
    (body : ∀ (p : Program) (e : Env) (s : State) (m : MethodId) (args : Array Value) (below : List Frame) (meth : Method) (c : Code) (B : Nat → Prop), ps_E p s m c cc maxL y.cls D ca → meth.sig.returnType = ret → meth.locks = false → c.exceptionTable.isEmpty = true → ps_Z B s →
      (∀ q, B q → q < s.heap.size → ∃ κ i, i < ps_N σ κ ∧ adr κ i = q) → ps_W D ca adr B σ s.heap →
      ps_V p l e rm s m args below meth c maxL D ca B s.heap adr σ (MQT below (ps_QT D ca B adr σ X) args s rm.cells rm.slots B) 0 (ps_as 0 as) [] σ 0 0) : ps_MT l y cc maxL ret rm D ca A adr σ as X := by
  refine MetFree.of_bodyS (code := cc) (maxLocals := maxL) (ret := ret) hy ?_ ?_
  · intro args s m h hn
    obtain ⟨meth, c, h1, h2, h3, h4, h5, h6, -, -⟩ := Cond.code_spec hn (atoms_spec (ws := [Cond.code y cc maxL ret]) h _ List.mem_cons_self)
    exact ⟨meth, c, h1, h2, h3, h4, h5, h6⟩
  · intro p e s m args below meth c s₁ B hml hP _
    have hh0 : s₁.heap = s.heap := by rw [B.state]; rfl
    obtain ⟨⟨rfl, hok, hW, hG, hA⟩, hZ⟩ := hP
    have hE : ps_E p s m c cc maxL y.cls D ca := ⟨B.exec, B.bytes, hml, findClass_of_methodNamed B.named, hG⟩
    have hl := lv_entry (as.map (ps_v adr)) (n := maxL) (by rw [ps_len_v]; exact hlen)
    have hex : c.exceptionTable.isEmpty = true := by
      obtain ⟨meth', c', h1, h2, h3, h4, h5, h6, h7, -⟩ := Cond.code_spec B.named (atoms_spec (ws := [Cond.code y cc maxL ret]) B.pre _ List.mem_cons_self)
      have Xs := Stand.of_body B
      have e1 := Xs.method
      have e2 := Xs.code
      rw [h1] at e1
      cases e1
      rw [h2] at e2
      cases e2
      exact h7
    let B' : Nat → Prop := fun q => (∃ κ i, i < ps_N σ κ ∧ adr κ i = q) ∨ s.heap.size ≤ q
    have hBA : ∀ q, B' q → A q := by
      rintro q (⟨κ, i, hi, rfl⟩ | hq)
      · exact (hW.1 κ i hi).2.2
      · exact hA q hq
    have hW' : ps_W D ca adr B' σ s.heap := ⟨fun κ i hi => ⟨(hW.1 κ i hi).1, (hW.1 κ i hi).2.1, Or.inl ⟨κ, i, hi, rfl⟩⟩, hW.2.1, hW.2.2⟩
    have hb := body p e s m (as.map (ps_v adr)).toArray below meth c B' hE B.returns B.notSynchronized hex (hZ.sub hBA) (fun q hq hlt => by
      rcases hq with h | h
      · exact h
      · exact absurd hlt (Nat.not_lt.mpr h)) hW' adr s.heap [] _ ⟨hW', va_S.rf, fun q hq => Or.inr hq, fun _ _ _ => rfl, fun _ => Nat.le_refl _⟩ (fun a h => by cases h) (ps_as_ok as 0 hok) (by rw [ps_as_map]; exact hl)
    rw [List.map_nil, ← lg_entry_eq] at hb
    obtain ⟨t, a1, o, b1, b2, ⟨a, cell, q1, q2, q3, q4, q5, q6, q7⟩, LL, b4, b5⟩ := hb s₁ hh0 (Stand.of_body B)
    exact ⟨t, o, a1, b1, b2, ⟨a, cell, q1, q2, q3, q4, q5, ⟨fun κ i hi => ⟨(q6.1 κ i hi).1, (q6.1 κ i hi).2.1, (hW.1 κ i hi).2.2⟩, q6.2.1, q6.2.2⟩, q7.1, fun q hq hn => q7.2 q hq (fun hb => hn (hBA q hb))⟩, LL, b4, fun q hq => hBA _ (b5 q hq)⟩

