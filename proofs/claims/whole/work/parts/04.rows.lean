section PSV
variable {p : Program} {l : Launch} {e : Env} {R : Room} {s : State} {m : MethodId} {args : Array Value} {below : List Frame} {meth : Method} {c : Code} {nL : Nat} {D : va_G} {ca : Nat → ClassId} {A : Nat → Prop} {H0 : Heap} {adr0 : Nat → Nat → Nat} {σ0 : ps_S} {Q : State → Prop}
variable {cc : ByteArray} {own : String} {pc : Nat} {L : List (Nat × ps_A)} {st : List ps_A} {σ : ps_S} {ce sl : Nat}
theorem pv_iconst (E : ps_E p s m c cc nL own D ca) {n : Int} {v : Int32} (hd : decode cc pc = .ok (.iconst n, 1)) (hv : Int32.ofInt n = v)
    (kk : ps_V p l e R s m args below meth c nL D ca A H0 adr0 σ0 Q (pc + 1) L (ps_int v :: st) σ ce sl) : ps_V p l e R s m args below meth c nL D ca A H0 adr0 σ0 Q pc L st σ ce sl :=
  fun adr H locs ls hB hs hL hls => lv_iconst E.1 E.2.1 hd hv (kk adr H locs ls hB (ps_cn trivial hs) hL hls)
theorem pv_bipush (E : ps_E p s m c cc nL own D ca) {n : Int} {v : Int32} (hd : decode cc pc = .ok (.bipush n, 2)) (hv : (Int8.ofInt n).toInt32 = v)
    (kk : ps_V p l e R s m args below meth c nL D ca A H0 adr0 σ0 Q (pc + 2) L (ps_int v :: st) σ ce sl) : ps_V p l e R s m args below meth c nL D ca A H0 adr0 σ0 Q pc L st σ ce sl :=
  fun adr H locs ls hB hs hL hls => lv_bipush E.1 E.2.1 hd hv (kk adr H locs ls hB (ps_cn trivial hs) hL hls)
theorem pv_sipush (E : ps_E p s m c cc nL own D ca) {n : Int} {v : Int32} (hd : decode cc pc = .ok (.sipush n, 3)) (hv : (Int16.ofInt n).toInt32 = v)
    (kk : ps_V p l e R s m args below meth c nL D ca A H0 adr0 σ0 Q (pc + 3) L (ps_int v :: st) σ ce sl) : ps_V p l e R s m args below meth c nL D ca A H0 adr0 σ0 Q pc L st σ ce sl :=
  fun adr H locs ls hB hs hL hls => lv_sipush E.1 E.2.1 hd hv (kk adr H locs ls hB (ps_cn trivial hs) hL hls)
theorem pv_lconst (E : ps_E p s m c cc nL own D ca) {n : Fin 2} {v : Int64} (hd : decode cc pc = .ok (.lconst n, 1)) (hv : Int64.ofNat (n : Nat) = v)
    (kk : ps_V p l e R s m args below meth c nL D ca A H0 adr0 σ0 Q (pc + 1) L (ps_lng v :: st) σ ce sl) : ps_V p l e R s m args below meth c nL D ca A H0 adr0 σ0 Q pc L st σ ce sl :=
  fun adr H locs ls hB hs hL hls => lv_lconst E.1 E.2.1 hd hv (kk adr H locs ls hB (ps_cn trivial hs) hL hls)
theorem pv_null (E : ps_E p s m c cc nL own D ca) (hd : decode cc pc = .ok (.aconst_null, 1))
    (kk : ps_V p l e R s m args below meth c nL D ca A H0 adr0 σ0 Q (pc + 1) L (ps_ref none :: st) σ ce sl) : ps_V p l e R s m args below meth c nL D ca A H0 adr0 σ0 Q pc L st σ ce sl :=
  fun adr H locs ls hB hs hL hls => lv_null E.1 E.2.1 hd (kk adr H locs ls hB (ps_cn trivial hs) hL hls)
theorem pv_ldc (E : ps_E p s m c cc nL own D ca) {index : Nat} {v : Int32} (hw : Cond.constant own index v ∈ ps_T) (hd : decode cc pc = .ok (.ldc index, 2))
    (kk : ps_V p l e R s m args below meth c nL D ca A H0 adr0 σ0 Q (pc + 2) L (ps_int v :: st) σ ce sl) : ps_V p l e R s m args below meth c nL D ca A H0 adr0 σ0 Q pc L st σ ce sl :=
  fun adr H locs ls hB hs hL hls => lv_ldc E.1 E.2.1 E.2.2.2.1 (E.2.2.2.2.words args _ hw) hd (kk adr H locs ls hB (ps_cn trivial hs) hL hls)
theorem pv_ldc2 (E : ps_E p s m c cc nL own D ca) {index : Nat} {v : Int64} (hw : Cond.constantLong own index v ∈ ps_T) (hd : decode cc pc = .ok (.ldc2_w index, 3))
    (kk : ps_V p l e R s m args below meth c nL D ca A H0 adr0 σ0 Q (pc + 3) L (ps_lng v :: st) σ ce sl) : ps_V p l e R s m args below meth c nL D ca A H0 adr0 σ0 Q pc L st σ ce sl :=
  fun adr H locs ls hB hs hL hls => lv_ldc2 E.1 E.2.1 E.2.2.2.1 (E.2.2.2.2.words args _ hw) hd (kk adr H locs ls hB (ps_cn trivial hs) hL hls)
theorem pv_iload_n (E : ps_E p s m c cc nL own D ca) {k : Fin 4} {i : Nat} {x : Int32} (hd : decode cc pc = .ok (.iload_n k, 1)) (hi : (k : Nat) = i) (hl : L.lookup i = some (ps_int x))
    (kk : ps_V p l e R s m args below meth c nL D ca A H0 adr0 σ0 Q (pc + 1) L (ps_int x :: st) σ ce sl) : ps_V p l e R s m args below meth c nL D ca A H0 adr0 σ0 Q pc L st σ ce sl :=
  fun adr H locs ls hB hs hL hls => lv_iload_n E.1 E.2.1 hd hi (ps_lk hls hl) (kk adr H locs ls hB (ps_cn trivial hs) hL hls)
theorem pv_iload (E : ps_E p s m c cc nL own D ca) {i : Nat} {x : Int32} (hd : decode cc pc = .ok (.iload i, 2)) (hl : L.lookup i = some (ps_int x))
    (kk : ps_V p l e R s m args below meth c nL D ca A H0 adr0 σ0 Q (pc + 2) L (ps_int x :: st) σ ce sl) : ps_V p l e R s m args below meth c nL D ca A H0 adr0 σ0 Q pc L st σ ce sl :=
  fun adr H locs ls hB hs hL hls => lv_iload E.1 E.2.1 hd (ps_lk hls hl) (kk adr H locs ls hB (ps_cn trivial hs) hL hls)
theorem pv_lload_n (E : ps_E p s m c cc nL own D ca) {k : Fin 4} {i : Nat} {x : Int64} (hd : decode cc pc = .ok (.lload_n k, 1)) (hi : (k : Nat) = i) (hl : L.lookup i = some (ps_lng x))
    (kk : ps_V p l e R s m args below meth c nL D ca A H0 adr0 σ0 Q (pc + 1) L (ps_lng x :: st) σ ce sl) : ps_V p l e R s m args below meth c nL D ca A H0 adr0 σ0 Q pc L st σ ce sl :=
  fun adr H locs ls hB hs hL hls => lv_lload_n E.1 E.2.1 hd hi (ps_lk hls hl) (kk adr H locs ls hB (ps_cn trivial hs) hL hls)
theorem pv_lload (E : ps_E p s m c cc nL own D ca) {i : Nat} {x : Int64} (hd : decode cc pc = .ok (.lload i, 2)) (hl : L.lookup i = some (ps_lng x))
    (kk : ps_V p l e R s m args below meth c nL D ca A H0 adr0 σ0 Q (pc + 2) L (ps_lng x :: st) σ ce sl) : ps_V p l e R s m args below meth c nL D ca A H0 adr0 σ0 Q pc L st σ ce sl :=
  fun adr H locs ls hB hs hL hls => lv_lload E.1 E.2.1 hd (ps_lk hls hl) (kk adr H locs ls hB (ps_cn trivial hs) hL hls)
theorem pv_aload_n (E : ps_E p s m c cc nL own D ca) {k : Fin 4} {i : Nat} {r : Option (Nat × Nat)} (hd : decode cc pc = .ok (.aload_n k, 1)) (hi : (k : Nat) = i) (hl : L.lookup i = some (ps_ref r))
    (kk : ps_V p l e R s m args below meth c nL D ca A H0 adr0 σ0 Q (pc + 1) L (ps_ref r :: st) σ ce sl) : ps_V p l e R s m args below meth c nL D ca A H0 adr0 σ0 Q pc L st σ ce sl :=
  by
  intro adr H locs ls hB hs hL hls
  have h1 := ps_lk hls hl
  have h2 := kk adr H locs ls hB (ps_cn (hL _ (ps_lookup hl)) hs) hL hls
  cases r with
  | none => exact lv_aload_nN E.1 E.2.1 hd hi h1 h2
  | some q => exact lv_aload_n E.1 E.2.1 hd hi h1 h2
theorem pv_aload (E : ps_E p s m c cc nL own D ca) {i : Nat} {r : Option (Nat × Nat)} (hd : decode cc pc = .ok (.aload i, 2)) (hl : L.lookup i = some (ps_ref r))
    (kk : ps_V p l e R s m args below meth c nL D ca A H0 adr0 σ0 Q (pc + 2) L (ps_ref r :: st) σ ce sl) : ps_V p l e R s m args below meth c nL D ca A H0 adr0 σ0 Q pc L st σ ce sl :=
  by
  intro adr H locs ls hB hs hL hls
  have h1 := ps_lk hls hl
  have h2 := kk adr H locs ls hB (ps_cn (hL _ (ps_lookup hl)) hs) hL hls
  cases r with
  | none => exact lv_aloadN E.1 E.2.1 hd h1 h2
  | some q => exact lv_aload E.1 E.2.1 hd h1 h2
theorem pv_istore_n (E : ps_E p s m c cc nL own D ca) {k : Fin 4} {i : Nat} {x : Int32} (hd : decode cc pc = .ok (.istore_n k, 1)) (hi : (k : Nat) = i) (hn : i < nL)
    (kk : ps_V p l e R s m args below meth c nL D ca A H0 adr0 σ0 Q (pc + 1) (ps_ls L i (ps_int x)) st σ ce sl) : ps_V p l e R s m args below meth c nL D ca A H0 adr0 σ0 Q pc L (ps_int x :: st) σ ce sl :=
  fun adr H locs ls hB hs hL hls => lv_istore_n E.1 E.2.1 hd hi hls hn (ps_ls_map adr L i (ps_int x)) (fun ls' h' => kk adr H locs ls' hB (ps_tl hs) (ps_ls_ok hL trivial) h')
theorem pv_lstore_n (E : ps_E p s m c cc nL own D ca) {k : Fin 4} {i : Nat} {x : Int64} (hd : decode cc pc = .ok (.lstore_n k, 1)) (hi : (k : Nat) = i) (hn : i + 1 < nL)
    (kk : ps_V p l e R s m args below meth c nL D ca A H0 adr0 σ0 Q (pc + 1) (ps_ls2 L i (ps_lng x)) st σ ce sl) : ps_V p l e R s m args below meth c nL D ca A H0 adr0 σ0 Q pc L (ps_lng x :: st) σ ce sl :=
  fun adr H locs ls hB hs hL hls => lv_lstore_n E.1 E.2.1 hd hi hls hn (ps_ls2_map adr L i (ps_lng x)) (fun ls' h' => kk adr H locs ls' hB (ps_tl hs) (ps_ls2_ok hL trivial) h')
theorem pv_astore_n (E : ps_E p s m c cc nL own D ca) {k : Fin 4} {i : Nat} {r : Option (Nat × Nat)} (hd : decode cc pc = .ok (.astore_n k, 1)) (hi : (k : Nat) = i) (hn : i < nL)
    (kk : ps_V p l e R s m args below meth c nL D ca A H0 adr0 σ0 Q (pc + 1) (ps_ls L i (ps_ref r)) st σ ce sl) : ps_V p l e R s m args below meth c nL D ca A H0 adr0 σ0 Q pc L (ps_ref r :: st) σ ce sl :=
  by
  intro adr H locs ls hB hs hL hls
  have h2 := fun ls' h' => kk adr H locs ls' hB (ps_tl hs) (ps_ls_ok hL (ps_hd hs)) h'
  cases r with
  | none => exact lv_astore_nN E.1 E.2.1 hd hi hls hn (ps_ls_map adr L i (ps_ref none)) h2
  | some q => exact lv_astore_n E.1 E.2.1 hd hi hls hn (ps_ls_map adr L i (ps_ref (some q))) h2
theorem pv_istore (E : ps_E p s m c cc nL own D ca) {i : Nat} {x : Int32} (hd : decode cc pc = .ok (.istore i, 2)) (hn : i < nL)
    (kk : ps_V p l e R s m args below meth c nL D ca A H0 adr0 σ0 Q (pc + 2) (ps_ls L i (ps_int x)) st σ ce sl) : ps_V p l e R s m args below meth c nL D ca A H0 adr0 σ0 Q pc L (ps_int x :: st) σ ce sl :=
  fun adr H locs ls hB hs hL hls => lv_istore E.1 E.2.1 hd hls hn (ps_ls_map adr L i (ps_int x)) (fun ls' h' => kk adr H locs ls' hB (ps_tl hs) (ps_ls_ok hL trivial) h')
theorem pv_lstore (E : ps_E p s m c cc nL own D ca) {i : Nat} {x : Int64} (hd : decode cc pc = .ok (.lstore i, 2)) (hn : i + 1 < nL)
    (kk : ps_V p l e R s m args below meth c nL D ca A H0 adr0 σ0 Q (pc + 2) (ps_ls2 L i (ps_lng x)) st σ ce sl) : ps_V p l e R s m args below meth c nL D ca A H0 adr0 σ0 Q pc L (ps_lng x :: st) σ ce sl :=
  fun adr H locs ls hB hs hL hls => lv_lstore E.1 E.2.1 hd hls hn (ps_ls2_map adr L i (ps_lng x)) (fun ls' h' => kk adr H locs ls' hB (ps_tl hs) (ps_ls2_ok hL trivial) h')
theorem pv_astore (E : ps_E p s m c cc nL own D ca) {i : Nat} {r : Option (Nat × Nat)} (hd : decode cc pc = .ok (.astore i, 2)) (hn : i < nL)
    (kk : ps_V p l e R s m args below meth c nL D ca A H0 adr0 σ0 Q (pc + 2) (ps_ls L i (ps_ref r)) st σ ce sl) : ps_V p l e R s m args below meth c nL D ca A H0 adr0 σ0 Q pc L (ps_ref r :: st) σ ce sl :=
  by
  intro adr H locs ls hB hs hL hls
  have h2 := fun ls' h' => kk adr H locs ls' hB (ps_tl hs) (ps_ls_ok hL (ps_hd hs)) h'
  cases r with
  | none => exact lv_astoreN E.1 E.2.1 hd hls hn (ps_ls_map adr L i (ps_ref none)) h2
  | some q => exact lv_astore E.1 E.2.1 hd hls hn (ps_ls_map adr L i (ps_ref (some q))) h2
theorem pv_iinc (E : ps_E p s m c cc nL own D ca) {i : Nat} {n : Int} {x v : Int32} (hd : decode cc pc = .ok (.iinc i n, 3)) (hl : L.lookup i = some (ps_int x)) (hv : x + Int32.ofInt n = v) (hn : i < nL)
    (kk : ps_V p l e R s m args below meth c nL D ca A H0 adr0 σ0 Q (pc + 3) (ps_ls L i (ps_int v)) st σ ce sl) : ps_V p l e R s m args below meth c nL D ca A H0 adr0 σ0 Q pc L st σ ce sl :=
  by
  intro adr H locs ls hB hs hL hls
  obtain ⟨k, hk⟩ := List.getElem?_of_mem (List.mem_map.mpr ⟨(i, ps_int x), ps_lookup hl, rfl⟩ : (i, Value.int x) ∈ L.map fun q => (q.1, ps_v adr q.2))
  exact lv_iinc E.1 E.2.1 hd hls hk hv hn (ps_ls_map adr L i (ps_int v)) (fun ls' h' => kk adr H locs ls' hB hs (ps_ls_ok hL trivial) h')
theorem pv_inc1 (E : ps_E p s m c cc nL own D ca) {i : Nat} {x : Int32} (hd : decode cc pc = .ok (.iinc i 1, 3)) (hl : L.lookup i = some (ps_int x)) (hn : i < nL)
    (kk : ps_V p l e R s m args below meth c nL D ca A H0 adr0 σ0 Q (pc + 3) (ps_ls L i (ps_int (x + 1))) st σ ce sl) : ps_V p l e R s m args below meth c nL D ca A H0 adr0 σ0 Q pc L st σ ce sl :=
  pv_iinc E hd hl rfl hn kk
theorem pv_incm1 (E : ps_E p s m c cc nL own D ca) {i : Nat} {x : Int32} (hd : decode cc pc = .ok (.iinc i (-1), 3)) (hl : L.lookup i = some (ps_int x)) (hn : i < nL)
    (kk : ps_V p l e R s m args below meth c nL D ca A H0 adr0 σ0 Q (pc + 3) (ps_ls L i (ps_int (x - 1))) st σ ce sl) : ps_V p l e R s m args below meth c nL D ca A H0 adr0 σ0 Q pc L st σ ce sl :=
  pv_iinc E hd hl (by rw [Int32.sub_eq_add_neg]; rfl) hn kk
theorem pv_inc7 (E : ps_E p s m c cc nL own D ca) {i : Nat} {x : Int32} (hd : decode cc pc = .ok (.iinc i 7, 3)) (hl : L.lookup i = some (ps_int x)) (hn : i < nL)
    (kk : ps_V p l e R s m args below meth c nL D ca A H0 adr0 σ0 Q (pc + 3) (ps_ls L i (ps_int (x + 7))) st σ ce sl) : ps_V p l e R s m args below meth c nL D ca A H0 adr0 σ0 Q pc L st σ ce sl :=
  pv_iinc E hd hl rfl hn kk
theorem pv_iadd (E : ps_E p s m c cc nL own D ca) {x y : Int32} (hd : decode cc pc = .ok (.iadd, 1))
    (kk : ps_V p l e R s m args below meth c nL D ca A H0 adr0 σ0 Q (pc + 1) L (ps_int (x + y) :: st) σ ce sl) : ps_V p l e R s m args below meth c nL D ca A H0 adr0 σ0 Q pc L (ps_int y :: ps_int x :: st) σ ce sl :=
  fun adr H locs ls hB hs hL hls => lv_iadd E.1 E.2.1 hd (kk adr H locs ls hB (ps_cn trivial (ps_tl (ps_tl hs))) hL hls)
theorem pv_isub (E : ps_E p s m c cc nL own D ca) {x y : Int32} (hd : decode cc pc = .ok (.isub, 1))
    (kk : ps_V p l e R s m args below meth c nL D ca A H0 adr0 σ0 Q (pc + 1) L (ps_int (x - y) :: st) σ ce sl) : ps_V p l e R s m args below meth c nL D ca A H0 adr0 σ0 Q pc L (ps_int y :: ps_int x :: st) σ ce sl :=
  fun adr H locs ls hB hs hL hls => lv_isub E.1 E.2.1 hd (kk adr H locs ls hB (ps_cn trivial (ps_tl (ps_tl hs))) hL hls)
theorem pv_imul (E : ps_E p s m c cc nL own D ca) {x y : Int32} (hd : decode cc pc = .ok (.imul, 1))
    (kk : ps_V p l e R s m args below meth c nL D ca A H0 adr0 σ0 Q (pc + 1) L (ps_int (x * y) :: st) σ ce sl) : ps_V p l e R s m args below meth c nL D ca A H0 adr0 σ0 Q pc L (ps_int y :: ps_int x :: st) σ ce sl :=
  fun adr H locs ls hB hs hL hls => lv_imul E.1 E.2.1 hd (kk adr H locs ls hB (ps_cn trivial (ps_tl (ps_tl hs))) hL hls)
theorem pv_iand (E : ps_E p s m c cc nL own D ca) {x y : Int32} (hd : decode cc pc = .ok (.iand, 1))
    (kk : ps_V p l e R s m args below meth c nL D ca A H0 adr0 σ0 Q (pc + 1) L (ps_int (x &&& y) :: st) σ ce sl) : ps_V p l e R s m args below meth c nL D ca A H0 adr0 σ0 Q pc L (ps_int y :: ps_int x :: st) σ ce sl :=
  fun adr H locs ls hB hs hL hls => lv_iand E.1 E.2.1 hd (kk adr H locs ls hB (ps_cn trivial (ps_tl (ps_tl hs))) hL hls)
theorem pv_ior (E : ps_E p s m c cc nL own D ca) {x y : Int32} (hd : decode cc pc = .ok (.ior, 1))
    (kk : ps_V p l e R s m args below meth c nL D ca A H0 adr0 σ0 Q (pc + 1) L (ps_int (x ||| y) :: st) σ ce sl) : ps_V p l e R s m args below meth c nL D ca A H0 adr0 σ0 Q pc L (ps_int y :: ps_int x :: st) σ ce sl :=
  fun adr H locs ls hB hs hL hls => lv_ior E.1 E.2.1 hd (kk adr H locs ls hB (ps_cn trivial (ps_tl (ps_tl hs))) hL hls)
theorem pv_ixor (E : ps_E p s m c cc nL own D ca) {x y : Int32} (hd : decode cc pc = .ok (.ixor, 1))
    (kk : ps_V p l e R s m args below meth c nL D ca A H0 adr0 σ0 Q (pc + 1) L (ps_int (x ^^^ y) :: st) σ ce sl) : ps_V p l e R s m args below meth c nL D ca A H0 adr0 σ0 Q pc L (ps_int y :: ps_int x :: st) σ ce sl :=
  fun adr H locs ls hB hs hL hls => lv_ixor E.1 E.2.1 hd (kk adr H locs ls hB (ps_cn trivial (ps_tl (ps_tl hs))) hL hls)
theorem pv_ishl (E : ps_E p s m c cc nL own D ca) {x y : Int32} (hd : decode cc pc = .ok (.ishl, 1))
    (kk : ps_V p l e R s m args below meth c nL D ca A H0 adr0 σ0 Q (pc + 1) L (ps_int (x <<< (y &&& 31)) :: st) σ ce sl) : ps_V p l e R s m args below meth c nL D ca A H0 adr0 σ0 Q pc L (ps_int y :: ps_int x :: st) σ ce sl :=
  fun adr H locs ls hB hs hL hls => lv_ishl E.1 E.2.1 hd (kk adr H locs ls hB (ps_cn trivial (ps_tl (ps_tl hs))) hL hls)
theorem pv_ishr (E : ps_E p s m c cc nL own D ca) {x y : Int32} (hd : decode cc pc = .ok (.ishr, 1))
    (kk : ps_V p l e R s m args below meth c nL D ca A H0 adr0 σ0 Q (pc + 1) L (ps_int (x >>> (y &&& 31)) :: st) σ ce sl) : ps_V p l e R s m args below meth c nL D ca A H0 adr0 σ0 Q pc L (ps_int y :: ps_int x :: st) σ ce sl :=
  fun adr H locs ls hB hs hL hls => lv_ishr E.1 E.2.1 hd (kk adr H locs ls hB (ps_cn trivial (ps_tl (ps_tl hs))) hL hls)
theorem pv_idiv (E : ps_E p s m c cc nL own D ca) {x y : Int32} (hd : decode cc pc = .ok (.idiv, 1)) (hne : ¬ y = 0)
    (kk : ps_V p l e R s m args below meth c nL D ca A H0 adr0 σ0 Q (pc + 1) L (ps_int (x / y) :: st) σ ce sl) : ps_V p l e R s m args below meth c nL D ca A H0 adr0 σ0 Q pc L (ps_int y :: ps_int x :: st) σ ce sl :=
  fun adr H locs ls hB hs hL hls => lv_idiv E.1 E.2.1 hd hne (kk adr H locs ls hB (ps_cn trivial (ps_tl (ps_tl hs))) hL hls)
theorem pv_irem (E : ps_E p s m c cc nL own D ca) {x y : Int32} (hd : decode cc pc = .ok (.irem, 1)) (hne : ¬ y = 0)
    (kk : ps_V p l e R s m args below meth c nL D ca A H0 adr0 σ0 Q (pc + 1) L (ps_int (x - x / y * y) :: st) σ ce sl) : ps_V p l e R s m args below meth c nL D ca A H0 adr0 σ0 Q pc L (ps_int y :: ps_int x :: st) σ ce sl :=
  fun adr H locs ls hB hs hL hls => lv_irem E.1 E.2.1 hd hne (kk adr H locs ls hB (ps_cn trivial (ps_tl (ps_tl hs))) hL hls)
theorem pv_ineg (E : ps_E p s m c cc nL own D ca) {x : Int32} (hd : decode cc pc = .ok (.ineg, 1))
    (kk : ps_V p l e R s m args below meth c nL D ca A H0 adr0 σ0 Q (pc + 1) L (ps_int (-x) :: st) σ ce sl) : ps_V p l e R s m args below meth c nL D ca A H0 adr0 σ0 Q pc L (ps_int x :: st) σ ce sl :=
  fun adr H locs ls hB hs hL hls => lv_ineg E.1 E.2.1 hd (kk adr H locs ls hB (ps_cn trivial (ps_tl hs)) hL hls)
theorem pv_ladd (E : ps_E p s m c cc nL own D ca) {x y : Int64} (hd : decode cc pc = .ok (.ladd, 1))
    (kk : ps_V p l e R s m args below meth c nL D ca A H0 adr0 σ0 Q (pc + 1) L (ps_lng (x + y) :: st) σ ce sl) : ps_V p l e R s m args below meth c nL D ca A H0 adr0 σ0 Q pc L (ps_lng y :: ps_lng x :: st) σ ce sl :=
  fun adr H locs ls hB hs hL hls => lv_ladd E.1 E.2.1 hd (kk adr H locs ls hB (ps_cn trivial (ps_tl (ps_tl hs))) hL hls)
theorem pv_lsub (E : ps_E p s m c cc nL own D ca) {x y : Int64} (hd : decode cc pc = .ok (.lsub, 1))
    (kk : ps_V p l e R s m args below meth c nL D ca A H0 adr0 σ0 Q (pc + 1) L (ps_lng (x - y) :: st) σ ce sl) : ps_V p l e R s m args below meth c nL D ca A H0 adr0 σ0 Q pc L (ps_lng y :: ps_lng x :: st) σ ce sl :=
  fun adr H locs ls hB hs hL hls => lv_lsub E.1 E.2.1 hd (kk adr H locs ls hB (ps_cn trivial (ps_tl (ps_tl hs))) hL hls)
theorem pv_land (E : ps_E p s m c cc nL own D ca) {x y : Int64} (hd : decode cc pc = .ok (.land, 1))
    (kk : ps_V p l e R s m args below meth c nL D ca A H0 adr0 σ0 Q (pc + 1) L (ps_lng (x &&& y) :: st) σ ce sl) : ps_V p l e R s m args below meth c nL D ca A H0 adr0 σ0 Q pc L (ps_lng y :: ps_lng x :: st) σ ce sl :=
  fun adr H locs ls hB hs hL hls => lv_land E.1 E.2.1 hd (kk adr H locs ls hB (ps_cn trivial (ps_tl (ps_tl hs))) hL hls)
theorem pv_lor (E : ps_E p s m c cc nL own D ca) {x y : Int64} (hd : decode cc pc = .ok (.lor, 1))
    (kk : ps_V p l e R s m args below meth c nL D ca A H0 adr0 σ0 Q (pc + 1) L (ps_lng (x ||| y) :: st) σ ce sl) : ps_V p l e R s m args below meth c nL D ca A H0 adr0 σ0 Q pc L (ps_lng y :: ps_lng x :: st) σ ce sl :=
  fun adr H locs ls hB hs hL hls => lv_lor E.1 E.2.1 hd (kk adr H locs ls hB (ps_cn trivial (ps_tl (ps_tl hs))) hL hls)
theorem pv_lxor (E : ps_E p s m c cc nL own D ca) {x y : Int64} (hd : decode cc pc = .ok (.lxor, 1))
    (kk : ps_V p l e R s m args below meth c nL D ca A H0 adr0 σ0 Q (pc + 1) L (ps_lng (x ^^^ y) :: st) σ ce sl) : ps_V p l e R s m args below meth c nL D ca A H0 adr0 σ0 Q pc L (ps_lng y :: ps_lng x :: st) σ ce sl :=
  fun adr H locs ls hB hs hL hls => lv_lxor E.1 E.2.1 hd (kk adr H locs ls hB (ps_cn trivial (ps_tl (ps_tl hs))) hL hls)
theorem pv_lushr (E : ps_E p s m c cc nL own D ca) {x : Int64} {y : Int32} (hd : decode cc pc = .ok (.lushr, 1))
    (kk : ps_V p l e R s m args below meth c nL D ca A H0 adr0 σ0 Q (pc + 1) L (ps_lng ((x.toUInt64 >>> (y.toInt64.toUInt64 &&& Int64.toUInt64 63)).toInt64) :: st) σ ce sl) : ps_V p l e R s m args below meth c nL D ca A H0 adr0 σ0 Q pc L (ps_int y :: ps_lng x :: st) σ ce sl :=
  fun adr H locs ls hB hs hL hls => lv_lushr E.1 E.2.1 hd rfl (kk adr H locs ls hB (ps_cn trivial (ps_tl (ps_tl hs))) hL hls)
theorem pv_lshl (E : ps_E p s m c cc nL own D ca) {x : Int64} {y : Int32} (hd : decode cc pc = .ok (.lshl, 1))
    (kk : ps_V p l e R s m args below meth c nL D ca A H0 adr0 σ0 Q (pc + 1) L (ps_lng (x <<< (y.toInt64 &&& 63)) :: st) σ ce sl) : ps_V p l e R s m args below meth c nL D ca A H0 adr0 σ0 Q pc L (ps_int y :: ps_lng x :: st) σ ce sl :=
  fun adr H locs ls hB hs hL hls => lv_lshl E.1 E.2.1 hd rfl (kk adr H locs ls hB (ps_cn trivial (ps_tl (ps_tl hs))) hL hls)
theorem pv_lshr (E : ps_E p s m c cc nL own D ca) {x : Int64} {y : Int32} (hd : decode cc pc = .ok (.lshr, 1))
    (kk : ps_V p l e R s m args below meth c nL D ca A H0 adr0 σ0 Q (pc + 1) L (ps_lng (x >>> (y.toInt64 &&& 63)) :: st) σ ce sl) : ps_V p l e R s m args below meth c nL D ca A H0 adr0 σ0 Q pc L (ps_int y :: ps_lng x :: st) σ ce sl :=
  fun adr H locs ls hB hs hL hls => lv_lshr E.1 E.2.1 hd rfl (kk adr H locs ls hB (ps_cn trivial (ps_tl (ps_tl hs))) hL hls)
theorem pv_iushr (E : ps_E p s m c cc nL own D ca) {x y : Int32} (hd : decode cc pc = .ok (.iushr, 1))
    (kk : ps_V p l e R s m args below meth c nL D ca A H0 adr0 σ0 Q (pc + 1) L (ps_int ((x.toUInt32 >>> (y.toUInt32 &&& Int32.toUInt32 31)).toInt32) :: st) σ ce sl) : ps_V p l e R s m args below meth c nL D ca A H0 adr0 σ0 Q pc L (ps_int y :: ps_int x :: st) σ ce sl :=
  fun adr H locs ls hB hs hL hls => lv_iushr E.1 E.2.1 hd rfl (kk adr H locs ls hB (ps_cn trivial (ps_tl (ps_tl hs))) hL hls)
theorem pv_i2l (E : ps_E p s m c cc nL own D ca) {x : Int32} (hd : decode cc pc = .ok (.i2l, 1))
    (kk : ps_V p l e R s m args below meth c nL D ca A H0 adr0 σ0 Q (pc + 1) L (ps_lng x.toInt64 :: st) σ ce sl) : ps_V p l e R s m args below meth c nL D ca A H0 adr0 σ0 Q pc L (ps_int x :: st) σ ce sl :=
  fun adr H locs ls hB hs hL hls => lv_i2l E.1 E.2.1 hd rfl (kk adr H locs ls hB (ps_cn trivial (ps_tl hs)) hL hls)
theorem pv_l2i (E : ps_E p s m c cc nL own D ca) {x : Int64} (hd : decode cc pc = .ok (.l2i, 1))
    (kk : ps_V p l e R s m args below meth c nL D ca A H0 adr0 σ0 Q (pc + 1) L (ps_int x.toInt32 :: st) σ ce sl) : ps_V p l e R s m args below meth c nL D ca A H0 adr0 σ0 Q pc L (ps_lng x :: st) σ ce sl :=
  fun adr H locs ls hB hs hL hls => lv_l2i E.1 E.2.1 hd rfl (kk adr H locs ls hB (ps_cn trivial (ps_tl hs)) hL hls)
theorem pv_lcmp (E : ps_E p s m c cc nL own D ca) {x y : Int64} (hd : decode cc pc = .ok (.lcmp, 1))
    (kk : ps_V p l e R s m args below meth c nL D ca A H0 adr0 σ0 Q (pc + 1) L (ps_int (lg_cmp x y) :: st) σ ce sl) : ps_V p l e R s m args below meth c nL D ca A H0 adr0 σ0 Q pc L (ps_lng y :: ps_lng x :: st) σ ce sl :=
  fun adr H locs ls hB hs hL hls => W.lcmp E.1 E.2.1 hd (kk adr H locs ls hB (ps_cn trivial (ps_tl (ps_tl hs))) hL hls)
theorem pv_dup (E : ps_E p s m c cc nL own D ca) {a : ps_A} (hd : decode cc pc = .ok (.dup, 1)) (hc : ps_cat a = 1)
    (kk : ps_V p l e R s m args below meth c nL D ca A H0 adr0 σ0 Q (pc + 1) L (a :: a :: st) σ ce sl) : ps_V p l e R s m args below meth c nL D ca A H0 adr0 σ0 Q pc L (a :: st) σ ce sl :=
  fun adr H locs ls hB hs hL hls => lv_dup E.1 E.2.1 hd ((ps_cat_v adr a).trans hc) (kk adr H locs ls hB (ps_cn (ps_hd hs) hs) hL hls)
theorem pv_pop (E : ps_E p s m c cc nL own D ca) {a : ps_A} (hd : decode cc pc = .ok (.pop, 1)) (hc : ps_cat a = 1)
    (kk : ps_V p l e R s m args below meth c nL D ca A H0 adr0 σ0 Q (pc + 1) L st σ ce sl) : ps_V p l e R s m args below meth c nL D ca A H0 adr0 σ0 Q pc L (a :: st) σ ce sl :=
  fun adr H locs ls hB hs hL hls => lv_pop E.1 E.2.1 hd ((ps_cat_v adr a).trans hc) (kk adr H locs ls hB (ps_tl hs) hL hls)
theorem pv_dup_x1 (E : ps_E p s m c cc nL own D ca) {a b : ps_A} (hd : decode cc pc = .ok (.dup_x1, 1)) (hc : ps_cat a = 1) (hc2 : ps_cat b = 1)
    (kk : ps_V p l e R s m args below meth c nL D ca A H0 adr0 σ0 Q (pc + 1) L (a :: b :: a :: st) σ ce sl) : ps_V p l e R s m args below meth c nL D ca A H0 adr0 σ0 Q pc L (a :: b :: st) σ ce sl :=
  fun adr H locs ls hB hs hL hls => lv_dup_x1 E.1 E.2.1 hd ((ps_cat_v adr a).trans hc) ((ps_cat_v adr b).trans hc2) (kk adr H locs ls hB (ps_cn (ps_hd hs) (ps_cn (ps_hd (ps_tl hs)) (ps_cn (ps_hd hs) (ps_tl (ps_tl hs))))) hL hls)
theorem pv_dup2 (E : ps_E p s m c cc nL own D ca) {a b : ps_A} (hd : decode cc pc = .ok (.dup2, 1)) (hc : ps_cat a = 1) (hc2 : ps_cat b = 1)
    (kk : ps_V p l e R s m args below meth c nL D ca A H0 adr0 σ0 Q (pc + 1) L (a :: b :: a :: b :: st) σ ce sl) : ps_V p l e R s m args below meth c nL D ca A H0 adr0 σ0 Q pc L (a :: b :: st) σ ce sl :=
  fun adr H locs ls hB hs hL hls => lv_dup2_11 E.1 E.2.1 hd ((ps_cat_v adr a).trans hc) ((ps_cat_v adr b).trans hc2) (kk adr H locs ls hB (ps_cn (ps_hd hs) (ps_cn (ps_hd (ps_tl hs)) hs)) hL hls)
theorem pv_if_eq (E : ps_E p s m c cc nL own D ca) {x : Int32} {off : Int} {tgt : Nat} (hd : decode cc pc = .ok (.ifCond .eq off, 3)) (ht : (pc : Int) + off = (tgt : Int))
    (kt : x = 0 → ps_V p l e R s m args below meth c nL D ca A H0 adr0 σ0 Q tgt L st σ ce sl) (kf : ¬ x = 0 → ps_V p l e R s m args below meth c nL D ca A H0 adr0 σ0 Q (pc + 3) L st σ ce sl) : ps_V p l e R s m args below meth c nL D ca A H0 adr0 σ0 Q pc L (ps_int x :: st) σ ce sl :=
  fun adr H locs ls hB hs hL hls => lv_if_eq E.1 E.2.1 hd ht (fun h => kt h adr H locs ls hB (ps_tl hs) hL hls) (fun h => kf h adr H locs ls hB (ps_tl hs) hL hls)
theorem pv_if_ne (E : ps_E p s m c cc nL own D ca) {x : Int32} {off : Int} {tgt : Nat} (hd : decode cc pc = .ok (.ifCond .ne off, 3)) (ht : (pc : Int) + off = (tgt : Int))
    (kt : ¬ x = 0 → ps_V p l e R s m args below meth c nL D ca A H0 adr0 σ0 Q tgt L st σ ce sl) (kf : x = 0 → ps_V p l e R s m args below meth c nL D ca A H0 adr0 σ0 Q (pc + 3) L st σ ce sl) : ps_V p l e R s m args below meth c nL D ca A H0 adr0 σ0 Q pc L (ps_int x :: st) σ ce sl :=
  fun adr H locs ls hB hs hL hls => lv_if_ne E.1 E.2.1 hd ht (fun h => kt h adr H locs ls hB (ps_tl hs) hL hls) (fun h => kf h adr H locs ls hB (ps_tl hs) hL hls)
theorem pv_if_lt (E : ps_E p s m c cc nL own D ca) {x : Int32} {off : Int} {tgt : Nat} (hd : decode cc pc = .ok (.ifCond .lt off, 3)) (ht : (pc : Int) + off = (tgt : Int))
    (kt : x < 0 → ps_V p l e R s m args below meth c nL D ca A H0 adr0 σ0 Q tgt L st σ ce sl) (kf : ¬ x < 0 → ps_V p l e R s m args below meth c nL D ca A H0 adr0 σ0 Q (pc + 3) L st σ ce sl) : ps_V p l e R s m args below meth c nL D ca A H0 adr0 σ0 Q pc L (ps_int x :: st) σ ce sl :=
  fun adr H locs ls hB hs hL hls => lv_if_lt E.1 E.2.1 hd ht (fun h => kt h adr H locs ls hB (ps_tl hs) hL hls) (fun h => kf h adr H locs ls hB (ps_tl hs) hL hls)
theorem pv_if_ge (E : ps_E p s m c cc nL own D ca) {x : Int32} {off : Int} {tgt : Nat} (hd : decode cc pc = .ok (.ifCond .ge off, 3)) (ht : (pc : Int) + off = (tgt : Int))
    (kt : 0 ≤ x → ps_V p l e R s m args below meth c nL D ca A H0 adr0 σ0 Q tgt L st σ ce sl) (kf : ¬ 0 ≤ x → ps_V p l e R s m args below meth c nL D ca A H0 adr0 σ0 Q (pc + 3) L st σ ce sl) : ps_V p l e R s m args below meth c nL D ca A H0 adr0 σ0 Q pc L (ps_int x :: st) σ ce sl :=
  fun adr H locs ls hB hs hL hls => lv_if_ge E.1 E.2.1 hd ht (fun h => kt h adr H locs ls hB (ps_tl hs) hL hls) (fun h => kf h adr H locs ls hB (ps_tl hs) hL hls)
theorem pv_if_gt (E : ps_E p s m c cc nL own D ca) {x : Int32} {off : Int} {tgt : Nat} (hd : decode cc pc = .ok (.ifCond .gt off, 3)) (ht : (pc : Int) + off = (tgt : Int))
    (kt : 0 < x → ps_V p l e R s m args below meth c nL D ca A H0 adr0 σ0 Q tgt L st σ ce sl) (kf : ¬ 0 < x → ps_V p l e R s m args below meth c nL D ca A H0 adr0 σ0 Q (pc + 3) L st σ ce sl) : ps_V p l e R s m args below meth c nL D ca A H0 adr0 σ0 Q pc L (ps_int x :: st) σ ce sl :=
  fun adr H locs ls hB hs hL hls => lv_if_gt E.1 E.2.1 hd ht (fun h => kt h adr H locs ls hB (ps_tl hs) hL hls) (fun h => kf h adr H locs ls hB (ps_tl hs) hL hls)
theorem pv_if_le (E : ps_E p s m c cc nL own D ca) {x : Int32} {off : Int} {tgt : Nat} (hd : decode cc pc = .ok (.ifCond .le off, 3)) (ht : (pc : Int) + off = (tgt : Int))
    (kt : x ≤ 0 → ps_V p l e R s m args below meth c nL D ca A H0 adr0 σ0 Q tgt L st σ ce sl) (kf : ¬ x ≤ 0 → ps_V p l e R s m args below meth c nL D ca A H0 adr0 σ0 Q (pc + 3) L st σ ce sl) : ps_V p l e R s m args below meth c nL D ca A H0 adr0 σ0 Q pc L (ps_int x :: st) σ ce sl :=
  fun adr H locs ls hB hs hL hls => lv_if_le E.1 E.2.1 hd ht (fun h => kt h adr H locs ls hB (ps_tl hs) hL hls) (fun h => kf h adr H locs ls hB (ps_tl hs) hL hls)
theorem pv_icmp_eq (E : ps_E p s m c cc nL own D ca) {x y : Int32} {off : Int} {tgt : Nat} (hd : decode cc pc = .ok (.if_icmp .eq off, 3)) (ht : (pc : Int) + off = (tgt : Int))
    (kt : x = y → ps_V p l e R s m args below meth c nL D ca A H0 adr0 σ0 Q tgt L st σ ce sl) (kf : ¬ x = y → ps_V p l e R s m args below meth c nL D ca A H0 adr0 σ0 Q (pc + 3) L st σ ce sl) : ps_V p l e R s m args below meth c nL D ca A H0 adr0 σ0 Q pc L (ps_int y :: ps_int x :: st) σ ce sl :=
  fun adr H locs ls hB hs hL hls => lv_icmp_eq E.1 E.2.1 hd ht (fun h => kt h adr H locs ls hB (ps_tl (ps_tl hs)) hL hls) (fun h => kf h adr H locs ls hB (ps_tl (ps_tl hs)) hL hls)
theorem pv_icmp_ne (E : ps_E p s m c cc nL own D ca) {x y : Int32} {off : Int} {tgt : Nat} (hd : decode cc pc = .ok (.if_icmp .ne off, 3)) (ht : (pc : Int) + off = (tgt : Int))
    (kt : ¬ x = y → ps_V p l e R s m args below meth c nL D ca A H0 adr0 σ0 Q tgt L st σ ce sl) (kf : x = y → ps_V p l e R s m args below meth c nL D ca A H0 adr0 σ0 Q (pc + 3) L st σ ce sl) : ps_V p l e R s m args below meth c nL D ca A H0 adr0 σ0 Q pc L (ps_int y :: ps_int x :: st) σ ce sl :=
  fun adr H locs ls hB hs hL hls => lv_icmp_ne E.1 E.2.1 hd ht (fun h => kt h adr H locs ls hB (ps_tl (ps_tl hs)) hL hls) (fun h => kf h adr H locs ls hB (ps_tl (ps_tl hs)) hL hls)
theorem pv_icmp_lt (E : ps_E p s m c cc nL own D ca) {x y : Int32} {off : Int} {tgt : Nat} (hd : decode cc pc = .ok (.if_icmp .lt off, 3)) (ht : (pc : Int) + off = (tgt : Int))
    (kt : x < y → ps_V p l e R s m args below meth c nL D ca A H0 adr0 σ0 Q tgt L st σ ce sl) (kf : ¬ x < y → ps_V p l e R s m args below meth c nL D ca A H0 adr0 σ0 Q (pc + 3) L st σ ce sl) : ps_V p l e R s m args below meth c nL D ca A H0 adr0 σ0 Q pc L (ps_int y :: ps_int x :: st) σ ce sl :=
  fun adr H locs ls hB hs hL hls => lv_icmp_lt E.1 E.2.1 hd ht (fun h => kt h adr H locs ls hB (ps_tl (ps_tl hs)) hL hls) (fun h => kf h adr H locs ls hB (ps_tl (ps_tl hs)) hL hls)
theorem pv_icmp_ge (E : ps_E p s m c cc nL own D ca) {x y : Int32} {off : Int} {tgt : Nat} (hd : decode cc pc = .ok (.if_icmp .ge off, 3)) (ht : (pc : Int) + off = (tgt : Int))
    (kt : y ≤ x → ps_V p l e R s m args below meth c nL D ca A H0 adr0 σ0 Q tgt L st σ ce sl) (kf : ¬ y ≤ x → ps_V p l e R s m args below meth c nL D ca A H0 adr0 σ0 Q (pc + 3) L st σ ce sl) : ps_V p l e R s m args below meth c nL D ca A H0 adr0 σ0 Q pc L (ps_int y :: ps_int x :: st) σ ce sl :=
  fun adr H locs ls hB hs hL hls => lv_icmp_ge E.1 E.2.1 hd ht (fun h => kt h adr H locs ls hB (ps_tl (ps_tl hs)) hL hls) (fun h => kf h adr H locs ls hB (ps_tl (ps_tl hs)) hL hls)
theorem pv_icmp_gt (E : ps_E p s m c cc nL own D ca) {x y : Int32} {off : Int} {tgt : Nat} (hd : decode cc pc = .ok (.if_icmp .gt off, 3)) (ht : (pc : Int) + off = (tgt : Int))
    (kt : y < x → ps_V p l e R s m args below meth c nL D ca A H0 adr0 σ0 Q tgt L st σ ce sl) (kf : ¬ y < x → ps_V p l e R s m args below meth c nL D ca A H0 adr0 σ0 Q (pc + 3) L st σ ce sl) : ps_V p l e R s m args below meth c nL D ca A H0 adr0 σ0 Q pc L (ps_int y :: ps_int x :: st) σ ce sl :=
  fun adr H locs ls hB hs hL hls => lv_icmp_gt E.1 E.2.1 hd ht (fun h => kt h adr H locs ls hB (ps_tl (ps_tl hs)) hL hls) (fun h => kf h adr H locs ls hB (ps_tl (ps_tl hs)) hL hls)
theorem pv_icmp_le (E : ps_E p s m c cc nL own D ca) {x y : Int32} {off : Int} {tgt : Nat} (hd : decode cc pc = .ok (.if_icmp .le off, 3)) (ht : (pc : Int) + off = (tgt : Int))
    (kt : x ≤ y → ps_V p l e R s m args below meth c nL D ca A H0 adr0 σ0 Q tgt L st σ ce sl) (kf : ¬ x ≤ y → ps_V p l e R s m args below meth c nL D ca A H0 adr0 σ0 Q (pc + 3) L st σ ce sl) : ps_V p l e R s m args below meth c nL D ca A H0 adr0 σ0 Q pc L (ps_int y :: ps_int x :: st) σ ce sl :=
  fun adr H locs ls hB hs hL hls => lv_icmp_le E.1 E.2.1 hd ht (fun h => kt h adr H locs ls hB (ps_tl (ps_tl hs)) hL hls) (fun h => kf h adr H locs ls hB (ps_tl (ps_tl hs)) hL hls)
theorem pv_goto (E : ps_E p s m c cc nL own D ca) {off : Int} {tgt : Nat} (hd : decode cc pc = .ok (.goto off, 3)) (ht : (pc : Int) + off = (tgt : Int))
    (kk : ps_V p l e R s m args below meth c nL D ca A H0 adr0 σ0 Q tgt L st σ ce sl) : ps_V p l e R s m args below meth c nL D ca A H0 adr0 σ0 Q pc L st σ ce sl :=
  fun adr H locs ls hB hs hL hls => lv_goto E.1 E.2.1 hd ht (kk adr H locs ls hB hs hL hls)
theorem pv_ifnull (E : ps_E p s m c cc nL own D ca) {r : Option (Nat × Nat)} {off : Int} {tgt : Nat} (hd : decode cc pc = .ok (.ifnull off, 3)) (ht : (pc : Int) + off = (tgt : Int))
    (kt : r = none → ps_V p l e R s m args below meth c nL D ca A H0 adr0 σ0 Q tgt L st σ ce sl) (kf : ∀ q, r = some q → ps_V p l e R s m args below meth c nL D ca A H0 adr0 σ0 Q (pc + 3) L st σ ce sl) : ps_V p l e R s m args below meth c nL D ca A H0 adr0 σ0 Q pc L (ps_ref r :: st) σ ce sl :=
  by
  intro adr H locs ls hB hs hL hls
  cases r with
  | none => exact lv_ifnullN E.1 E.2.1 hd ht (kt rfl adr H locs ls hB (ps_tl hs) hL hls)
  | some q => exact lv_ifnull E.1 E.2.1 hd (kf q rfl adr H locs ls hB (ps_tl hs) hL hls)
theorem pv_ifnonnull (E : ps_E p s m c cc nL own D ca) {r : Option (Nat × Nat)} {off : Int} {tgt : Nat} (hd : decode cc pc = .ok (.ifnonnull off, 3)) (ht : (pc : Int) + off = (tgt : Int))
    (kt : ∀ q, r = some q → ps_V p l e R s m args below meth c nL D ca A H0 adr0 σ0 Q tgt L st σ ce sl) (kf : r = none → ps_V p l e R s m args below meth c nL D ca A H0 adr0 σ0 Q (pc + 3) L st σ ce sl) : ps_V p l e R s m args below meth c nL D ca A H0 adr0 σ0 Q pc L (ps_ref r :: st) σ ce sl :=
  by
  intro adr H locs ls hB hs hL hls
  cases r with
  | none => exact lv_ifnonnullN E.1 E.2.1 hd (kf rfl adr H locs ls hB (ps_tl hs) hL hls)
  | some q => exact lv_ifnonnull E.1 E.2.1 hd ht (kt q rfl adr H locs ls hB (ps_tl hs) hL hls)
theorem ps_e_inj {D : va_G} {ca : Nat → ClassId} {adr : Nat → Nat → Nat} {A : Nat → Prop} {σ : ps_S} {H : Heap} (h : ps_W D ca adr A σ H) {r t : Option (Nat × Nat)} (h1 : ps_ok σ (ps_ref r)) (h2 : ps_ok σ (ps_ref t)) (he : ps_e adr r = ps_e adr t) : r = t := by
  cases r with
  | none =>
    cases t with
    | none => rfl
    | some b => cases he
  | some a =>
    cases t with
    | none => cases he
    | some b =>
      have e := h.2.1 a.1 a.2 b.1 b.2 h1 h2 (Option.some.inj he)
      rw [Prod.ext e.1 e.2]
theorem pv_acmp_eq (E : ps_E p s m c cc nL own D ca) {x y : Option (Nat × Nat)} {off : Int} {tgt : Nat} (hd : decode cc pc = .ok (.if_acmp .eq off, 3)) (ht : (pc : Int) + off = (tgt : Int))
    (kt : x = y → ps_V p l e R s m args below meth c nL D ca A H0 adr0 σ0 Q tgt L st σ ce sl) (kf : ¬ x = y → ps_V p l e R s m args below meth c nL D ca A H0 adr0 σ0 Q (pc + 3) L st σ ce sl) : ps_V p l e R s m args below meth c nL D ca A H0 adr0 σ0 Q pc L (ps_ref y :: ps_ref x :: st) σ ce sl :=
  fun adr H locs ls hB hs hL hls => lv_acmp_eq (rx := ps_e adr x) (ry := ps_e adr y) E.1 E.2.1 hd ht (fun h => kt (ps_e_inj hB.1 (ps_hd (ps_tl hs)) (ps_hd hs) h) adr H locs ls hB (ps_tl (ps_tl hs)) hL hls) (fun h => kf (fun z => h (by rw [z])) adr H locs ls hB (ps_tl (ps_tl hs)) hL hls)
theorem pv_acmp_ne (E : ps_E p s m c cc nL own D ca) {x y : Option (Nat × Nat)} {off : Int} {tgt : Nat} (hd : decode cc pc = .ok (.if_acmp .ne off, 3)) (ht : (pc : Int) + off = (tgt : Int))
    (kt : ¬ x = y → ps_V p l e R s m args below meth c nL D ca A H0 adr0 σ0 Q tgt L st σ ce sl) (kf : x = y → ps_V p l e R s m args below meth c nL D ca A H0 adr0 σ0 Q (pc + 3) L st σ ce sl) : ps_V p l e R s m args below meth c nL D ca A H0 adr0 σ0 Q pc L (ps_ref y :: ps_ref x :: st) σ ce sl :=
  fun adr H locs ls hB hs hL hls => lv_acmp_ne (rx := ps_e adr x) (ry := ps_e adr y) E.1 E.2.1 hd ht (fun h => kt (fun z => h (by rw [z])) adr H locs ls hB (ps_tl (ps_tl hs)) hL hls) (fun h => kf (ps_e_inj hB.1 (ps_hd (ps_tl hs)) (ps_hd hs) h) adr H locs ls hB (ps_tl (ps_tl hs)) hL hls)
theorem pv_tableAt (E : ps_E p s m c cc nL own D ca) {x : Int32} (k : Int32) (hx : x = k) {dflt lo hi : Int} {offs : Array Int} {len : Nat} {off : Int} {tgt : Nat} (hd : decode cc pc = .ok (.tableswitch dflt lo hi offs, len)) (h1 : ¬ k.toInt < lo) (h2 : ¬ hi < k.toInt) (ho : offs[(k.toInt - lo).toNat]? = some off) (ht : (pc : Int) + off = (tgt : Int))
    (kk : ps_V p l e R s m args below meth c nL D ca A H0 adr0 σ0 Q tgt L st σ ce sl) : ps_V p l e R s m args below meth c nL D ca A H0 adr0 σ0 Q pc L (ps_int x :: st) σ ce sl :=
  by
  subst hx
  exact fun adr H locs ls hB hs hL hls => lv_tableIn E.1 E.2.1 hd h1 h2 ho ht (kk adr H locs ls hB (ps_tl hs) hL hls)
theorem pv_tableOut (E : ps_E p s m c cc nL own D ca) {x : Int32} {dflt lo hi : Int} {offs : Array Int} {len tgt : Nat} (hd : decode cc pc = .ok (.tableswitch dflt lo hi offs, len)) (h : x.toInt < lo ∨ hi < x.toInt) (ht : (pc : Int) + dflt = (tgt : Int))
    (kk : ps_V p l e R s m args below meth c nL D ca A H0 adr0 σ0 Q tgt L st σ ce sl) : ps_V p l e R s m args below meth c nL D ca A H0 adr0 σ0 Q pc L (ps_int x :: st) σ ce sl :=
  fun adr H locs ls hB hs hL hls => lv_tableOut E.1 E.2.1 hd h ht (kk adr H locs ls hB (ps_tl hs) hL hls)
theorem pv_lookup (E : ps_E p s m c cc nL own D ca) {x : Int32} {dflt : Int} {ps : Array (Int × Int)} {len : Nat} {off : Int} {tgt : Nat} (hd : decode cc pc = .ok (.lookupswitch dflt ps, len)) (hp : (ps.toList.zip (ps.toList.drop 1)).all (fun (a, next) => a.1 < next.1) = true) (ho : Op.lookupswitch.offset ps.toList dflt x.toInt = off) (ht : (pc : Int) + off = (tgt : Int))
    (kk : ps_V p l e R s m args below meth c nL D ca A H0 adr0 σ0 Q tgt L st σ ce sl) : ps_V p l e R s m args below meth c nL D ca A H0 adr0 σ0 Q pc L (ps_int x :: st) σ ce sl :=
  fun adr H locs ls hB hs hL hls => lv_lookup E.1 E.2.1 hd hp ho ht (kk adr H locs ls hB (ps_tl hs) hL hls)
theorem pv_of {pc' : Nat} {L' : List (Nat × ps_A)} {st' : List ps_A} {σ' : ps_S} (kk : ps_V p l e R s m args below meth c nL D ca A H0 adr0 σ0 Q pc' L' st' σ' ce sl) (h1 : pc = pc') (h2 : L = L') (h3 : st = st') (h4 : σ = σ') : ps_V p l e R s m args below meth c nL D ca A H0 adr0 σ0 Q pc L st σ ce sl := by
  subst h1; subst h2; subst h3; subst h4; exact kk
theorem pv_top {a b : ps_A} (h : a = b) (kk : ps_V p l e R s m args below meth c nL D ca A H0 adr0 σ0 Q pc L (b :: st) σ ce sl) : ps_V p l e R s m args below meth c nL D ca A H0 adr0 σ0 Q pc L (a :: st) σ ce sl := by
  subst h; exact kk
theorem pv_top2 {a b x : ps_A} (h : a = b) (kk : ps_V p l e R s m args below meth c nL D ca A H0 adr0 σ0 Q pc L (x :: b :: st) σ ce sl) : ps_V p l e R s m args below meth c nL D ca A H0 adr0 σ0 Q pc L (x :: a :: st) σ ce sl := by
  subst h; exact kk
/-- the locals by the list that a loop names -/
theorem pv_loc (L' : List (Nat × ps_A)) (h : ∀ q ∈ L', L.lookup q.1 = some q.2) (kk : ps_V p l e R s m args below meth c nL D ca A H0 adr0 σ0 Q pc L' st σ ce sl) : ps_V p l e R s m args below meth c nL D ca A H0 adr0 σ0 Q pc L st σ ce sl :=
  fun adr H locs ls hB hs hL hls => kk adr H locs ls hB hs (fun q hq => hL q (ps_lookup (h q hq))) ⟨hls.1, hls.2.1, fun x hx => by
    obtain ⟨q, hq, rfl⟩ := List.mem_map.mp hx
    exact ps_lk hls (h q hq)⟩
theorem pv_widen {ce' sl' : Nat} (h1 : ce ≤ ce') (h2 : sl ≤ sl') (kk : ps_V p l e R s m args below meth c nL D ca A H0 adr0 σ0 Q pc L st σ ce' sl') : ps_V p l e R s m args below meth c nL D ca A H0 adr0 σ0 Q pc L st σ ce sl :=
  fun adr H locs ls hB hs hL hls => W.widen h1 h2 (kk adr H locs ls hB hs hL hls)
theorem ps_ok_N {σ σ' : ps_S} (h : ps_N σ' = ps_N σ) {a : ps_A} (ha : ps_ok σ a) : ps_ok σ' a := by
  rcases a with x | x | r | b
  · trivial
  · trivial
  · cases r with
    | none => trivial
    | some q =>
      show q.2 < ps_N σ' q.1
      rw [h]
      exact ha
  · trivial
theorem ps_ok_up {σ σ' : ps_S} (h : ∀ κ, ps_N σ κ ≤ ps_N σ' κ) {a : ps_A} (ha : ps_ok σ a) : ps_ok σ' a := by
  rcases a with x | x | r | b
  · trivial
  · trivial
  · cases r with
    | none => trivial
    | some q => exact Nat.lt_of_lt_of_le ha (h q.1)
  · trivial
theorem ps_v_eq {σ : ps_S} {adr adr' : Nat → Nat → Nat} (h : ∀ κ i, i < ps_N σ κ → adr' κ i = adr κ i) {a : ps_A} (ha : ps_ok σ a) : ps_v adr' a = ps_v adr a := by
  rcases a with x | x | r | b
  · rfl
  · rfl
  · cases r with
    | none => rfl
    | some q =>
      show Value.ref (adr' q.1 q.2) = Value.ref (adr q.1 q.2)
      rw [h q.1 q.2 ha]
  · rfl
theorem ps_st_eq {σ : ps_S} {adr adr' : Nat → Nat → Nat} (h : ∀ κ i, i < ps_N σ κ → adr' κ i = adr κ i) {st : List ps_A} (hs : ∀ a ∈ st, ps_ok σ a) : st.map (ps_v adr') = st.map (ps_v adr) :=
  List.map_congr_left fun a ha => ps_v_eq h (hs a ha)
theorem ps_L_eq {σ : ps_S} {adr adr' : Nat → Nat → Nat} (h : ∀ κ i, i < ps_N σ κ → adr' κ i = adr κ i) {L : List (Nat × ps_A)} (hL : ∀ q ∈ L, ps_ok σ q.2) : (L.map fun q => (q.1, ps_v adr' q.2)) = L.map fun q => (q.1, ps_v adr q.2) :=
  List.map_congr_left fun q hq => by rw [ps_v_eq h (hL q hq)]
theorem ps_wfR {σ : ps_S} {κ i k : Nat} {r : Option (Nat × Nat)} (h : ∀ κ i j q, i < ps_N σ κ → ps_R σ κ i j = some q → q.2 < ps_N σ q.1) (hr : ps_ok σ (ps_ref r)) :
    ∀ a b j q, b < ps_N σ a → ps_R (ps_sR σ κ i k r) a b j = some q → q.2 < ps_N σ q.1 := by
  intro a b j q hb hq
  have hq' : ps_up (ps_R σ) κ i k r a b j = some q := hq
  by_cases hc : a = κ ∧ b = i
  · obtain ⟨rfl, rfl⟩ := hc
    rw [ps_up_self] at hq'
    by_cases hj : j = k
    · subst hj
      rw [va_up_self] at hq'
      subst hq'
      exact hr
    · rw [va_up_ne _ _ hj] at hq'
      exact h a b j q hb hq'
  · rw [ps_up_ne _ _ _ hc] at hq'
    exact h a b j q hb hq'
theorem ps_cI (ca : Nat → ClassId) (adr : Nat → Nat → Nat) (σ : ps_S) (κ i k : Nat) (x : Int32) : ps_cell ca adr (ps_sI σ κ i k x) κ i = ps_F ca adr κ (va_up (ps_I σ κ i) k x) (ps_J σ κ i) (ps_R σ κ i) (ps_L σ κ i) := by
  show ps_F ca adr κ (ps_up (ps_I σ) κ i k x κ i) _ _ _ = _
  rw [ps_up_self]
  rfl
theorem ps_cJ (ca : Nat → ClassId) (adr : Nat → Nat → Nat) (σ : ps_S) (κ i k : Nat) (x : Int64) : ps_cell ca adr (ps_sJ σ κ i k x) κ i = ps_F ca adr κ (ps_I σ κ i) (va_up (ps_J σ κ i) k x) (ps_R σ κ i) (ps_L σ κ i) := by
  show ps_F ca adr κ _ (ps_up (ps_J σ) κ i k x κ i) _ _ = _
  rw [ps_up_self]
  rfl
theorem ps_cR (ca : Nat → ClassId) (adr : Nat → Nat → Nat) (σ : ps_S) (κ i k : Nat) (x : Option (Nat × Nat)) : ps_cell ca adr (ps_sR σ κ i k x) κ i = ps_F ca adr κ (ps_I σ κ i) (ps_J σ κ i) (va_up (ps_R σ κ i) k x) (ps_L σ κ i) := by
  show ps_F ca adr κ _ _ (ps_up (ps_R σ) κ i k x κ i) _ = _
  rw [ps_up_self]
  rfl
theorem ps_oI (ca : Nat → ClassId) (adr : Nat → Nat → Nat) (σ : ps_S) (κ i k : Nat) (x : Int32) (a b : Nat) (h : ¬ (a = κ ∧ b = i)) : ps_cell ca adr (ps_sI σ κ i k x) a b = ps_cell ca adr σ a b := by
  show ps_F ca adr a (ps_up (ps_I σ) κ i k x a b) _ _ _ = _
  rw [ps_up_ne _ _ _ h]
  rfl
theorem ps_oJ (ca : Nat → ClassId) (adr : Nat → Nat → Nat) (σ : ps_S) (κ i k : Nat) (x : Int64) (a b : Nat) (h : ¬ (a = κ ∧ b = i)) : ps_cell ca adr (ps_sJ σ κ i k x) a b = ps_cell ca adr σ a b := by
  show ps_F ca adr a _ (ps_up (ps_J σ) κ i k x a b) _ _ = _
  rw [ps_up_ne _ _ _ h]
  rfl
theorem ps_oR (ca : Nat → ClassId) (adr : Nat → Nat → Nat) (σ : ps_S) (κ i k : Nat) (x : Option (Nat × Nat)) (a b : Nat) (h : ¬ (a = κ ∧ b = i)) : ps_cell ca adr (ps_sR σ κ i k x) a b = ps_cell ca adr σ a b := by
  show ps_F ca adr a _ _ (ps_up (ps_R σ) κ i k x a b) _ = _
  rw [ps_up_ne _ _ _ h]
  rfl
theorem pv_get (E : ps_E p s m c cc nL own D ca) {index ci N : Nat} {C : String} {T : u_T} (κ i k : Nat) (fs : (Nat → Nat → Nat) → List Value) (a : ps_A) (hF : ∀ adr, ps_cell ca adr σ κ i = .inr (ci, fs adr)) (hv : ∀ adr, (fs adr)[k]? = some (ps_v adr a)) (ha : a = ps_ref (ps_R σ κ i k) ∨ ∀ σ, ps_ok σ a) (hc : ps_cl[ci]? = some (C, T, N)) (hin : ∀ w ∈ u_ws C T N, w ∈ ps_T) (hk : k < N) (hl : Cond.fieldLink own index (T k).1 (T k).2.1 (T k).2.2.1 ∈ ps_T) (hd : decode cc pc = .ok (.getfield index, 3))
    (kk : ps_V p l e R s m args below meth c nL D ca A H0 adr0 σ0 Q (pc + 3) L (a :: st) σ ce sl) : ps_V p l e R s m args below meth c nL D ca A H0 adr0 σ0 Q pc L (ps_ref (some (κ, i)) :: st) σ ce sl :=
  by
  intro adr H locs ls hB hs hL hls
  have hi : i < ps_N σ κ := ps_hd hs
  obtain ⟨k0, hk0⟩ := ps_ws_get (ca := ca) (adr := adr) hi (hB.1.1 κ i hi).1
  rw [hF adr] at hk0
  have hok : ps_ok σ a := by
    rcases ha with rfl | h
    · exact ps_okR hB.1 hi k
    · exact h σ
  exact va_get E.1 E.2.1 (E.2.2.2.2.words args) hin E.2.2.2.1 E.2.2.2.2.2 hB.1.P k0 hk0 hc k hk (E.2.2.2.2.words args _ hl) (fun _ h => h) (hv adr) hd (kk adr H locs ls hB (ps_cn hok (ps_tl hs)) hL hls)
theorem pv_getN (E : ps_E p s m c cc nL own D ca) {index ci N : Nat} {C : String} {T : u_T} {host : String} (κ i k : Nat) (fs : (Nat → Nat → Nat) → List Value) (a : ps_A) (hF : ∀ adr, ps_cell ca adr σ κ i = .inr (ci, fs adr)) (hv : ∀ adr, (fs adr)[k]? = some (ps_v adr a)) (ha : a = ps_ref (ps_R σ κ i k) ∨ ∀ σ, ps_ok σ a) (hc : ps_cl[ci]? = some (C, T, N)) (hin : ∀ w ∈ u_ws C T N, w ∈ ps_T) (hk : k < N) (hl : Cond.fieldLinkNest own index (T k).1 (T k).2.1 (T k).2.2.1 host ∈ ps_T) (hd : decode cc pc = .ok (.getfield index, 3))
    (kk : ps_V p l e R s m args below meth c nL D ca A H0 adr0 σ0 Q (pc + 3) L (a :: st) σ ce sl) : ps_V p l e R s m args below meth c nL D ca A H0 adr0 σ0 Q pc L (ps_ref (some (κ, i)) :: st) σ ce sl :=
  by
  intro adr H locs ls hB hs hL hls
  have hi : i < ps_N σ κ := ps_hd hs
  obtain ⟨k0, hk0⟩ := ps_ws_get (ca := ca) (adr := adr) hi (hB.1.1 κ i hi).1
  rw [hF adr] at hk0
  have hok : ps_ok σ a := by
    rcases ha with rfl | h
    · exact ps_okR hB.1 hi k
    · exact h σ
  exact va_getN E.1 E.2.1 (E.2.2.2.2.words args) hin E.2.2.2.1 E.2.2.2.2.2 hB.1.P k0 hk0 hc k hk (E.2.2.2.2.words args _ hl) (fun _ h => h) (hv adr) hd (kk adr H locs ls hB (ps_cn hok (ps_tl hs)) hL hls)
theorem pv_putI (E : ps_E p s m c cc nL own D ca) {index ci N : Nat} {C : String} {T : u_T} (κ i k : Nat) {ty : FieldType} (x : Int32) (fs : (Nat → Nat → Nat) → List Value) (hF : ∀ adr, ps_cell ca adr σ κ i = .inr (ci, fs adr)) (hF2 : ∀ adr, ps_F ca adr κ (va_up (ps_I σ κ i) k x) (ps_J σ κ i) (ps_R σ κ i) (ps_L σ κ i) = .inr (ci, (fs adr).set k (.int x))) (hlen : ∀ adr, k < (fs adr).length) (hc : ps_cl[ci]? = some (C, T, N)) (hin : ∀ w ∈ u_ws C T N, w ∈ ps_T) (ty0 : Nat → FieldType) (hty : ∀ k, k < N → parseFieldDescriptor (T k).2.2.1 = some (ty0 k)) (hnm : ∀ a, a < N → ∀ b, b < N → a ≠ b → (T a).2.1 ≠ (T b).2.1) (hk : k < N) (hl : Cond.fieldLink own index (T k).1 (T k).2.1 (T k).2.2.1 ∈ ps_T) (hfin : (T k).2.2.2 = false) (hdt : parseFieldDescriptor (T k).2.2.1 = some ty) (hn : narrow ty (.int x) = .int x) (hfit : fits ty (.int x) = true) (hd : decode cc pc = .ok (.putfield index, 3))
    (kk : ps_V p l e R s m args below meth c nL D ca A H0 adr0 σ0 Q (pc + 3) L st (ps_sI σ κ i k x) ce sl) : ps_V p l e R s m args below meth c nL D ca A H0 adr0 σ0 Q pc L (ps_int x :: ps_ref (some (κ, i)) :: st) σ ce sl :=
  by
  intro adr H locs ls hB hs hL hls
  have hi : i < ps_N σ κ := ps_hd (ps_tl hs)
  obtain ⟨k0, hk0⟩ := ps_ws_get (ca := ca) (adr := adr) hi (hB.1.1 κ i hi).1
  rw [hF adr] at hk0
  refine va_put (v := .int x) E.1 E.2.1 (E.2.2.2.2.words args) hin ty0 hty hnm E.2.2.2.1 E.2.2.2.2.2 hB.1.P hB.1.D hB.2.1 k0 hk0 hc k hk (E.2.2.2.2.words args _ hl) (fun _ h => h) hfin hdt hn hfit (hlen adr) hd (fun H1 locs1 hP1 hD1 hS1 => ?_)
  rw [← hF2 adr, ← ps_cI ca adr σ κ i k x] at hP1
  exact kk adr H1 locs1 ls ⟨hB.1.set hi hk0 hP1 rfl (fun a b h => ps_oI ca adr σ κ i k x a b h) hB.1.2.2, hS1, hB.2.2.1, hB.2.2.2.1, hB.2.2.2.2⟩ (fun a ha => ps_ok_N rfl (ps_tl (ps_tl hs) a ha)) (fun q hq => ps_ok_N rfl (hL q hq)) hls
theorem pv_putJ (E : ps_E p s m c cc nL own D ca) {index ci N : Nat} {C : String} {T : u_T} (κ i k : Nat) {ty : FieldType} (x : Int64) (fs : (Nat → Nat → Nat) → List Value) (hF : ∀ adr, ps_cell ca adr σ κ i = .inr (ci, fs adr)) (hF2 : ∀ adr, ps_F ca adr κ (ps_I σ κ i) (va_up (ps_J σ κ i) k x) (ps_R σ κ i) (ps_L σ κ i) = .inr (ci, (fs adr).set k (.long x))) (hlen : ∀ adr, k < (fs adr).length) (hc : ps_cl[ci]? = some (C, T, N)) (hin : ∀ w ∈ u_ws C T N, w ∈ ps_T) (ty0 : Nat → FieldType) (hty : ∀ k, k < N → parseFieldDescriptor (T k).2.2.1 = some (ty0 k)) (hnm : ∀ a, a < N → ∀ b, b < N → a ≠ b → (T a).2.1 ≠ (T b).2.1) (hk : k < N) (hl : Cond.fieldLink own index (T k).1 (T k).2.1 (T k).2.2.1 ∈ ps_T) (hfin : (T k).2.2.2 = false) (hdt : parseFieldDescriptor (T k).2.2.1 = some ty) (hn : narrow ty (.long x) = .long x) (hfit : fits ty (.long x) = true) (hd : decode cc pc = .ok (.putfield index, 3))
    (kk : ps_V p l e R s m args below meth c nL D ca A H0 adr0 σ0 Q (pc + 3) L st (ps_sJ σ κ i k x) ce sl) : ps_V p l e R s m args below meth c nL D ca A H0 adr0 σ0 Q pc L (ps_lng x :: ps_ref (some (κ, i)) :: st) σ ce sl :=
  by
  intro adr H locs ls hB hs hL hls
  have hi : i < ps_N σ κ := ps_hd (ps_tl hs)
  obtain ⟨k0, hk0⟩ := ps_ws_get (ca := ca) (adr := adr) hi (hB.1.1 κ i hi).1
  rw [hF adr] at hk0
  refine va_put (v := .long x) E.1 E.2.1 (E.2.2.2.2.words args) hin ty0 hty hnm E.2.2.2.1 E.2.2.2.2.2 hB.1.P hB.1.D hB.2.1 k0 hk0 hc k hk (E.2.2.2.2.words args _ hl) (fun _ h => h) hfin hdt hn hfit (hlen adr) hd (fun H1 locs1 hP1 hD1 hS1 => ?_)
  rw [← hF2 adr, ← ps_cJ ca adr σ κ i k x] at hP1
  exact kk adr H1 locs1 ls ⟨hB.1.set hi hk0 hP1 rfl (fun a b h => ps_oJ ca adr σ κ i k x a b h) hB.1.2.2, hS1, hB.2.2.1, hB.2.2.2.1, hB.2.2.2.2⟩ (fun a ha => ps_ok_N rfl (ps_tl (ps_tl hs) a ha)) (fun q hq => ps_ok_N rfl (hL q hq)) hls
theorem pv_putR (E : ps_E p s m c cc nL own D ca) {index ci N : Nat} {C : String} {T : u_T} (κ i k : Nat) {ty : FieldType} (x : Option (Nat × Nat)) (fs : (Nat → Nat → Nat) → List Value) (hF : ∀ adr, ps_cell ca adr σ κ i = .inr (ci, fs adr)) (hF2 : ∀ adr, ps_F ca adr κ (ps_I σ κ i) (ps_J σ κ i) (va_up (ps_R σ κ i) k x) (ps_L σ κ i) = .inr (ci, (fs adr).set k (va_rf (ps_e adr x)))) (hlen : ∀ adr, k < (fs adr).length) (hc : ps_cl[ci]? = some (C, T, N)) (hin : ∀ w ∈ u_ws C T N, w ∈ ps_T) (ty0 : Nat → FieldType) (hty : ∀ k, k < N → parseFieldDescriptor (T k).2.2.1 = some (ty0 k)) (hnm : ∀ a, a < N → ∀ b, b < N → a ≠ b → (T a).2.1 ≠ (T b).2.1) (hk : k < N) (hl : Cond.fieldLink own index (T k).1 (T k).2.1 (T k).2.2.1 ∈ ps_T) (hfin : (T k).2.2.2 = false) (hdt : parseFieldDescriptor (T k).2.2.1 = some ty) (href : (∃ n, ty = .object n) ∨ ∃ t, ty = .array t) (hd : decode cc pc = .ok (.putfield index, 3))
    (kk : ps_V p l e R s m args below meth c nL D ca A H0 adr0 σ0 Q (pc + 3) L st (ps_sR σ κ i k x) ce sl) : ps_V p l e R s m args below meth c nL D ca A H0 adr0 σ0 Q pc L (ps_ref x :: ps_ref (some (κ, i)) :: st) σ ce sl :=
  by
  intro adr H locs ls hB hs hL hls
  have hi : i < ps_N σ κ := ps_hd (ps_tl hs)
  have hn : narrow ty (va_rf (ps_e adr x)) = va_rf (ps_e adr x) := by rcases href with ⟨n, rfl⟩ | ⟨t, rfl⟩ <;> cases x <;> rfl
  have hfit : fits ty (va_rf (ps_e adr x)) = true := by rcases href with ⟨n, rfl⟩ | ⟨t, rfl⟩ <;> cases x <;> rfl
  obtain ⟨k0, hk0⟩ := ps_ws_get (ca := ca) (adr := adr) hi (hB.1.1 κ i hi).1
  rw [hF adr] at hk0
  refine va_put (v := va_rf (ps_e adr x)) E.1 E.2.1 (E.2.2.2.2.words args) hin ty0 hty hnm E.2.2.2.1 E.2.2.2.2.2 hB.1.P hB.1.D hB.2.1 k0 hk0 hc k hk (E.2.2.2.2.words args _ hl) (fun _ h => h) hfin hdt hn hfit (hlen adr) hd (fun H1 locs1 hP1 hD1 hS1 => ?_)
  rw [← hF2 adr, ← ps_cR ca adr σ κ i k x] at hP1
  exact kk adr H1 locs1 ls ⟨hB.1.set hi hk0 hP1 rfl (fun a b h => ps_oR ca adr σ κ i k x a b h) (ps_wfR hB.1.2.2 (ps_hd hs)), hS1, hB.2.2.1, hB.2.2.2.1, hB.2.2.2.2⟩ (fun a ha => ps_ok_N rfl (ps_tl (ps_tl hs) a ha)) (fun q hq => ps_ok_N rfl (hL q hq)) hls
theorem pv_putIN (E : ps_E p s m c cc nL own D ca) {index ci N : Nat} {C : String} {T : u_T} {host : String} (κ i k : Nat) {ty : FieldType} (x : Int32) (fs : (Nat → Nat → Nat) → List Value) (hF : ∀ adr, ps_cell ca adr σ κ i = .inr (ci, fs adr)) (hF2 : ∀ adr, ps_F ca adr κ (va_up (ps_I σ κ i) k x) (ps_J σ κ i) (ps_R σ κ i) (ps_L σ κ i) = .inr (ci, (fs adr).set k (.int x))) (hlen : ∀ adr, k < (fs adr).length) (hc : ps_cl[ci]? = some (C, T, N)) (hin : ∀ w ∈ u_ws C T N, w ∈ ps_T) (ty0 : Nat → FieldType) (hty : ∀ k, k < N → parseFieldDescriptor (T k).2.2.1 = some (ty0 k)) (hnm : ∀ a, a < N → ∀ b, b < N → a ≠ b → (T a).2.1 ≠ (T b).2.1) (hk : k < N) (hl : Cond.fieldLinkNest own index (T k).1 (T k).2.1 (T k).2.2.1 host ∈ ps_T) (hfin : (T k).2.2.2 = false) (hdt : parseFieldDescriptor (T k).2.2.1 = some ty) (hn : narrow ty (.int x) = .int x) (hfit : fits ty (.int x) = true) (hd : decode cc pc = .ok (.putfield index, 3))
    (kk : ps_V p l e R s m args below meth c nL D ca A H0 adr0 σ0 Q (pc + 3) L st (ps_sI σ κ i k x) ce sl) : ps_V p l e R s m args below meth c nL D ca A H0 adr0 σ0 Q pc L (ps_int x :: ps_ref (some (κ, i)) :: st) σ ce sl :=
  by
  intro adr H locs ls hB hs hL hls
  have hi : i < ps_N σ κ := ps_hd (ps_tl hs)
  obtain ⟨k0, hk0⟩ := ps_ws_get (ca := ca) (adr := adr) hi (hB.1.1 κ i hi).1
  rw [hF adr] at hk0
  refine va_putN (v := .int x) E.1 E.2.1 (E.2.2.2.2.words args) hin ty0 hty hnm E.2.2.2.1 E.2.2.2.2.2 hB.1.P hB.1.D hB.2.1 k0 hk0 hc k hk (E.2.2.2.2.words args _ hl) (fun _ h => h) hfin hdt hn hfit (hlen adr) hd (fun H1 locs1 hP1 hD1 hS1 => ?_)
  rw [← hF2 adr, ← ps_cI ca adr σ κ i k x] at hP1
  exact kk adr H1 locs1 ls ⟨hB.1.set hi hk0 hP1 rfl (fun a b h => ps_oI ca adr σ κ i k x a b h) hB.1.2.2, hS1, hB.2.2.1, hB.2.2.2.1, hB.2.2.2.2⟩ (fun a ha => ps_ok_N rfl (ps_tl (ps_tl hs) a ha)) (fun q hq => ps_ok_N rfl (hL q hq)) hls
theorem pv_putJN (E : ps_E p s m c cc nL own D ca) {index ci N : Nat} {C : String} {T : u_T} {host : String} (κ i k : Nat) {ty : FieldType} (x : Int64) (fs : (Nat → Nat → Nat) → List Value) (hF : ∀ adr, ps_cell ca adr σ κ i = .inr (ci, fs adr)) (hF2 : ∀ adr, ps_F ca adr κ (ps_I σ κ i) (va_up (ps_J σ κ i) k x) (ps_R σ κ i) (ps_L σ κ i) = .inr (ci, (fs adr).set k (.long x))) (hlen : ∀ adr, k < (fs adr).length) (hc : ps_cl[ci]? = some (C, T, N)) (hin : ∀ w ∈ u_ws C T N, w ∈ ps_T) (ty0 : Nat → FieldType) (hty : ∀ k, k < N → parseFieldDescriptor (T k).2.2.1 = some (ty0 k)) (hnm : ∀ a, a < N → ∀ b, b < N → a ≠ b → (T a).2.1 ≠ (T b).2.1) (hk : k < N) (hl : Cond.fieldLinkNest own index (T k).1 (T k).2.1 (T k).2.2.1 host ∈ ps_T) (hfin : (T k).2.2.2 = false) (hdt : parseFieldDescriptor (T k).2.2.1 = some ty) (hn : narrow ty (.long x) = .long x) (hfit : fits ty (.long x) = true) (hd : decode cc pc = .ok (.putfield index, 3))
    (kk : ps_V p l e R s m args below meth c nL D ca A H0 adr0 σ0 Q (pc + 3) L st (ps_sJ σ κ i k x) ce sl) : ps_V p l e R s m args below meth c nL D ca A H0 adr0 σ0 Q pc L (ps_lng x :: ps_ref (some (κ, i)) :: st) σ ce sl :=
  by
  intro adr H locs ls hB hs hL hls
  have hi : i < ps_N σ κ := ps_hd (ps_tl hs)
  obtain ⟨k0, hk0⟩ := ps_ws_get (ca := ca) (adr := adr) hi (hB.1.1 κ i hi).1
  rw [hF adr] at hk0
  refine va_putN (v := .long x) E.1 E.2.1 (E.2.2.2.2.words args) hin ty0 hty hnm E.2.2.2.1 E.2.2.2.2.2 hB.1.P hB.1.D hB.2.1 k0 hk0 hc k hk (E.2.2.2.2.words args _ hl) (fun _ h => h) hfin hdt hn hfit (hlen adr) hd (fun H1 locs1 hP1 hD1 hS1 => ?_)
  rw [← hF2 adr, ← ps_cJ ca adr σ κ i k x] at hP1
  exact kk adr H1 locs1 ls ⟨hB.1.set hi hk0 hP1 rfl (fun a b h => ps_oJ ca adr σ κ i k x a b h) hB.1.2.2, hS1, hB.2.2.1, hB.2.2.2.1, hB.2.2.2.2⟩ (fun a ha => ps_ok_N rfl (ps_tl (ps_tl hs) a ha)) (fun q hq => ps_ok_N rfl (hL q hq)) hls
theorem pv_putRN (E : ps_E p s m c cc nL own D ca) {index ci N : Nat} {C : String} {T : u_T} {host : String} (κ i k : Nat) {ty : FieldType} (x : Option (Nat × Nat)) (fs : (Nat → Nat → Nat) → List Value) (hF : ∀ adr, ps_cell ca adr σ κ i = .inr (ci, fs adr)) (hF2 : ∀ adr, ps_F ca adr κ (ps_I σ κ i) (ps_J σ κ i) (va_up (ps_R σ κ i) k x) (ps_L σ κ i) = .inr (ci, (fs adr).set k (va_rf (ps_e adr x)))) (hlen : ∀ adr, k < (fs adr).length) (hc : ps_cl[ci]? = some (C, T, N)) (hin : ∀ w ∈ u_ws C T N, w ∈ ps_T) (ty0 : Nat → FieldType) (hty : ∀ k, k < N → parseFieldDescriptor (T k).2.2.1 = some (ty0 k)) (hnm : ∀ a, a < N → ∀ b, b < N → a ≠ b → (T a).2.1 ≠ (T b).2.1) (hk : k < N) (hl : Cond.fieldLinkNest own index (T k).1 (T k).2.1 (T k).2.2.1 host ∈ ps_T) (hfin : (T k).2.2.2 = false) (hdt : parseFieldDescriptor (T k).2.2.1 = some ty) (href : (∃ n, ty = .object n) ∨ ∃ t, ty = .array t) (hd : decode cc pc = .ok (.putfield index, 3))
    (kk : ps_V p l e R s m args below meth c nL D ca A H0 adr0 σ0 Q (pc + 3) L st (ps_sR σ κ i k x) ce sl) : ps_V p l e R s m args below meth c nL D ca A H0 adr0 σ0 Q pc L (ps_ref x :: ps_ref (some (κ, i)) :: st) σ ce sl :=
  by
  intro adr H locs ls hB hs hL hls
  have hi : i < ps_N σ κ := ps_hd (ps_tl hs)
  have hn : narrow ty (va_rf (ps_e adr x)) = va_rf (ps_e adr x) := by rcases href with ⟨n, rfl⟩ | ⟨t, rfl⟩ <;> cases x <;> rfl
  have hfit : fits ty (va_rf (ps_e adr x)) = true := by rcases href with ⟨n, rfl⟩ | ⟨t, rfl⟩ <;> cases x <;> rfl
  obtain ⟨k0, hk0⟩ := ps_ws_get (ca := ca) (adr := adr) hi (hB.1.1 κ i hi).1
  rw [hF adr] at hk0
  refine va_putN (v := va_rf (ps_e adr x)) E.1 E.2.1 (E.2.2.2.2.words args) hin ty0 hty hnm E.2.2.2.1 E.2.2.2.2.2 hB.1.P hB.1.D hB.2.1 k0 hk0 hc k hk (E.2.2.2.2.words args _ hl) (fun _ h => h) hfin hdt hn hfit (hlen adr) hd (fun H1 locs1 hP1 hD1 hS1 => ?_)
  rw [← hF2 adr, ← ps_cR ca adr σ κ i k x] at hP1
  exact kk adr H1 locs1 ls ⟨hB.1.set hi hk0 hP1 rfl (fun a b h => ps_oR ca adr σ κ i k x a b h) (ps_wfR hB.1.2.2 (ps_hd hs)), hS1, hB.2.2.1, hB.2.2.2.1, hB.2.2.2.2⟩ (fun a ha => ps_ok_N rfl (ps_tl (ps_tl hs) a ha)) (fun q hq => ps_ok_N rfl (hL q hq)) hls
theorem pv_putIF (E : ps_E p s m c cc nL own D ca) {index ci N : Nat} {C : String} {T : u_T} (κ i k : Nat) {ty : FieldType} (x : Int32) (fs : (Nat → Nat → Nat) → List Value) (hF : ∀ adr, ps_cell ca adr σ κ i = .inr (ci, fs adr)) (hF2 : ∀ adr, ps_F ca adr κ (va_up (ps_I σ κ i) k x) (ps_J σ κ i) (ps_R σ κ i) (ps_L σ κ i) = .inr (ci, (fs adr).set k (.int x))) (hlen : ∀ adr, k < (fs adr).length) (hc : ps_cl[ci]? = some (C, T, N)) (hin : ∀ w ∈ u_ws C T N, w ∈ ps_T) (ty0 : Nat → FieldType) (hty : ∀ k, k < N → parseFieldDescriptor (T k).2.2.1 = some (ty0 k)) (hnm : ∀ a, a < N → ∀ b, b < N → a ≠ b → (T a).2.1 ≠ (T b).2.1) (hk : k < N) (hl : Cond.fieldLink own index (T k).1 (T k).2.1 (T k).2.2.1 ∈ ps_T) (hfin : (T k).2.2.2 = true) (hin2 : meth.name = "<init>") (hdecl : (T k).1 = own) (hdt : parseFieldDescriptor (T k).2.2.1 = some ty) (hn : narrow ty (.int x) = .int x) (hfit : fits ty (.int x) = true) (hd : decode cc pc = .ok (.putfield index, 3))
    (kk : ps_V p l e R s m args below meth c nL D ca A H0 adr0 σ0 Q (pc + 3) L st (ps_sI σ κ i k x) ce sl) : ps_V p l e R s m args below meth c nL D ca A H0 adr0 σ0 Q pc L (ps_int x :: ps_ref (some (κ, i)) :: st) σ ce sl :=
  by
  intro adr H locs ls hB hs hL hls
  have hi : i < ps_N σ κ := ps_hd (ps_tl hs)
  obtain ⟨k0, hk0⟩ := ps_ws_get (ca := ca) (adr := adr) hi (hB.1.1 κ i hi).1
  rw [hF adr] at hk0
  refine va_putF (v := .int x) E.1 E.2.1 (E.2.2.2.2.words args) hin ty0 hty hnm E.2.2.2.1 E.2.2.2.2.2 hB.1.P hB.1.D hB.2.1 k0 hk0 hc k hk (E.2.2.2.2.words args _ hl) (fun _ h => h) hfin hin2 hdecl hdt hn hfit (hlen adr) hd (fun H1 locs1 hP1 hD1 hS1 => ?_)
  rw [← hF2 adr, ← ps_cI ca adr σ κ i k x] at hP1
  exact kk adr H1 locs1 ls ⟨hB.1.set hi hk0 hP1 rfl (fun a b h => ps_oI ca adr σ κ i k x a b h) hB.1.2.2, hS1, hB.2.2.1, hB.2.2.2.1, hB.2.2.2.2⟩ (fun a ha => ps_ok_N rfl (ps_tl (ps_tl hs) a ha)) (fun q hq => ps_ok_N rfl (hL q hq)) hls
theorem pv_putJF (E : ps_E p s m c cc nL own D ca) {index ci N : Nat} {C : String} {T : u_T} (κ i k : Nat) {ty : FieldType} (x : Int64) (fs : (Nat → Nat → Nat) → List Value) (hF : ∀ adr, ps_cell ca adr σ κ i = .inr (ci, fs adr)) (hF2 : ∀ adr, ps_F ca adr κ (ps_I σ κ i) (va_up (ps_J σ κ i) k x) (ps_R σ κ i) (ps_L σ κ i) = .inr (ci, (fs adr).set k (.long x))) (hlen : ∀ adr, k < (fs adr).length) (hc : ps_cl[ci]? = some (C, T, N)) (hin : ∀ w ∈ u_ws C T N, w ∈ ps_T) (ty0 : Nat → FieldType) (hty : ∀ k, k < N → parseFieldDescriptor (T k).2.2.1 = some (ty0 k)) (hnm : ∀ a, a < N → ∀ b, b < N → a ≠ b → (T a).2.1 ≠ (T b).2.1) (hk : k < N) (hl : Cond.fieldLink own index (T k).1 (T k).2.1 (T k).2.2.1 ∈ ps_T) (hfin : (T k).2.2.2 = true) (hin2 : meth.name = "<init>") (hdecl : (T k).1 = own) (hdt : parseFieldDescriptor (T k).2.2.1 = some ty) (hn : narrow ty (.long x) = .long x) (hfit : fits ty (.long x) = true) (hd : decode cc pc = .ok (.putfield index, 3))
    (kk : ps_V p l e R s m args below meth c nL D ca A H0 adr0 σ0 Q (pc + 3) L st (ps_sJ σ κ i k x) ce sl) : ps_V p l e R s m args below meth c nL D ca A H0 adr0 σ0 Q pc L (ps_lng x :: ps_ref (some (κ, i)) :: st) σ ce sl :=
  by
  intro adr H locs ls hB hs hL hls
  have hi : i < ps_N σ κ := ps_hd (ps_tl hs)
  obtain ⟨k0, hk0⟩ := ps_ws_get (ca := ca) (adr := adr) hi (hB.1.1 κ i hi).1
  rw [hF adr] at hk0
  refine va_putF (v := .long x) E.1 E.2.1 (E.2.2.2.2.words args) hin ty0 hty hnm E.2.2.2.1 E.2.2.2.2.2 hB.1.P hB.1.D hB.2.1 k0 hk0 hc k hk (E.2.2.2.2.words args _ hl) (fun _ h => h) hfin hin2 hdecl hdt hn hfit (hlen adr) hd (fun H1 locs1 hP1 hD1 hS1 => ?_)
  rw [← hF2 adr, ← ps_cJ ca adr σ κ i k x] at hP1
  exact kk adr H1 locs1 ls ⟨hB.1.set hi hk0 hP1 rfl (fun a b h => ps_oJ ca adr σ κ i k x a b h) hB.1.2.2, hS1, hB.2.2.1, hB.2.2.2.1, hB.2.2.2.2⟩ (fun a ha => ps_ok_N rfl (ps_tl (ps_tl hs) a ha)) (fun q hq => ps_ok_N rfl (hL q hq)) hls
theorem pv_putRF (E : ps_E p s m c cc nL own D ca) {index ci N : Nat} {C : String} {T : u_T} (κ i k : Nat) {ty : FieldType} (x : Option (Nat × Nat)) (fs : (Nat → Nat → Nat) → List Value) (hF : ∀ adr, ps_cell ca adr σ κ i = .inr (ci, fs adr)) (hF2 : ∀ adr, ps_F ca adr κ (ps_I σ κ i) (ps_J σ κ i) (va_up (ps_R σ κ i) k x) (ps_L σ κ i) = .inr (ci, (fs adr).set k (va_rf (ps_e adr x)))) (hlen : ∀ adr, k < (fs adr).length) (hc : ps_cl[ci]? = some (C, T, N)) (hin : ∀ w ∈ u_ws C T N, w ∈ ps_T) (ty0 : Nat → FieldType) (hty : ∀ k, k < N → parseFieldDescriptor (T k).2.2.1 = some (ty0 k)) (hnm : ∀ a, a < N → ∀ b, b < N → a ≠ b → (T a).2.1 ≠ (T b).2.1) (hk : k < N) (hl : Cond.fieldLink own index (T k).1 (T k).2.1 (T k).2.2.1 ∈ ps_T) (hfin : (T k).2.2.2 = true) (hin2 : meth.name = "<init>") (hdecl : (T k).1 = own) (hdt : parseFieldDescriptor (T k).2.2.1 = some ty) (href : (∃ n, ty = .object n) ∨ ∃ t, ty = .array t) (hd : decode cc pc = .ok (.putfield index, 3))
    (kk : ps_V p l e R s m args below meth c nL D ca A H0 adr0 σ0 Q (pc + 3) L st (ps_sR σ κ i k x) ce sl) : ps_V p l e R s m args below meth c nL D ca A H0 adr0 σ0 Q pc L (ps_ref x :: ps_ref (some (κ, i)) :: st) σ ce sl :=
  by
  intro adr H locs ls hB hs hL hls
  have hi : i < ps_N σ κ := ps_hd (ps_tl hs)
  have hn : narrow ty (va_rf (ps_e adr x)) = va_rf (ps_e adr x) := by rcases href with ⟨n, rfl⟩ | ⟨t, rfl⟩ <;> cases x <;> rfl
  have hfit : fits ty (va_rf (ps_e adr x)) = true := by rcases href with ⟨n, rfl⟩ | ⟨t, rfl⟩ <;> cases x <;> rfl
  obtain ⟨k0, hk0⟩ := ps_ws_get (ca := ca) (adr := adr) hi (hB.1.1 κ i hi).1
  rw [hF adr] at hk0
  refine va_putF (v := va_rf (ps_e adr x)) E.1 E.2.1 (E.2.2.2.2.words args) hin ty0 hty hnm E.2.2.2.1 E.2.2.2.2.2 hB.1.P hB.1.D hB.2.1 k0 hk0 hc k hk (E.2.2.2.2.words args _ hl) (fun _ h => h) hfin hin2 hdecl hdt hn hfit (hlen adr) hd (fun H1 locs1 hP1 hD1 hS1 => ?_)
  rw [← hF2 adr, ← ps_cR ca adr σ κ i k x] at hP1
  exact kk adr H1 locs1 ls ⟨hB.1.set hi hk0 hP1 rfl (fun a b h => ps_oR ca adr σ κ i k x a b h) (ps_wfR hB.1.2.2 (ps_hd hs)), hS1, hB.2.2.1, hB.2.2.2.1, hB.2.2.2.2⟩ (fun a ha => ps_ok_N rfl (ps_tl (ps_tl hs) a ha)) (fun q hq => ps_ok_N rfl (hL q hq)) hls
theorem pv_aaload (E : ps_E p s m c cc nL own D ca) {t0 : Nat} {C : String} (κ n : Nat) {i : Int32} (hF : ∀ adr fI fJ fR len, ps_F ca adr κ fI fJ fR len = .inl (ca κ, len, .inr (.inr (.inr (.inr fun j => ps_e adr (fR j)))))) (ht : (ps_tys ca)[t0]? = some (ca κ, .object C)) (hin : vp_in i (ps_L σ κ n)) (hd : decode cc pc = .ok (.aaload, 1))
    (kk : ps_V p l e R s m args below meth c nL D ca A H0 adr0 σ0 Q (pc + 1) L (ps_ref (ps_R σ κ n i.toNatClampNeg) :: st) σ ce sl) : ps_V p l e R s m args below meth c nL D ca A H0 adr0 σ0 Q pc L (ps_int i :: ps_ref (some (κ, n)) :: st) σ ce sl :=
  by
  intro adr H locs ls hB hs hL hls
  have hi : n < ps_N σ κ := ps_hd (ps_tl hs)
  obtain ⟨k0, hk0⟩ := ps_ws_get (ca := ca) (adr := adr) hi (hB.1.1 κ n hi).1
  rw [show ps_cell ca adr σ κ n = _ from hF adr _ _ _ _] at hk0
  exact va_aldq E.1 E.2.1 E.2.2.2.2.2 hB.1.P k0 t0 hk0 ht hin hd (kk adr H locs ls hB (ps_cn (ps_okR hB.1 hi _) (ps_tl (ps_tl hs))) hL hls)
theorem pv_iaload (E : ps_E p s m c cc nL own D ca) {t0 : Nat} (κ n : Nat) {i : Int32} (hF : ∀ adr fI fJ fR len, ps_F ca adr κ fI fJ fR len = .inl (ca κ, len, .inl fI)) (ht : (ps_tys ca)[t0]? = some (ca κ, .int)) (hin : vp_in i (ps_L σ κ n)) (hd : decode cc pc = .ok (.iaload, 1))
    (kk : ps_V p l e R s m args below meth c nL D ca A H0 adr0 σ0 Q (pc + 1) L (ps_int (ps_I σ κ n i.toNatClampNeg) :: st) σ ce sl) : ps_V p l e R s m args below meth c nL D ca A H0 adr0 σ0 Q pc L (ps_int i :: ps_ref (some (κ, n)) :: st) σ ce sl :=
  by
  intro adr H locs ls hB hs hL hls
  have hi : n < ps_N σ κ := ps_hd (ps_tl hs)
  obtain ⟨k0, hk0⟩ := ps_ws_get (ca := ca) (adr := adr) hi (hB.1.1 κ n hi).1
  rw [show ps_cell ca adr σ κ n = _ from hF adr _ _ _ _] at hk0
  exact va_iald E.1 E.2.1 E.2.2.2.2.2 hB.1.P k0 t0 hk0 ht hin hd (kk adr H locs ls hB (ps_cn trivial (ps_tl (ps_tl hs))) hL hls)
theorem pv_baload (E : ps_E p s m c cc nL own D ca) {t0 : Nat} (κ n : Nat) {i : Int32} (hF : ∀ adr fI fJ fR len, ps_F ca adr κ fI fJ fR len = .inl (ca κ, len, .inl fI)) (ht : (ps_tys ca)[t0]? = some (ca κ, .boolean)) (hin : vp_in i (ps_L σ κ n)) (hd : decode cc pc = .ok (.baload, 1))
    (kk : ps_V p l e R s m args below meth c nL D ca A H0 adr0 σ0 Q (pc + 1) L (ps_int (ps_I σ κ n i.toNatClampNeg) :: st) σ ce sl) : ps_V p l e R s m args below meth c nL D ca A H0 adr0 σ0 Q pc L (ps_int i :: ps_ref (some (κ, n)) :: st) σ ce sl :=
  by
  intro adr H locs ls hB hs hL hls
  have hi : n < ps_N σ κ := ps_hd (ps_tl hs)
  obtain ⟨k0, hk0⟩ := ps_ws_get (ca := ca) (adr := adr) hi (hB.1.1 κ n hi).1
  rw [show ps_cell ca adr σ κ n = _ from hF adr _ _ _ _] at hk0
  exact va_zald E.1 E.2.1 E.2.2.2.2.2 hB.1.P k0 t0 hk0 ht hin hd (kk adr H locs ls hB (ps_cn trivial (ps_tl (ps_tl hs))) hL hls)
theorem pv_laload (E : ps_E p s m c cc nL own D ca) {t0 : Nat} (κ n : Nat) {i : Int32} (hF : ∀ adr fI fJ fR len, ps_F ca adr κ fI fJ fR len = .inl (ca κ, len, .inr (.inl fJ))) (ht : (ps_tys ca)[t0]? = some (ca κ, .long)) (hin : vp_in i (ps_L σ κ n)) (hd : decode cc pc = .ok (.laload, 1))
    (kk : ps_V p l e R s m args below meth c nL D ca A H0 adr0 σ0 Q (pc + 1) L (ps_lng (ps_J σ κ n i.toNatClampNeg) :: st) σ ce sl) : ps_V p l e R s m args below meth c nL D ca A H0 adr0 σ0 Q pc L (ps_int i :: ps_ref (some (κ, n)) :: st) σ ce sl :=
  by
  intro adr H locs ls hB hs hL hls
  have hi : n < ps_N σ κ := ps_hd (ps_tl hs)
  obtain ⟨k0, hk0⟩ := ps_ws_get (ca := ca) (adr := adr) hi (hB.1.1 κ n hi).1
  rw [show ps_cell ca adr σ κ n = _ from hF adr _ _ _ _] at hk0
  exact va_lald E.1 E.2.1 E.2.2.2.2.2 hB.1.P k0 t0 hk0 ht hin hd (kk adr H locs ls hB (ps_cn trivial (ps_tl (ps_tl hs))) hL hls)
theorem pv_alenR (E : ps_E p s m c cc nL own D ca) {t0 : Nat} {ty : FieldType} (κ n : Nat) {v : Int32} (hF : ∀ adr fI fJ fR len, ps_F ca adr κ fI fJ fR len = .inl (ca κ, len, .inr (.inr (.inr (.inr fun j => ps_e adr (fR j)))))) (ht : (ps_tys ca)[t0]? = some (ca κ, ty)) (hv : Int32.ofNat (ps_L σ κ n) = v) (hd : decode cc pc = .ok (.arraylength, 1))
    (kk : ps_V p l e R s m args below meth c nL D ca A H0 adr0 σ0 Q (pc + 1) L (ps_int v :: st) σ ce sl) : ps_V p l e R s m args below meth c nL D ca A H0 adr0 σ0 Q pc L (ps_ref (some (κ, n)) :: st) σ ce sl :=
  by
  intro adr H locs ls hB hs hL hls
  have hi : n < ps_N σ κ := ps_hd hs
  obtain ⟨k0, hk0⟩ := ps_ws_get (ca := ca) (adr := adr) hi (hB.1.1 κ n hi).1
  rw [show ps_cell ca adr σ κ n = _ from hF adr _ _ _ _] at hk0
  exact va_alen E.1 E.2.1 E.2.2.2.2.2 hB.1.P k0 t0 hk0 ht hv hd (kk adr H locs ls hB (ps_cn trivial (ps_tl hs)) hL hls)
theorem pv_alenI (E : ps_E p s m c cc nL own D ca) {t0 : Nat} {ty : FieldType} (κ n : Nat) {v : Int32} (hF : ∀ adr fI fJ fR len, ps_F ca adr κ fI fJ fR len = .inl (ca κ, len, .inl fI)) (ht : (ps_tys ca)[t0]? = some (ca κ, ty)) (hv : Int32.ofNat (ps_L σ κ n) = v) (hd : decode cc pc = .ok (.arraylength, 1))
    (kk : ps_V p l e R s m args below meth c nL D ca A H0 adr0 σ0 Q (pc + 1) L (ps_int v :: st) σ ce sl) : ps_V p l e R s m args below meth c nL D ca A H0 adr0 σ0 Q pc L (ps_ref (some (κ, n)) :: st) σ ce sl :=
  by
  intro adr H locs ls hB hs hL hls
  have hi : n < ps_N σ κ := ps_hd hs
  obtain ⟨k0, hk0⟩ := ps_ws_get (ca := ca) (adr := adr) hi (hB.1.1 κ n hi).1
  rw [show ps_cell ca adr σ κ n = _ from hF adr _ _ _ _] at hk0
  exact va_alen E.1 E.2.1 E.2.2.2.2.2 hB.1.P k0 t0 hk0 ht hv hd (kk adr H locs ls hB (ps_cn trivial (ps_tl hs)) hL hls)
theorem pv_alenJ (E : ps_E p s m c cc nL own D ca) {t0 : Nat} {ty : FieldType} (κ n : Nat) {v : Int32} (hF : ∀ adr fI fJ fR len, ps_F ca adr κ fI fJ fR len = .inl (ca κ, len, .inr (.inl fJ))) (ht : (ps_tys ca)[t0]? = some (ca κ, ty)) (hv : Int32.ofNat (ps_L σ κ n) = v) (hd : decode cc pc = .ok (.arraylength, 1))
    (kk : ps_V p l e R s m args below meth c nL D ca A H0 adr0 σ0 Q (pc + 1) L (ps_int v :: st) σ ce sl) : ps_V p l e R s m args below meth c nL D ca A H0 adr0 σ0 Q pc L (ps_ref (some (κ, n)) :: st) σ ce sl :=
  by
  intro adr H locs ls hB hs hL hls
  have hi : n < ps_N σ κ := ps_hd hs
  obtain ⟨k0, hk0⟩ := ps_ws_get (ca := ca) (adr := adr) hi (hB.1.1 κ n hi).1
  rw [show ps_cell ca adr σ κ n = _ from hF adr _ _ _ _] at hk0
  exact va_alen E.1 E.2.1 E.2.2.2.2.2 hB.1.P k0 t0 hk0 ht hv hd (kk adr H locs ls hB (ps_cn trivial (ps_tl hs)) hL hls)
theorem pv_iastore (E : ps_E p s m c cc nL own D ca) {t0 : Nat} (κ n : Nat) {i : Int32} {x : Int32} (hF : ∀ adr fI fJ fR len, ps_F ca adr κ fI fJ fR len = .inl (ca κ, len, .inl fI)) (ht : (ps_tys ca)[t0]? = some (ca κ, .int)) (hin : vp_in i (ps_L σ κ n)) (hd : decode cc pc = .ok (.iastore, 1))
    (kk : ps_V p l e R s m args below meth c nL D ca A H0 adr0 σ0 Q (pc + 1) L st (ps_sI σ κ n i.toNatClampNeg x) ce sl) : ps_V p l e R s m args below meth c nL D ca A H0 adr0 σ0 Q pc L (ps_int x :: ps_int i :: ps_ref (some (κ, n)) :: st) σ ce sl :=
  by
  intro adr H locs ls hB hs hL hls
  have hi : n < ps_N σ κ := ps_hd (ps_tl (ps_tl hs))
  obtain ⟨k0, hk0⟩ := ps_ws_get (ca := ca) (adr := adr) hi (hB.1.1 κ n hi).1
  rw [show ps_cell ca adr σ κ n = _ from hF adr _ _ _ _] at hk0
  refine va_iast E.1 E.2.1 E.2.2.2.2.2 hB.1.P hB.1.D hB.2.1 k0 t0 hk0 ht hin hd (fun H1 locs1 hP1 hD1 hS1 => ?_)
  have e1 : ps_cell ca adr (ps_sI σ κ n i.toNatClampNeg x) κ n = _ := (ps_cI ca adr σ κ n i.toNatClampNeg x).trans (hF adr _ _ _ _)
  exact kk adr H1 locs1 ls ⟨hB.1.set hi hk0 (by rw [e1]; exact hP1) rfl (fun a b h => ps_oI ca adr σ κ n _ x a b h) hB.1.2.2, hS1, hB.2.2.1, hB.2.2.2.1, hB.2.2.2.2⟩ (fun a ha => ps_ok_N rfl (ps_tl (ps_tl (ps_tl hs)) a ha)) (fun q hq => ps_ok_N rfl (hL q hq)) hls
theorem pv_bastore (E : ps_E p s m c cc nL own D ca) {t0 : Nat} (κ n : Nat) {i : Int32} {x : Int32} (hF : ∀ adr fI fJ fR len, ps_F ca adr κ fI fJ fR len = .inl (ca κ, len, .inl fI)) (ht : (ps_tys ca)[t0]? = some (ca κ, .boolean)) (hin : vp_in i (ps_L σ κ n)) (hx : vp_nar .boolean x = x) (hd : decode cc pc = .ok (.bastore, 1))
    (kk : ps_V p l e R s m args below meth c nL D ca A H0 adr0 σ0 Q (pc + 1) L st (ps_sI σ κ n i.toNatClampNeg x) ce sl) : ps_V p l e R s m args below meth c nL D ca A H0 adr0 σ0 Q pc L (ps_int x :: ps_int i :: ps_ref (some (κ, n)) :: st) σ ce sl :=
  by
  intro adr H locs ls hB hs hL hls
  have hi : n < ps_N σ κ := ps_hd (ps_tl (ps_tl hs))
  obtain ⟨k0, hk0⟩ := ps_ws_get (ca := ca) (adr := adr) hi (hB.1.1 κ n hi).1
  rw [show ps_cell ca adr σ κ n = _ from hF adr _ _ _ _] at hk0
  refine va_zast E.1 E.2.1 E.2.2.2.2.2 hB.1.P hB.1.D hB.2.1 k0 t0 hk0 ht hin hd (fun H1 locs1 hP1 hD1 hS1 => ?_)
  rw [hx] at hP1
  have e1 : ps_cell ca adr (ps_sI σ κ n i.toNatClampNeg x) κ n = _ := (ps_cI ca adr σ κ n i.toNatClampNeg x).trans (hF adr _ _ _ _)
  exact kk adr H1 locs1 ls ⟨hB.1.set hi hk0 (by rw [e1]; exact hP1) rfl (fun a b h => ps_oI ca adr σ κ n _ x a b h) hB.1.2.2, hS1, hB.2.2.1, hB.2.2.2.1, hB.2.2.2.2⟩ (fun a ha => ps_ok_N rfl (ps_tl (ps_tl (ps_tl hs)) a ha)) (fun q hq => ps_ok_N rfl (hL q hq)) hls
theorem pv_lastore (E : ps_E p s m c cc nL own D ca) {t0 : Nat} (κ n : Nat) {i : Int32} {x : Int64} (hF : ∀ adr fI fJ fR len, ps_F ca adr κ fI fJ fR len = .inl (ca κ, len, .inr (.inl fJ))) (ht : (ps_tys ca)[t0]? = some (ca κ, .long)) (hin : vp_in i (ps_L σ κ n)) (hd : decode cc pc = .ok (.lastore, 1))
    (kk : ps_V p l e R s m args below meth c nL D ca A H0 adr0 σ0 Q (pc + 1) L st (ps_sJ σ κ n i.toNatClampNeg x) ce sl) : ps_V p l e R s m args below meth c nL D ca A H0 adr0 σ0 Q pc L (ps_lng x :: ps_int i :: ps_ref (some (κ, n)) :: st) σ ce sl :=
  by
  intro adr H locs ls hB hs hL hls
  have hi : n < ps_N σ κ := ps_hd (ps_tl (ps_tl hs))
  obtain ⟨k0, hk0⟩ := ps_ws_get (ca := ca) (adr := adr) hi (hB.1.1 κ n hi).1
  rw [show ps_cell ca adr σ κ n = _ from hF adr _ _ _ _] at hk0
  refine va_last E.1 E.2.1 E.2.2.2.2.2 hB.1.P hB.1.D hB.2.1 k0 t0 hk0 ht hin hd (fun H1 locs1 hP1 hD1 hS1 => ?_)
  have e1 : ps_cell ca adr (ps_sJ σ κ n i.toNatClampNeg x) κ n = _ := (ps_cJ ca adr σ κ n i.toNatClampNeg x).trans (hF adr _ _ _ _)
  exact kk adr H1 locs1 ls ⟨hB.1.set hi hk0 (by rw [e1]; exact hP1) rfl (fun a b h => ps_oJ ca adr σ κ n _ x a b h) hB.1.2.2, hS1, hB.2.2.1, hB.2.2.2.1, hB.2.2.2.2⟩ (fun a ha => ps_ok_N rfl (ps_tl (ps_tl (ps_tl hs)) a ha)) (fun q hq => ps_ok_N rfl (hL q hq)) hls
theorem ps_e_up (adr : Nat → Nat → Nat) (f : Nat → Option (Nat × Nat)) (k : Nat) (r : Option (Nat × Nat)) : (fun j => ps_e adr (va_up f k r j)) = va_up (fun j => ps_e adr (f j)) k (ps_e adr r) := by
  funext j
  by_cases h : j = k
  · subst h
    rw [va_up_self, va_up_self]
  · rw [va_up_ne _ _ h, va_up_ne _ _ h]
theorem pv_aastore (E : ps_E p s m c cc nL own D ca) {t0 ci : Nat} {r : vw_C} (κ n κt j : Nat) {i : Int32} (hF : ∀ adr fI fJ fR len, ps_F ca adr κ fI fJ fR len = .inl (ca κ, len, .inr (.inr (.inr (.inr fun j => ps_e adr (fR j)))))) (ht : (ps_tys ca)[t0]? = some (ca κ, .object r.1)) (hc : ps_cl[ci]? = some r) (hFt : ∀ adr, ∃ vs, ps_cell ca adr σ κt j = .inr (ci, vs)) (hin : vp_in i (ps_L σ κ n)) (hd : decode cc pc = .ok (.aastore, 1))
    (kk : ps_V p l e R s m args below meth c nL D ca A H0 adr0 σ0 Q (pc + 1) L st (ps_sR σ κ n i.toNatClampNeg (some (κt, j))) ce sl) : ps_V p l e R s m args below meth c nL D ca A H0 adr0 σ0 Q pc L (ps_ref (some (κt, j)) :: ps_int i :: ps_ref (some (κ, n)) :: st) σ ce sl :=
  by
  intro adr H locs ls hB hs hL hls
  have hi : n < ps_N σ κ := ps_hd (ps_tl (ps_tl hs))
  have hj : j < ps_N σ κt := ps_hd hs
  obtain ⟨k0, hk0⟩ := ps_ws_get (ca := ca) (adr := adr) hi (hB.1.1 κ n hi).1
  obtain ⟨k1, hk1⟩ := ps_ws_get (ca := ca) (adr := adr) hj (hB.1.1 κt j hj).1
  obtain ⟨vs, hvs⟩ := hFt adr
  rw [hvs] at hk1
  rw [show ps_cell ca adr σ κ n = _ from hF adr _ _ _ _] at hk0
  refine va_astq E.1 E.2.1 E.2.2.2.2.2 hB.1.P hB.1.D hB.2.1 k0 t0 k1 ci hk0 ht hk1 hc hin hd (fun H1 locs1 hP1 hD1 hS1 => ?_)
  have e1 : ps_cell ca adr (ps_sR σ κ n i.toNatClampNeg (some (κt, j))) κ n = _ := (ps_cR ca adr σ κ n i.toNatClampNeg (some (κt, j))).trans (hF adr _ _ _ _)
  rw [ps_e_up adr] at e1
  exact kk adr H1 locs1 ls ⟨hB.1.set hi hk0 (by rw [e1]; exact hP1) rfl (fun a b h => ps_oR ca adr σ κ n _ _ a b h) (ps_wfR hB.1.2.2 hj), hS1, hB.2.2.1, hB.2.2.2.1, hB.2.2.2.2⟩ (fun a ha => ps_ok_N rfl (ps_tl (ps_tl (ps_tl hs)) a ha)) (fun q hq => ps_ok_N rfl (hL q hq)) hls
theorem pv_aastoreN (E : ps_E p s m c cc nL own D ca) {t0 : Nat} {C : String} (κ n : Nat) {i : Int32} (hF : ∀ adr fI fJ fR len, ps_F ca adr κ fI fJ fR len = .inl (ca κ, len, .inr (.inr (.inr (.inr fun j => ps_e adr (fR j)))))) (ht : (ps_tys ca)[t0]? = some (ca κ, .object C)) (hin : vp_in i (ps_L σ κ n)) (hd : decode cc pc = .ok (.aastore, 1))
    (kk : ps_V p l e R s m args below meth c nL D ca A H0 adr0 σ0 Q (pc + 1) L st (ps_sR σ κ n i.toNatClampNeg none) ce sl) : ps_V p l e R s m args below meth c nL D ca A H0 adr0 σ0 Q pc L (ps_ref none :: ps_int i :: ps_ref (some (κ, n)) :: st) σ ce sl :=
  by
  intro adr H locs ls hB hs hL hls
  have hi : n < ps_N σ κ := ps_hd (ps_tl (ps_tl hs))
  obtain ⟨k0, hk0⟩ := ps_ws_get (ca := ca) (adr := adr) hi (hB.1.1 κ n hi).1
  rw [show ps_cell ca adr σ κ n = _ from hF adr _ _ _ _] at hk0
  refine va_astqN E.1 E.2.1 E.2.2.2.2.2 hB.1.P hB.1.D hB.2.1 k0 t0 hk0 ht hin hd (fun H1 locs1 hP1 hD1 hS1 => ?_)
  have e1 : ps_cell ca adr (ps_sR σ κ n i.toNatClampNeg none) κ n = _ := (ps_cR ca adr σ κ n i.toNatClampNeg none).trans (hF adr _ _ _ _)
  rw [ps_e_up adr] at e1
  exact kk adr H1 locs1 ls ⟨hB.1.set hi hk0 (by rw [e1]; exact hP1) rfl (fun a b h => ps_oR ca adr σ κ n _ _ a b h) (ps_wfR hB.1.2.2 trivial), hS1, hB.2.2.1, hB.2.2.2.1, hB.2.2.2.2⟩ (fun a ha => ps_ok_N rfl (ps_tl (ps_tl (ps_tl hs)) a ha)) (fun q hq => ps_ok_N rfl (hL q hq)) hls
/-- behind a new cell: old values are where they were -/
theorem ps_fresh {κ len q : Nat} {ev : va_E} {adr : Nat → Nat → Nat} {H H1 : Heap} {locs : List Loc} {ls : Array Slot} {n : Nat} (hB : ps_B D ca A H0 adr0 σ0 adr σ H locs) (hs : ∀ a ∈ st, ps_ok σ a) (hL : ∀ q ∈ L, ps_ok σ q.2) (hls : lv_has ls nL (L.map fun q => (q.1, ps_v adr q.2)))
    (hκ : κ < ps_NK) (hP : va_P D ps_cl (ps_ws ca adr σ ++ [(q, ev)]) H1) (hD : va_D A (ps_ws ca adr σ ++ [(q, ev)])) (hS : va_S A H0 H1 locs) (he : ∀ adr', ps_F ca adr' κ (fun _ => 0) (fun _ => 0) (fun _ => none) len = ev)
    (kk : ps_V p l e R s m args below meth c nL D ca A H0 adr0 σ0 Q n L (ps_ref (some (κ, ps_N σ κ)) :: st) (ps_mk σ κ len) ce sl) : W p l e R s m args below meth c H1 locs ce sl Q (F0 m n ls (.ref q :: st.map (ps_v adr))) := by
  have hag : ∀ a b, b < ps_N σ a → (fun a b => if a = κ ∧ b = ps_N σ κ then q else adr a b) a b = adr a b := by
    intro a b hb
    refine if_neg ?_
    rintro ⟨rfl, rfl⟩
    omega
  have hmono : ∀ a, ps_N σ a ≤ ps_N (ps_mk σ κ len) a := by
    intro a
    show ps_N σ a ≤ (if a = κ then ps_N σ κ + 1 else ps_N σ a)
    by_cases ha : a = κ
    · subst ha; rw [if_pos rfl]; omega
    · rw [if_neg ha]; exact Nat.le_refl _
  have hnew : ps_N σ κ < ps_N (ps_mk σ κ len) κ := by
    show ps_N σ κ < (if κ = κ then ps_N σ κ + 1 else ps_N σ κ)
    rw [if_pos rfl]; omega
  have K := kk (fun a b => if a = κ ∧ b = ps_N σ κ then q else adr a b) H1 locs ls ⟨hB.1.push hκ hP hD he, hS, hB.2.2.1, fun a b hb => (hag a b (Nat.lt_of_lt_of_le hb (hB.2.2.2.2 a))).trans (hB.2.2.2.1 a b hb), fun a => Nat.le_trans (hB.2.2.2.2 a) (hmono a)⟩
    (ps_cn hnew (fun a ha => ps_ok_up hmono (hs a ha))) (fun q hq => ps_ok_up hmono (hL q hq)) (by rw [ps_L_eq hag hL]; exact hls)
  have e3 : (ps_ref (some (κ, ps_N σ κ)) :: st).map (ps_v (fun a b => if a = κ ∧ b = ps_N σ κ then q else adr a b)) = .ref q :: st.map (ps_v adr) := by
    rw [List.map_cons, ps_st_eq hag hs]
    congr 1
    show Value.ref (if κ = κ ∧ ps_N σ κ = ps_N σ κ then q else _) = .ref q
    rw [if_pos ⟨rfl, rfl⟩]
  rw [e3] at K
  exact K
theorem pv_new (E : ps_E p s m c cc nL own D ca) {index ci N : Nat} {C : String} {T : u_T} (κ : Nat) {fs : List Value} (hκ : κ < ps_NK) (he : ∀ adr, ps_F ca adr κ (fun _ => 0) (fun _ => 0) (fun _ => none) 0 = .inr (ci, fs)) (hc : ps_cl[ci]? = some (C, T, N)) (hin : ∀ w ∈ u_ws C T N, w ∈ ps_T) (ty : Nat → FieldType) (hty : ∀ k, k < N → parseFieldDescriptor (T k).2.2.1 = some (ty k)) (w1 : Cond.classLink own index C ∈ ps_T) (w2 : Cond.instantiable C N ∈ ps_T) (w3 : Cond.initialized C ∈ ps_T) (hfs : ∀ j, j < N → defaultValue (ty j) = vp_V fs j) (h1 : ce + 1 ≤ R.cells) (h2 : sl + N ≤ R.slots) (hd : decode cc pc = .ok (.new index, 3))
    (kk : ps_V p l e R s m args below meth c nL D ca A H0 adr0 σ0 Q (pc + 3) L (ps_ref (some (κ, ps_N σ κ)) :: st) (ps_mk σ κ 0) (ce + 1) (sl + N)) : ps_V p l e R s m args below meth c nL D ca A H0 adr0 σ0 Q pc L st σ ce sl :=
  by
  intro adr H locs ls hB hs hL hls
  exact va_new E.1 E.2.1 (E.2.2.2.2.words args) hin ty hty E.2.2.2.1 (E.2.2.2.2.words args _ w1) (E.2.2.2.2.words args _ w2) (E.2.2.2.2.words args _ w3) E.2.2.2.2.2 hB.1.P hB.1.D hB.2.1 hB.2.2.1 hc hfs h1 h2 hd (fun q H1 hP hD hS => ps_fresh hB hs hL hls hκ hP hD hS he kk)
theorem pv_anew (E : ps_E p s m c cc nL own D ca) {index t0 N : Nat} {C : String} (κ : Nat) {n : Int32} (hκ : κ < ps_NK) (hF : ∀ adr fI fJ fR len, ps_F ca adr κ fI fJ fR len = .inl (ca κ, len, .inr (.inr (.inr (.inr fun j => ps_e adr (fR j)))))) (ht : (ps_tys ca)[t0]? = some (ca κ, .object C)) (w1 : Cond.classLink own index C ∈ ps_T) (w2 : Cond.arrayOver (.object C) ∈ ps_T) (hn : ¬ n < 0) (hN : n.toNatClampNeg = N) (hbytes : N * 4 ≤ 536870912) (h1 : ce + 1 ≤ R.cells) (h2 : sl + N ≤ R.slots) (hd : decode cc pc = .ok (.anewarray index, 3))
    (kk : ps_V p l e R s m args below meth c nL D ca A H0 adr0 σ0 Q (pc + 3) L (ps_ref (some (κ, ps_N σ κ)) :: st) (ps_mk σ κ N) (ce + 1) (sl + N)) : ps_V p l e R s m args below meth c nL D ca A H0 adr0 σ0 Q pc L (ps_int n :: st) σ ce sl :=
  by
  intro adr H locs ls hB hs hL hls
  refine va_newq E.1 E.2.1 E.2.2.2.1 (E.2.2.2.2.words args _ w1) (va_AO.of (E.2.2.2.2.words args _ w2)) E.2.2.2.2.2 hB.1.P hB.1.D hB.2.1 hB.2.2.1 hn hN hbytes h1 h2 hd (fun q cA H1 hK hP hD hS => ?_)
  have hcA : cA = ca κ := by
    obtain ⟨kA, comp, -, -, -, f4⟩ := (hK.2 (ps_tys ca).length (cA, .object C) (by rw [List.getElem?_append_right (Nat.le_refl _), Nat.sub_self]; rfl)).2
    obtain ⟨kA', comp', -, -, -, g4⟩ := (E.2.2.2.2.2.2 t0 _ ht).2
    exact Option.some.inj (f4.symm.trans g4)
  subst hcA
  exact ps_fresh hB (ps_tl hs) hL hls hκ hP hD hS (fun adr' => hF adr' _ _ _ _) kk
theorem pv_newI (E : ps_E p s m c cc nL own D ca) {t0 N : Nat} (κ : Nat) {n : Int32} (hκ : κ < ps_NK) (hF : ∀ adr fI fJ fR len, ps_F ca adr κ fI fJ fR len = .inl (ca κ, len, .inl fI)) (ht : (ps_tys ca)[t0]? = some (ca κ, .int)) (w1 : Cond.arrayClass .int ∈ ps_T) (hn : ¬ n < 0) (hN : n.toNatClampNeg = N) (hbytes : N * componentBytes .int ≤ 536870912) (h1 : ce + 1 ≤ R.cells) (h2 : sl + N ≤ R.slots) (hd : decode cc pc = .ok (.newarray .int, 2))
    (kk : ps_V p l e R s m args below meth c nL D ca A H0 adr0 σ0 Q (pc + 2) L (ps_ref (some (κ, ps_N σ κ)) :: st) (ps_mk σ κ N) (ce + 1) (sl + N)) : ps_V p l e R s m args below meth c nL D ca A H0 adr0 σ0 Q pc L (ps_int n :: st) σ ce sl :=
  by
  intro adr H locs ls hB hs hL hls
  refine va_newa (atype := .int) (a0 := (N, .inl fun _ => 0)) E.1 E.2.1 (E.2.2.2.2.words args _ w1) (ty := .int) rfl E.2.2.2.2.2 hB.1.P hB.1.D hB.2.1 hB.2.2.1 (fun _ => rfl) hn hN hbytes h1 h2 hd (fun q cA H1 hK hP hD hS => ?_)
  have hcA : cA = ca κ := by
    have f4 : s.vm.findClass _ = some cA := (hK.2 (ps_tys ca).length (cA, .int) (by rw [List.getElem?_append_right (Nat.le_refl _), Nat.sub_self]; rfl)).2
    have g4 : s.vm.findClass _ = some (ca κ) := (E.2.2.2.2.2.2 t0 _ ht).2
    exact Option.some.inj (f4.symm.trans g4)
  subst hcA
  exact ps_fresh hB (ps_tl hs) hL hls hκ hP hD hS (fun adr' => hF adr' _ _ _ _) kk
theorem pv_newZ (E : ps_E p s m c cc nL own D ca) {t0 N : Nat} (κ : Nat) {n : Int32} (hκ : κ < ps_NK) (hF : ∀ adr fI fJ fR len, ps_F ca adr κ fI fJ fR len = .inl (ca κ, len, .inl fI)) (ht : (ps_tys ca)[t0]? = some (ca κ, .boolean)) (w1 : Cond.arrayClass .boolean ∈ ps_T) (hn : ¬ n < 0) (hN : n.toNatClampNeg = N) (hbytes : N * componentBytes .boolean ≤ 536870912) (h1 : ce + 1 ≤ R.cells) (h2 : sl + N ≤ R.slots) (hd : decode cc pc = .ok (.newarray .boolean, 2))
    (kk : ps_V p l e R s m args below meth c nL D ca A H0 adr0 σ0 Q (pc + 2) L (ps_ref (some (κ, ps_N σ κ)) :: st) (ps_mk σ κ N) (ce + 1) (sl + N)) : ps_V p l e R s m args below meth c nL D ca A H0 adr0 σ0 Q pc L (ps_int n :: st) σ ce sl :=
  by
  intro adr H locs ls hB hs hL hls
  refine va_newa (atype := .boolean) (a0 := (N, .inl fun _ => 0)) E.1 E.2.1 (E.2.2.2.2.words args _ w1) (ty := .boolean) rfl E.2.2.2.2.2 hB.1.P hB.1.D hB.2.1 hB.2.2.1 (fun _ => rfl) hn hN hbytes h1 h2 hd (fun q cA H1 hK hP hD hS => ?_)
  have hcA : cA = ca κ := by
    have f4 : s.vm.findClass _ = some cA := (hK.2 (ps_tys ca).length (cA, .boolean) (by rw [List.getElem?_append_right (Nat.le_refl _), Nat.sub_self]; rfl)).2
    have g4 : s.vm.findClass _ = some (ca κ) := (E.2.2.2.2.2.2 t0 _ ht).2
    exact Option.some.inj (f4.symm.trans g4)
  subst hcA
  exact ps_fresh hB (ps_tl hs) hL hls hκ hP hD hS (fun adr' => hF adr' _ _ _ _) kk
theorem pv_newJ (E : ps_E p s m c cc nL own D ca) {t0 N : Nat} (κ : Nat) {n : Int32} (hκ : κ < ps_NK) (hF : ∀ adr fI fJ fR len, ps_F ca adr κ fI fJ fR len = .inl (ca κ, len, .inr (.inl fJ))) (ht : (ps_tys ca)[t0]? = some (ca κ, .long)) (w1 : Cond.arrayClass .long ∈ ps_T) (hn : ¬ n < 0) (hN : n.toNatClampNeg = N) (hbytes : N * componentBytes .long ≤ 536870912) (h1 : ce + 1 ≤ R.cells) (h2 : sl + N ≤ R.slots) (hd : decode cc pc = .ok (.newarray .long, 2))
    (kk : ps_V p l e R s m args below meth c nL D ca A H0 adr0 σ0 Q (pc + 2) L (ps_ref (some (κ, ps_N σ κ)) :: st) (ps_mk σ κ N) (ce + 1) (sl + N)) : ps_V p l e R s m args below meth c nL D ca A H0 adr0 σ0 Q pc L (ps_int n :: st) σ ce sl :=
  by
  intro adr H locs ls hB hs hL hls
  refine va_newa (atype := .long) (a0 := (N, .inr (.inl fun _ => 0))) E.1 E.2.1 (E.2.2.2.2.words args _ w1) (ty := .long) rfl E.2.2.2.2.2 hB.1.P hB.1.D hB.2.1 hB.2.2.1 (fun _ => rfl) hn hN hbytes h1 h2 hd (fun q cA H1 hK hP hD hS => ?_)
  have hcA : cA = ca κ := by
    have f4 : s.vm.findClass _ = some cA := (hK.2 (ps_tys ca).length (cA, .long) (by rw [List.getElem?_append_right (Nat.le_refl _), Nat.sub_self]; rfl)).2
    have g4 : s.vm.findClass _ = some (ca κ) := (E.2.2.2.2.2.2 t0 _ ht).2
    exact Option.some.inj (f4.symm.trans g4)
  subst hcA
  exact ps_fresh hB (ps_tl hs) hL hls hκ hP hD hS (fun adr' => hF adr' _ _ _ _) kk
end PSV
