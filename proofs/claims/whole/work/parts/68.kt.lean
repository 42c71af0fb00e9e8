/-! making the world: lists of cells that grow -/
theorem ul_aI : Cond.arrayClass .int ∈ UL := ul_in1 (List.mem_of_getElem? (i := 77) rfl) rfl
theorem ul_aZ : Cond.arrayClass .boolean ∈ UL := ul_in1 (List.mem_of_getElem? (i := 206) rfl) rfl
theorem ul_oi : Cond.code objectInit ⟨#[0xb1]⟩ 1 none ∈ UL := ul_in1 (List.mem_of_getElem? (i := 23) rfl) rfl
abbrev KG : Type := va_G × ClassId × ClassId
abbrev kty (G : KG) : List (ClassId × FieldType) := [(G.2.1, .int), (G.2.2, .boolean)]
/-- the method that runs -/
def Cx (p : Program) (s : State) (m : MethodId) (args : Array Value) (c : Code) (cc : ByteArray) (nL : Nat) (own : String) (G : KG) (A : Nat → Prop) : Prop :=
  CallFix p m c cc nL s args UL own ∧ va_K G.1 ev_cl (kty G) s ∧ (∀ q, s.heap.size ≤ q → A q) ∧ ev_N s
def Kt (p : Program) (l : Launch) (e : Env) (R : Room) (s : State) (m : MethodId) (args : Array Value) (below : List Frame) (meth : Method) (c : Code) (G : KG) (A : Nat → Prop) (Q : State → Prop) (ws : va_W) (k n pc : Nat) (ls : Array Slot) (st : List Value) : Prop :=
  ∀ (H : Heap) (locs : List Loc), va_P G.1 ev_cl ws H → va_D A ws → va_S A s.heap H locs → W p l e R s m args below meth c H locs k n Q (F0 m pc ls st)
section KT
variable {p : Program} {l : Launch} {e : Env} {R : Room} {s : State} {m : MethodId} {args : Array Value} {below : List Frame} {meth : Method} {c : Code} {cc : ByteArray} {nL : Nat} {own : String} {G : KG} {A : Nat → Prop} {Q : State → Prop} {ws : va_W} {k n pc : Nat} {ls : Array Slot} {st : List Value}
theorem kt_perm {ws' : va_W} (is : List Nat) (h1 : is.filterMap (fun i => ws[i]?) = ws') (h2 : va_nd is = true) (h3 : is.map (fun i => ws[i]?) = ws'.map some) (kk : Kt p l e R s m args below meth c G A Q ws' k n pc ls st) : Kt p l e R s m args below meth c G A Q ws k n pc ls st :=
  fun H locs hP hD hS => kk H locs (hP.sub is h1) (hD.sub is h2 h3) hS
theorem kt_aload (C : Cx p s m args c cc nL own G A) {i : _root_.Fin 4} {j x : Nat} (hd : decode cc pc = .ok (.aload_n i, 1)) (hi : (i : Nat) = j) (hl : ls[j]? = some (.val (.ref x))) (kk : Kt p l e R s m args below meth c G A Q ws k n (pc + 1) ls (.ref x :: st)) : Kt p l e R s m args below meth c G A Q ws k n pc ls st :=
  fun H locs hP hD hS => lv_aload_n C.1.1 C.1.2.1 hd hi hl (kk H locs hP hD hS)
theorem kt_iload (C : Cx p s m args c cc nL own G A) {i : _root_.Fin 4} {j : Nat} {x : Int32} (hd : decode cc pc = .ok (.iload_n i, 1)) (hi : (i : Nat) = j) (hl : ls[j]? = some (.val (.int x))) (kk : Kt p l e R s m args below meth c G A Q ws k n (pc + 1) ls (.int x :: st)) : Kt p l e R s m args below meth c G A Q ws k n pc ls st :=
  fun H locs hP hD hS => lv_iload_n C.1.1 C.1.2.1 hd hi hl (kk H locs hP hD hS)
theorem kt_iconst (C : Cx p s m args c cc nL own G A) {v : Int} (hd : decode cc pc = .ok (.iconst v, 1)) (kk : Kt p l e R s m args below meth c G A Q ws k n (pc + 1) ls (.int (Int32.ofInt v) :: st)) : Kt p l e R s m args below meth c G A Q ws k n pc ls st :=
  fun H locs hP hD hS => lv_iconst C.1.1 C.1.2.1 hd rfl (kk H locs hP hD hS)
theorem kt_bipush (C : Cx p s m args c cc nL own G A) {v : Int} (hd : decode cc pc = .ok (.bipush v, 2)) (hv : (Int8.ofInt v).toInt32 = Int32.ofInt v) (kk : Kt p l e R s m args below meth c G A Q ws k n (pc + 2) ls (.int (Int32.ofInt v) :: st)) : Kt p l e R s m args below meth c G A Q ws k n pc ls st :=
  fun H locs hP hD hS => lv_bipush C.1.1 C.1.2.1 hd hv (kk H locs hP hD hS)
theorem kt_sipush (C : Cx p s m args c cc nL own G A) {v : Int} (hd : decode cc pc = .ok (.sipush v, 3)) (hv : (Int16.ofInt v).toInt32 = Int32.ofInt v) (kk : Kt p l e R s m args below meth c G A Q ws k n (pc + 3) ls (.int (Int32.ofInt v) :: st)) : Kt p l e R s m args below meth c G A Q ws k n pc ls st :=
  fun H locs hP hD hS => lv_sipush C.1.1 C.1.2.1 hd hv (kk H locs hP hD hS)
theorem kt_dup (C : Cx p s m args c cc nL own G A) {x : Nat} (hd : decode cc pc = .ok (.dup, 1)) (kk : Kt p l e R s m args below meth c G A Q ws k n (pc + 1) ls (.ref x :: .ref x :: st)) : Kt p l e R s m args below meth c G A Q ws k n pc ls (.ref x :: st) :=
  fun H locs hP hD hS => lv_dup C.1.1 C.1.2.1 hd rfl (kk H locs hP hD hS)
theorem kt_imul (C : Cx p s m args c cc nL own G A) {x y : Int} (hd : decode cc pc = .ok (.imul, 1)) (kk : Kt p l e R s m args below meth c G A Q ws k n (pc + 1) ls (.int (Int32.ofInt (x * y)) :: st)) : Kt p l e R s m args below meth c G A Q ws k n pc ls (.int (Int32.ofInt y) :: .int (Int32.ofInt x) :: st) :=
  fun H locs hP hD hS => lv_imul C.1.1 C.1.2.1 hd (by rw [i_mul]; exact kk H locs hP hD hS)
theorem kt_iadd (C : Cx p s m args c cc nL own G A) {x y : Int} (hd : decode cc pc = .ok (.iadd, 1)) (kk : Kt p l e R s m args below meth c G A Q ws k n (pc + 1) ls (.int (Int32.ofInt (x + y)) :: st)) : Kt p l e R s m args below meth c G A Q ws k n pc ls (.int (Int32.ofInt y) :: .int (Int32.ofInt x) :: st) :=
  fun H locs hP hD hS => lv_iadd C.1.1 C.1.2.1 hd (by rw [i_add]; exact kk H locs hP hD hS)
theorem i_n0 {y : Int} (hb : iR y) (h1 : 0 < y) : ¬ Int32.ofInt y = 0 := by
  rw [i_0, i_eq hb iR_0]; omega
theorem kt_idiv (C : Cx p s m args c cc nL own G A) {x y : Int} (hd : decode cc pc = .ok (.idiv, 1)) (h0 : 0 ≤ x) (ha : iR x) (h1 : 0 < y) (hb : iR y) (kk : Kt p l e R s m args below meth c G A Q ws k n (pc + 1) ls (.int (Int32.ofInt (x / y)) :: st)) : Kt p l e R s m args below meth c G A Q ws k n pc ls (.int (Int32.ofInt y) :: .int (Int32.ofInt x) :: st) :=
  fun H locs hP hD hS => lv_idiv C.1.1 C.1.2.1 hd (i_n0 hb h1) (by rw [i_div h0 ha h1 hb]; exact kk H locs hP hD hS)
theorem kt_irem (C : Cx p s m args c cc nL own G A) {x y : Int} (hd : decode cc pc = .ok (.irem, 1)) (h0 : 0 ≤ x) (ha : iR x) (h1 : 0 < y) (hb : iR y) (kk : Kt p l e R s m args below meth c G A Q ws k n (pc + 1) ls (.int (Int32.ofInt (x % y)) :: st)) : Kt p l e R s m args below meth c G A Q ws k n pc ls (.int (Int32.ofInt y) :: .int (Int32.ofInt x) :: st) :=
  fun H locs hP hD hS => lv_irem C.1.1 C.1.2.1 hd (i_n0 hb h1) (by rw [i_rem h0 ha h1 hb]; exact kk H locs hP hD hS)
theorem kt_ge (C : Cx p s m args c cc nL own G A) {x y off : Int} {tgt : Nat} (hd : decode cc pc = .ok (.if_icmp .ge off, 3)) (ht : (pc : Int) + off = (tgt : Int)) (hx : iR x) (hy : iR y) (kt : y ≤ x → Kt p l e R s m args below meth c G A Q ws k n tgt ls st) (kf : ¬ y ≤ x → Kt p l e R s m args below meth c G A Q ws k n (pc + 3) ls st) : Kt p l e R s m args below meth c G A Q ws k n pc ls (.int (Int32.ofInt y) :: .int (Int32.ofInt x) :: st) :=
  fun H locs hP hD hS => lv_icmp_ge C.1.1 C.1.2.1 hd ht (fun z => kt ((i_le hy hx).mp z) H locs hP hD hS) (fun z => kf (fun t => z ((i_le hy hx).mpr t)) H locs hP hD hS)
theorem kt_ne (C : Cx p s m args c cc nL own G A) {x y off : Int} {tgt : Nat} (hd : decode cc pc = .ok (.if_icmp .ne off, 3)) (ht : (pc : Int) + off = (tgt : Int)) (hx : iR x) (hy : iR y) (kt : ¬ x = y → Kt p l e R s m args below meth c G A Q ws k n tgt ls st) (kf : x = y → Kt p l e R s m args below meth c G A Q ws k n (pc + 3) ls st) : Kt p l e R s m args below meth c G A Q ws k n pc ls (.int (Int32.ofInt y) :: .int (Int32.ofInt x) :: st) := by
  intro H locs hP hD hS
  by_cases h : x = y
  · refine lv_icmp_ne C.1.1 C.1.2.1 hd ht (fun z => ?_) (fun z => kf h H locs hP hD hS)
    first | exact absurd (by rw [h]) z | exact absurd ((i_eq hx hy).mpr h) z
  · refine lv_icmp_ne C.1.1 C.1.2.1 hd ht (fun z => kt h H locs hP hD hS) (fun z => ?_)
    exact absurd ((i_eq hx hy).mp (by first | exact z | exact Classical.not_not.mp z)) h
theorem kt_goto (C : Cx p s m args c cc nL own G A) {off : Int} {tgt : Nat} (hd : decode cc pc = .ok (.goto off, 3)) (ht : (pc : Int) + off = (tgt : Int)) (kk : Kt p l e R s m args below meth c G A Q ws k n tgt ls st) : Kt p l e R s m args below meth c G A Q ws k n pc ls st :=
  fun H locs hP hD hS => lv_goto C.1.1 C.1.2.1 hd ht (kk H locs hP hD hS)
theorem kt_istore (C : Cx p s m args c cc nL own G A) {i : _root_.Fin 4} {j : Nat} {x : Int32} {lv lv' : List (Nat × Value)} (hd : decode cc pc = .ok (.istore_n i, 1)) (hi : (i : Nat) = j) (h : lv_has ls nL lv) (hn : j < nL) (hl : (j, Value.int x) :: lv.filter (fun q => !(q.1 == j) && !(q.1 + 1 == j && q.2.category == 2)) = lv')
    (kk : ∀ ls' : Array Slot, lv_has ls' nL lv' → Kt p l e R s m args below meth c G A Q ws k n (pc + 1) ls' st) : Kt p l e R s m args below meth c G A Q ws k n pc ls (.int x :: st) :=
  fun H locs hP hD hS => lv_istore_n C.1.1 C.1.2.1 hd hi h hn hl (fun ls' h' => kk ls' h' H locs hP hD hS)
theorem kt_astore (C : Cx p s m args c cc nL own G A) {i : _root_.Fin 4} {j : Nat} {x : Nat} {lv lv' : List (Nat × Value)} (hd : decode cc pc = .ok (.astore_n i, 1)) (hi : (i : Nat) = j) (h : lv_has ls nL lv) (hn : j < nL) (hl : (j, Value.ref x) :: lv.filter (fun q => !(q.1 == j) && !(q.1 + 1 == j && q.2.category == 2)) = lv')
    (kk : ∀ ls' : Array Slot, lv_has ls' nL lv' → Kt p l e R s m args below meth c G A Q ws k n (pc + 1) ls' st) : Kt p l e R s m args below meth c G A Q ws k n pc ls (.ref x :: st) :=
  fun H locs hP hD hS => lv_astore_n C.1.1 C.1.2.1 hd hi h hn hl (fun ls' h' => kk ls' h' H locs hP hD hS)
theorem kt_iinc (C : Cx p s m args c cc nL own G A) {i j : Nat} {d x : Int} {lv lv' : List (Nat × Value)} (hd : decode cc pc = .ok (.iinc i d, 3)) (h : lv_has ls nL lv) (hk : lv[j]? = some (i, .int (Int32.ofInt x))) (hn : i < nL) (hl : (i, Value.int (Int32.ofInt (x + d))) :: lv.filter (fun q => !(q.1 == i) && !(q.1 + 1 == i && q.2.category == 2)) = lv')
    (kk : ∀ ls' : Array Slot, lv_has ls' nL lv' → Kt p l e R s m args below meth c G A Q ws k n (pc + 3) ls' st) : Kt p l e R s m args below meth c G A Q ws k n pc ls st :=
  fun H locs hP hD hS => lv_iinc C.1.1 C.1.2.1 hd h hk (i_add x d) hn hl (fun ls' h' => kk ls' h' H locs hP hD hS)
theorem kt_alen (C : Cx p s m args c cc nL own G A) {a N : Nat} {f : Nat → Int32} (hd : decode cc pc = .ok (.arraylength, 1)) (q0 : Nat) (ha : ws[q0]? = some (a, .inl (G.2.1, N, .inl f))) (kk : Kt p l e R s m args below meth c G A Q ws k n (pc + 1) ls (.int (Int32.ofInt (N : Int)) :: st)) : Kt p l e R s m args below meth c G A Q ws k n pc ls (.ref a :: st) :=
  fun H locs hP hD hS => va_alen C.1.1 C.1.2.1 C.2.1 hP q0 0 ha rfl (v := Int32.ofInt (N : Int)) rfl hd (kk H locs hP hD hS)
theorem kt_newI (C : Cx p s m args c cc nL own G A) {N : Nat} {v : Int32} (hd : decode cc pc = .ok (.newarray .int, 2)) (hv : v.toNatClampNeg = N) (hv0 : ¬ v < 0) (hB : Nat.ble (N * 4) 536870912 = true) (hc : Nat.ble (k + 1) R.cells = true) (hs : Nat.ble (n + N) R.slots = true)
    (kk : ∀ q, Kt p l e R s m args below meth c G A Q (ws ++ [(q, .inl (G.2.1, N, .inl (fun _ => 0)))]) (k + 1) (n + N) (pc + 2) ls (.ref q :: st)) : Kt p l e R s m args below meth c G A Q ws k n pc ls (.int v :: st) := by
  intro H locs hP hD hS
  refine va_newa C.1.1 C.1.2.1 (atype := .int) (C.1.2.2.2.2 _ ul_aI) (ty := .int) rfl C.2.1 hP hD hS C.2.2.1 (N' := N) (a0 := (N, .inl (fun _ => 0))) (fun cA => rfl) hv0 hv (Nat.le_of_ble_eq_true hB) (Nat.le_of_ble_eq_true hc) (Nat.le_of_ble_eq_true hs) hd (fun q cA H1 hK1 hP1 hD1 hS1 => ?_)
  have h1 : s.vm.findClass ("[" ++ FieldType.int.toString) = some cA := (hK1.2 2 (cA, .int) rfl).2
  have h2 : s.vm.findClass ("[" ++ FieldType.int.toString) = some G.2.1 := (C.2.1.2 0 (G.2.1, .int) rfl).2
  have e0 : cA = G.2.1 := Option.some.inj (h1.symm.trans h2)
  rw [e0] at hP1 hD1
  exact kk q H1 locs hP1 hD1 hS1
theorem kt_newZ (C : Cx p s m args c cc nL own G A) {N : Nat} {v : Int32} (hd : decode cc pc = .ok (.newarray .boolean, 2)) (hv : v.toNatClampNeg = N) (hv0 : ¬ v < 0) (hB : Nat.ble (N * 1) 536870912 = true) (hc : Nat.ble (k + 1) R.cells = true) (hs : Nat.ble (n + N) R.slots = true)
    (kk : ∀ q, Kt p l e R s m args below meth c G A Q (ws ++ [(q, .inl (G.2.2, N, .inl (fun _ => 0)))]) (k + 1) (n + N) (pc + 2) ls (.ref q :: st)) : Kt p l e R s m args below meth c G A Q ws k n pc ls (.int v :: st) := by
  intro H locs hP hD hS
  refine va_newa C.1.1 C.1.2.1 (atype := .boolean) (C.1.2.2.2.2 _ ul_aZ) (ty := .boolean) rfl C.2.1 hP hD hS C.2.2.1 (N' := N) (a0 := (N, .inl (fun _ => 0))) (fun cA => rfl) hv0 hv (Nat.le_of_ble_eq_true hB) (Nat.le_of_ble_eq_true hc) (Nat.le_of_ble_eq_true hs) hd (fun q cA H1 hK1 hP1 hD1 hS1 => ?_)
  have h1 : s.vm.findClass ("[" ++ FieldType.boolean.toString) = some cA := (hK1.2 2 (cA, .boolean) rfl).2
  have h2 : s.vm.findClass ("[" ++ FieldType.boolean.toString) = some G.2.2 := (C.2.1.2 1 (G.2.2, .boolean) rfl).2
  have e0 : cA = G.2.2 := Option.some.inj (h1.symm.trans h2)
  rw [e0] at hP1 hD1
  exact kk q H1 locs hP1 hD1 hS1
theorem kt_iast (C : Cx p s m args c cc nL own G A) {a N : Nat} {f : Nat → Int32} {i : Int} {x : Int32} {ws' : va_W} (hd : decode cc pc = .ok (.iastore, 1)) (q0 : Nat) (ha : ws[q0]? = some (a, .inl (G.2.1, N, .inl f))) (hr : iR i) (hi : 0 ≤ i ∧ i < (N : Int)) (hw : ws.set q0 (a, .inl (G.2.1, N, .inl (upd f i.toNat x))) = ws')
    (kk : Kt p l e R s m args below meth c G A Q ws' k n (pc + 1) ls st) : Kt p l e R s m args below meth c G A Q ws k n pc ls (.int x :: .int (Int32.ofInt i) :: .ref a :: st) := by
  intro H locs hP hD hS
  refine va_iast C.1.1 C.1.2.1 C.2.1 hP hD hS q0 0 ha rfl (ev_in hi hr) hd (fun H1 locs1 hP1 hD1 hS1 => ?_)
  rw [ev_cl0 hr, hw] at hP1 hD1
  exact kk H1 locs1 hP1 hD1 hS1
theorem kt_get (C : Cx p s m args c cc nL own G A) {Cn : String} {T : u_T} {N ci idx a : Nat} {fs : List Value} {v : Value} (hd : decode cc pc = .ok (.getfield idx, 3)) (hin : ∀ w ∈ u_ws Cn T N, w ∈ UL) (q0 : Nat) (he : ws[q0]? = some (a, .inr (ci, fs))) (hc : ev_cl[ci]? = some (Cn, T, N)) (f : Nat) (hk : f < N) (hlink : Cond.fieldLink own idx (T f).1 (T f).2.1 (T f).2.2.1 ∈ UL) (hv : fs[f]? = some v)
    (kk : Kt p l e R s m args below meth c G A Q ws k n (pc + 3) ls (v :: st)) : Kt p l e R s m args below meth c G A Q ws k n pc ls (.ref a :: st) :=
  fun H locs hP hD hS => va_get C.1.1 C.1.2.1 C.1.2.2.2.2 hin C.1.2.2.2.1 C.2.1 hP q0 he hc f hk (C.1.2.2.2.2 _ hlink) (fun _ h9 => h9) hv hd (kk H locs hP hD hS)
theorem kt_put (C : Cx p s m args c cc nL own G A) (hnm0 : meth.name = "<init>") {Cn : String} {T : u_T} {N ci idx a b : Nat} {fs : List Value} {ty : FieldType} {ty0 : Nat → FieldType} {ws' : va_W} (hd : decode cc pc = .ok (.putfield idx, 3)) (hin : ∀ w ∈ u_ws Cn T N, w ∈ UL) (hty : ∀ k, k < N → parseFieldDescriptor (T k).2.2.1 = some (ty0 k)) (hnm : ∀ a, a < N → ∀ b, b < N → a ≠ b → (T a).2.1 ≠ (T b).2.1) (q0 : Nat) (he : ws[q0]? = some (a, .inr (ci, fs))) (hc : ev_cl[ci]? = some (Cn, T, N)) (f : Nat) (hk : f < N) (hlink : Cond.fieldLink own idx (T f).1 (T f).2.1 (T f).2.2.1 ∈ UL) (hfin : (T f).2.2.2 = true) (hdecl : (T f).1 = own) (hdd : parseFieldDescriptor (T f).2.2.1 = some ty) (hn : narrow ty (.ref b) = .ref b) (hfit : fits ty (.ref b) = true) (hl : f < fs.length) (hw : ws.set q0 (a, .inr (ci, fs.set f (.ref b))) = ws')
    (kk : Kt p l e R s m args below meth c G A Q ws' k n (pc + 3) ls st) : Kt p l e R s m args below meth c G A Q ws k n pc ls (.ref b :: .ref a :: st) := by
  intro H locs hP hD hS
  refine va_putF C.1.1 C.1.2.1 C.1.2.2.2.2 hin ty0 hty hnm C.1.2.2.2.1 C.2.1 hP hD hS q0 he hc f hk (C.1.2.2.2.2 _ hlink) (fun _ h9 => h9) hfin hnm0 hdecl hdd hn hfit hl hd (fun H1 locs1 hP1 hD1 hS1 => ?_)
  rw [hw] at hP1 hD1
  exact kk H1 locs1 hP1 hD1 hS1
theorem kt_new (C : Cx p s m args c cc nL own G A) {Cn : String} {T : u_T} {N ci idx : Nat} {fs : List Value} {ty : Nat → FieldType} (hd : decode cc pc = .ok (.new idx, 3)) (hin : ∀ w ∈ u_ws Cn T N, w ∈ UL) (hty : ∀ k, k < N → parseFieldDescriptor (T k).2.2.1 = some (ty k)) (hcl : Cond.classLink own idx Cn ∈ UL) (hinst : Cond.instantiable Cn N ∈ UL) (hini : Cond.initialized Cn ∈ UL) (hc : ev_cl[ci]? = some (Cn, T, N)) (hfs : (List.range N).map (fun j => defaultValue (ty j)) = fs) (hcc : Nat.ble (k + 1) R.cells = true) (hss : Nat.ble (n + N) R.slots = true)
    (kk : ∀ q, Kt p l e R s m args below meth c G A Q (ws ++ [(q, .inr (ci, fs))]) (k + 1) (n + N) (pc + 3) ls (.ref q :: st)) : Kt p l e R s m args below meth c G A Q ws k n pc ls st := by
  intro H locs hP hD hS
  refine va_new C.1.1 C.1.2.1 C.1.2.2.2.2 hin ty hty C.1.2.2.2.1 (C.1.2.2.2.2 _ hcl) (C.1.2.2.2.2 _ hinst) (C.1.2.2.2.2 _ hini) C.2.1 hP hD hS C.2.2.1 hc (fs := fs) (fun j hj => ?_) (Nat.le_of_ble_eq_true hcc) (Nat.le_of_ble_eq_true hss) hd (fun q H1 hP1 hD1 hS1 => kk q H1 locs hP1 hD1 hS1)
  rw [← hfs]
  unfold vp_V
  rw [List.getD_eq_getElem?_getD, List.getElem?_map, List.getElem?_range hj]
  rfl
theorem kt_oi (C : Cx p s m args c cc nL own G A) {idx a : Nat} (hd : decode cc pc = .ok (.invokespecial idx, 3)) (hl : Cond.methodLink own idx objectInit ∈ UL) (hz : ls.size = nL) (h1 : Nat.ble 1 R.frames = true) (h2 : Nat.ble 12 R.locals = true) (kk : Kt p l e R s m args below meth c G A Q ws k n (pc + 3) ls []) : Kt p l e R s m args below meth c G A Q ws k n pc ls [.ref a] := by
  intro H locs hP hD hS
  refine W.objInit C.1.1 C.1.2.1 C.1.2.2.2.1 (C.1.2.2.2.2 _ hl) (C.1.2.2.2.2 _ ul_1_22) (C.1.2.2.2.2 _ ul_oi) rfl (by rw [C.1.2.2.1]; exact hz) rfl hd (Nat.le_of_ble_eq_true h1) (Nat.le_of_ble_eq_true h2) ?_
  refine W.eq (g2 := F0 m (pc + 3) ls []) rfl ?_
  exact kk H locs hP hD hS
end KT
/-- a method's contract over lists of cells -/
def CT (l : Launch) (y : MethodName) (Y : MI) (As : List Value) (w0 : va_W) (mc ms : Nat) (G : KG) (wf : (Nat → Nat) → va_W) : Prop := ∀ sz : Nat, Met l y (wsY y Y) { frames := Y.2.2.2.2.1, cells := mc, slots := ms, locals := Y.2.2.2.2.2 } (va_Pc As (fun U => U.heap.size = sz ∧ va_P G.1 ev_cl w0 U.heap ∧ va_K G.1 ev_cl (kty G) U ∧ va_D (fun _ => True) w0 ∧ ev_N U)) (va_Qv (fun _ : Nat → Nat => True) (fun u t => va_P G.1 ev_cl (wf u) t.heap ∧ va_D (va_A w0 sz) (wf u)) (va_A w0 sz)) mc ms (va_A w0 sz)
theorem ct_met {l : Launch} {y : MethodName} {Y : MI} {na : Nat} {As : List Value} {w0 : va_W} {mc ms : Nat} {G : KG} {wf : (Nat → Nat) → va_W} (hm : mOK y Y na) (hY : Y.2.2.2.1 = none) (hlen : Nat.ble (lg_sl As).length Y.2.2.1 = true)
    (H : ∀ (p : Program) (e : Env) (s : State) (m : MethodId) (args : Array Value) (below : List Frame) (meth : Method) (c : Code) (A : Nat → Prop) (Q : State → Prop) (ls : Array Slot), Cx p s m args c Y.2.1 Y.2.2.1 Y.1 G A → meth.name = y.name → lv_has ls Y.2.2.1 (lv_args 0 As) →
      (∀ (pc : Nat) (ls : Array Slot) (u : Nat → Nat), decode Y.2.1 pc = .ok (.return_, 1) → Kt p l e { frames := Y.2.2.2.2.1, cells := mc, slots := ms, locals := Y.2.2.2.2.2 } s m args below meth c G A Q (wf u) mc ms pc ls []) →
      Kt p l e { frames := Y.2.2.2.2.1, cells := mc, slots := ms, locals := Y.2.2.2.2.2 } s m args below meth c G A Q w0 0 0 0 ls []) : CT l y Y As w0 mc ms G wf := by
  intro sz
  refine va_MetF (cc := Y.2.1) (maxL := Y.2.2.1) (ret := Y.2.2.2.1) hm.2.2.2.1 rfl ?_
  intro p e s m args below meth c s₁ B hml hv
  obtain ⟨rfl, hsz, hP, hK, hD, hN⟩ := hv
  subst hsz
  have hts := atoms_spec (ws := wsY y Y) B.pre
  have hown : s.vm.findClass y.cls = some m.cls := findClass_of_methodNamed B.named
  rw [hm.2.2.2.2] at hown
  have hl := lv_entry As (Nat.le_of_ble_eq_true hlen)
  rw [lg_entry_eq]
  generalize (lg_sl As ++ List.replicate (Y.2.2.1 - (lg_sl As).length) Slot.unset).toArray = ls at hl ⊢
  refine H p e s m _ below meth c (va_A w0 s.heap.size) _ ls ⟨⟨B.exec, B.bytes, hml, hown, fun u hu => hts u (List.mem_cons_of_mem _ hu)⟩, hK, fun q hq => Or.inr hq, hN⟩ (name_of_methodNamed B.named B.method).1 hl ?_ s.heap [] hP hD.self va_S.rf
  intro pc ls u hd H1 locs hP1 hD1 hS1
  exact W.vret B.exec B.bytes (by rw [B.returns]; exact hY) (fun t ht _ => ⟨⟨u, rfl, trivial, by rw [ht]; exact hP1, hD1⟩, hS1.F ht⟩) hS1.2.2 hd B.notSynchronized
section KC
variable {p : Program} {l : Launch} {e : Env} {R : Room} {s : State} {m : MethodId} {args : Array Value} {below : List Frame} {meth : Method} {c : Code} {cc : ByteArray} {nL : Nat} {own : String} {G : KG} {A : Nat → Prop} {Q : State → Prop} {ws : va_W} {k n pc : Nat} {ls : Array Slot} {st st0 : List Value} {y : MethodName} {Y : MI} {na idx : Nat} {As : List Value} {w0 wr : va_W} {mc ms : Nat} {wf : (Nat → Nat) → va_W}
theorem kt_pre (C : Cx p s m args c cc nL own G A) {H : Heap} (hP : va_P G.1 ev_cl w0 H) (hD : va_D A w0) : PreS s H (va_Pc As (fun U => U.heap.size = H.size ∧ va_P G.1 ev_cl w0 U.heap ∧ va_K G.1 ev_cl (kty G) U ∧ va_D (fun _ => True) w0 ∧ ev_N U)) As := by
  refine ⟨fun a U g mk q => ?_, fun U hU hW => ⟨rfl, by rw [hU], by rw [hU]; exact hP, va_K.moved hW.alike C.2.1, hD.weaken (fun _ _ _ _ => trivial), ev_NW hW C.2.2.2⟩⟩
  obtain ⟨q0, q1, qP, qK, qD, qN⟩ := q
  exact ⟨q0, q1, qP, va_K.moved (u := U) (U := U.calling g mk a) (Vm.Alike.refl U.vm) qK, qD, ev_NS (u := U) (U := U.calling g mk a) rfl qN⟩
theorem kt_back (C : Cx p s m args c cc nL own G A) {H : Heap} {locs : List Loc} {a : Array Value} (hP : va_P G.1 ev_cl ws H) (hD : va_D A ws) (hS : va_S A s.heap H locs) (isC isR : List Nat) (hC : isC.map (fun i => ws[i]?) = w0.map some) (hR : isR.map (fun i => ws[i]?) = wr.map some) (hn : va_nd isR = true) (hdis : ∀ i ∈ isR, i ∉ isC)
    (hr : va_Run p l e R s m args below meth c H locs k n mc ms (F0 m pc ls st0) st (va_Qv (fun _ : Nat → Nat => True) (fun u t => va_P G.1 ev_cl (wf u) t.heap ∧ va_D (va_A w0 H.size) (wf u)) (va_A w0 H.size) a) (va_A w0 H.size))
    (kk : ∀ u, Kt p l e R s m args below meth c G A Q (wr ++ wf u) (k + mc) (n + ms) (pc + 3) ls st) : W p l e R s m args below meth c H locs k n Q (F0 m pc ls st0) := by
  have hFc := va_free (wc := w0) hD hS C.2.2.1 isC hC
  refine va_callv hr hS (fun q _ h => hFc q h) hFc (fun u t H1 locs1 ht hvm _ hB hz1 hk1 hS1 => ?_)
  obtain ⟨hP1, hD1⟩ := hB
  rw [ht] at hP1
  obtain ⟨hP2, hD2⟩ := va_join (wr := wr) (w1 := wf u) hP hD isC isR hC hR hn hdis hk1 hFc hP1 hD1
  exact kk u H1 locs1 hP2 hD2 hS1
theorem kt_callI {q : Nat} (C : Cx p s m args c cc nL own G A) (hd : decode cc pc = .ok (.invokespecial idx, 3)) (hM : CT l y Y (.ref q :: As) w0 mc ms G wf) (hm : mOK y Y na) (hw : wsY y Y = Cond.code y Y.2.1 Y.2.2.1 none :: UL) (hy : y.name = "<init>") (hu : Cond.methodLink own idx y ∈ UL) (hi : Cond.instanceMethod y ∈ UL) (hf : Nat.ble (Y.2.2.2.2.1 + 1) R.frames = true ∧ Nat.ble (8 + (Y.2.2.1 + 11) + Y.2.2.2.2.2) R.locals = true) (hrm : Nat.ble (k + mc) R.cells = true ∧ Nat.ble (n + ms) R.slots = true)
    (isC isR : List Nat) (hC : isC.map (fun i => ws[i]?) = w0.map some) (hC2 : isC.filterMap (fun i => ws[i]?) = w0) (hCn : va_nd isC = true) (hR : isR.map (fun i => ws[i]?) = wr.map some) (hn : va_nd isR = true) (hdis : ∀ i ∈ isR, i ∉ isC) (hlen : As.length = na) (hz : ls.size = nL) (hst : st0 = As.reverse ++ .ref q :: st) (hsum : Nat.ble (st.map fun v => v.category).sum 8 = true)
    (kk : ∀ u, Kt p l e R s m args below meth c G A Q (wr ++ wf u) (k + mc) (n + ms) (pc + 3) ls st) : Kt p l e R s m args below meth c G A Q ws k n pc ls st0 := by
  intro H locs hP hD hS
  have hini : (Cond.initialized y.cls).before args s = true := by rw [hm.2.2.2.2]; exact C.1.2.2.2.2 _ hm.2.1
  exact kt_back C hP hD hS isC isR hC hR hn hdis (va_runI (As := As) (rest := st) C.1 (hM H.size) (cwI na C.1.2.2.2.2 (ul_GI hm) hw rfl rfl hini (C.1.2.2.2.2 _ hu) (C.1.2.2.2.2 _ hi) hy hm.2.2.1 ⟨Nat.le_of_ble_eq_true hf.1, Nat.le_of_ble_eq_true hf.2⟩) (kt_pre C (hP.sub isC hC2) (hD.sub isC hCn hC)) rfl hlen hz hst (lv_room (Nat.le_of_ble_eq_true hsum)) hd ⟨Nat.le_of_ble_eq_true hrm.1, Nat.le_of_ble_eq_true hrm.2⟩) kk
theorem kt_callN {q : Nat} {host : String} (C : Cx p s m args c cc nL own G A) (hd : decode cc pc = .ok (.invokespecial idx, 3)) (hM : CT l y Y (.ref q :: As) w0 mc ms G wf) (hm : mOK y Y na) (hw : wsY y Y = Cond.code y Y.2.1 Y.2.2.1 none :: UL) (hy : y.name = "<init>") (hu : Cond.methodLinkNest own idx y host ∈ ev_nl) (hi : Cond.instanceMethod y ∈ UL) (hf : Nat.ble (Y.2.2.2.2.1 + 1) R.frames = true ∧ Nat.ble (8 + (Y.2.2.1 + 11) + Y.2.2.2.2.2) R.locals = true) (hrm : Nat.ble (k + mc) R.cells = true ∧ Nat.ble (n + ms) R.slots = true)
    (isC isR : List Nat) (hC : isC.map (fun i => ws[i]?) = w0.map some) (hC2 : isC.filterMap (fun i => ws[i]?) = w0) (hCn : va_nd isC = true) (hR : isR.map (fun i => ws[i]?) = wr.map some) (hn : va_nd isR = true) (hdis : ∀ i ∈ isR, i ∉ isC) (hlen : As.length = na) (hz : ls.size = nL) (hst : st0 = As.reverse ++ .ref q :: st) (hsum : Nat.ble (st.map fun v => v.category).sum 8 = true)
    (kk : ∀ u, Kt p l e R s m args below meth c G A Q (wr ++ wf u) (k + mc) (n + ms) (pc + 3) ls st) : Kt p l e R s m args below meth c G A Q ws k n pc ls st0 := by
  intro H locs hP hD hS
  have hini : (Cond.initialized y.cls).before args s = true := by rw [hm.2.2.2.2]; exact C.1.2.2.2.2 _ hm.2.1
  exact kt_back C hP hD hS isC isR hC hR hn hdis (va_runIN (As := As) (rest := st) C.1 (hM H.size) ⟨va_cnB na C.1.2.2.2.2 (ul_GI hm) hw rfl rfl (C.2.2.2 _ hu) hini hm.2.2.1 ⟨Nat.le_of_ble_eq_true hf.1, Nat.le_of_ble_eq_true hf.2⟩, hy, C.1.2.2.2.2 _ hi⟩ (kt_pre C (hP.sub isC hC2) (hD.sub isC hCn hC)) rfl hlen hz hst (lv_room (Nat.le_of_ble_eq_true hsum)) hd ⟨Nat.le_of_ble_eq_true hrm.1, Nat.le_of_ble_eq_true hrm.2⟩) kk
theorem kt_callS (C : Cx p s m args c cc nL own G A) (hd : decode cc pc = .ok (.invokestatic idx, 3)) (hM : CT l y Y As w0 mc ms G wf) (hm : mOK y Y na) (hw : wsY y Y = Cond.code y Y.2.1 Y.2.2.1 none :: UL) (hu : Cond.methodLink own idx y ∈ UL) (hi : Cond.static y ∈ UL) (hf : Nat.ble (Y.2.2.2.2.1 + 1) R.frames = true ∧ Nat.ble (8 + (Y.2.2.1 + 11) + Y.2.2.2.2.2) R.locals = true) (hrm : Nat.ble (k + mc) R.cells = true ∧ Nat.ble (n + ms) R.slots = true)
    (isC isR : List Nat) (hC : isC.map (fun i => ws[i]?) = w0.map some) (hC2 : isC.filterMap (fun i => ws[i]?) = w0) (hCn : va_nd isC = true) (hR : isR.map (fun i => ws[i]?) = wr.map some) (hn : va_nd isR = true) (hdis : ∀ i ∈ isR, i ∉ isC) (hlen : As.length = na) (hz : ls.size = nL) (hst : st0 = As.reverse ++ st) (hsum : Nat.ble (st.map fun v => v.category).sum 8 = true)
    (kk : ∀ u, Kt p l e R s m args below meth c G A Q (wr ++ wf u) (k + mc) (n + ms) (pc + 3) ls st) : Kt p l e R s m args below meth c G A Q ws k n pc ls st0 := by
  intro H locs hP hD hS
  have hG : GoodIn UL (va_wsS own idx y (wsY y Y)) := by
    intro u hu2
    unfold va_wsS at hu2
    rcases List.mem_append.mp hu2 with h1 | h1
    · simp only [List.mem_cons, List.not_mem_nil, or_false] at h1
      rcases h1 with rfl | rfl | rfl
      · exact ⟨hu, ul_good _ hu⟩
      · exact ⟨hi, ul_good _ hi⟩
      · rw [hm.2.2.2.2]; exact ⟨hm.2.1, ul_good _ hm.2.1⟩
    · exact ul_GI hm u h1
  exact kt_back C hP hD hS isC isR hC hR hn hdis (va_runS (As := As) (rest := st) C.1 (hM H.size) (va_cwS na C.1.2.2.2.2 hG rfl rfl rfl hm.2.2.1 ⟨Nat.le_of_ble_eq_true hf.1, Nat.le_of_ble_eq_true hf.2⟩) (kt_pre C (hP.sub isC hC2) (hD.sub isC hCn hC)) rfl hlen hz hst (lv_room (Nat.le_of_ble_eq_true hsum)) hd ⟨Nat.le_of_ble_eq_true hrm.1, Nat.le_of_ble_eq_true hrm.2⟩) kk
end KC
