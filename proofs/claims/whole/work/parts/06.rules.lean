/-! the logic: Ev, its rules -/
def Wh (w : WD) (h : HP) (A : Nat → Prop) (s : State) (H : Heap) (locs : List Loc) : Prop := va_P w.2.1 ev_cl (wld w h) H ∧ va_D A (wld w h) ∧ va_S A s.heap H locs ∧ okh h
def retI : Option AV → Instr
  | none => .return_
  | some (.inl _) => .ireturn
  | some (.inr (.inl _)) => .lreturn
  | some (.inr (.inr _)) => .areturn
def rk : Option FieldType → Option AV → Prop
  | none, none => True
  | some .int, some (.inl _) => True
  | some .boolean, some (.inl x) => x = 0 ∨ x = 1
  | some .long, some (.inr (.inl _)) => True
  | _, _ => False
def okr : Option AV → Prop
  | none => True
  | some v => okv v
def En (w : WD) (Y : MI) (Q : Option AV → HP → Prop) (p : Program) (l : Launch) (e : Env) (R : Room) (s : State) (m : MethodId) (args : Array Value) (below : List Frame) (meth : Method) (c : Code) (A : Nat → Prop) (cells slots : Nat) (Z : State → Prop) : Prop :=
  CallFix p m c Y.2.1 Y.2.2.1 s args UL Y.1 ∧ (Y.2.2.2.2.1 ≤ R.frames ∧ Y.2.2.2.2.2 ≤ R.locals ∧ cells ≤ R.cells ∧ slots ≤ R.slots) ∧ (va_K w.2.1 ev_cl (ev_ty w) s ∧ ev_N s ∧ ev_S w A s s.heap ∧ ∀ q, s.heap.size ≤ q → A q) ∧
  ∀ (v : Option AV) (h : HP) (H : Heap) (locs : List Loc) (pc : Nat) (ls : Array Slot), Q v h → rk Y.2.2.2.1 v → okr v → Wh w h A s H locs → decode Y.2.1 pc = .ok (retI v, 1) → W p l e R s m args below meth c H locs cells slots Z (F0 m pc ls (v.toList.map (mv w.1)))
def Ev (w : WD) (Y : MI) (pc : Nat) (lv : List (Option AV)) (st : List AV) (h : HP) (Q : Option AV → HP → Prop) : Prop :=
  ∀ (p : Program) (l : Launch) (e : Env) (R : Room) (s : State) (m : MethodId) (args : Array Value) (below : List Frame) (meth : Method) (c : Code) (A : Nat → Prop) (cells slots : Nat) (Z : State → Prop),
  En w Y Q p l e R s m args below meth c A cells slots Z → ∀ (H : Heap) (locs : List Loc) (ls : Array Slot), Wh w h A s H locs → okl lv → oks st → lvh w ls Y.2.2.1 lv →
  W p l e R s m args below meth c H locs cells slots Z (F0 m pc ls (st.map (mv w.1)))
section EvRules
variable {w : WD} {Y : MI} {pc : Nat} {lv lv' : List (Option AV)} {st : List AV} {h : HP} {Q : Option AV → HP → Prop}
theorem e_mask (bs : List Bool) (hl : mk bs lv = lv') (k : Ev w Y pc lv' st h Q) : Ev w Y pc lv st h Q := by
  intro p l e R s m args below meth c A cells slots Z E H locs ls Wl hlv hst hl2
  subst hl
  exact k p l e R s m args below meth c A cells slots Z E H locs ls Wl (fun i v hv => hlv i v (lg_mk _ _ _ _ hv)) hst (lvh_by (l2 := prs w.1 0 lv) hl2 (fun i v hv => by have := prs_of (ad := w.1) lv 0 i v (lg_mk _ _ _ _ hv); simpa using this))
theorem e_conq {Q2 : Option AV → HP → Prop} (k : Ev w Y pc lv st h Q2) (hq : ∀ v h', Q2 v h' → Q v h') : Ev w Y pc lv st h Q := by
  intro p l e R s m args below meth c A cells slots Z E
  exact k p l e R s m args below meth c A cells slots Z ⟨E.1, E.2.1, E.2.2.1, fun v h H locs pc ls hv => E.2.2.2 v h H locs pc ls (hq v h hv)⟩
theorem e_iconst {n : Int} (hd : decode Y.2.1 pc = .ok (.iconst n, 1)) (hr : iR n) (k : Ev w Y (pc + 1) lv (vI n :: st) h Q) : Ev w Y pc lv st h Q := by
  intro p l e R s m args below meth c A cells slots Z E H locs ls Wl hlv hst hl
  exact lv_iconst E.1.1 E.1.2.1 hd rfl (k p l e R s m args below meth c A cells slots Z E H locs ls Wl hlv (oks_c hr hst) hl)
theorem e_bipush {n : Int} (hd : decode Y.2.1 pc = .ok (.bipush n, 2)) (hr : iR n) (hv : (Int8.ofInt n).toInt32 = Int32.ofInt n) (k : Ev w Y (pc + 2) lv (vI n :: st) h Q) : Ev w Y pc lv st h Q := by
  intro p l e R s m args below meth c A cells slots Z E H locs ls Wl hlv hst hl
  exact lv_bipush E.1.1 E.1.2.1 hd hv (k p l e R s m args below meth c A cells slots Z E H locs ls Wl hlv (oks_c hr hst) hl)
theorem e_sipush {n : Int} (hd : decode Y.2.1 pc = .ok (.sipush n, 3)) (hr : iR n) (hv : (Int16.ofInt n).toInt32 = Int32.ofInt n) (k : Ev w Y (pc + 3) lv (vI n :: st) h Q) : Ev w Y pc lv st h Q := by
  intro p l e R s m args below meth c A cells slots Z E H locs ls Wl hlv hst hl
  exact lv_sipush E.1.1 E.1.2.1 hd hv (k p l e R s m args below meth c A cells slots Z E H locs ls Wl hlv (oks_c hr hst) hl)
theorem e_lconst {n : Fin 2} {x : Int} (hd : decode Y.2.1 pc = .ok (.lconst n, 1)) (hr : lR x) (hv : Int64.ofNat (n : Nat) = Int64.ofInt x) (k : Ev w Y (pc + 1) lv (vL x :: st) h Q) : Ev w Y pc lv st h Q := by
  intro p l e R s m args below meth c A cells slots Z E H locs ls Wl hlv hst hl
  exact lv_lconst E.1.1 E.1.2.1 hd hv (k p l e R s m args below meth c A cells slots Z E H locs ls Wl hlv (oks_c hr hst) hl)
theorem e_ldc2 {i : Nat} {x : Int} (hd : decode Y.2.1 pc = .ok (.ldc2_w i, 3)) (hu : Cond.constantLong Y.1 i (Int64.ofInt x) ∈ UL) (hr : lR x) (k : Ev w Y (pc + 3) lv (vL x :: st) h Q) : Ev w Y pc lv st h Q := by
  intro p l e R s m args below meth c A cells slots Z E H locs ls Wl hlv hst hl
  exact lv_ldc2 E.1.1 E.1.2.1 E.1.2.2.2.1 (E.1.2.2.2.2 _ hu) hd (k p l e R s m args below meth c A cells slots Z E H locs ls Wl hlv (oks_c hr hst) hl)
theorem e_ldcw {i : Nat} {x : Int} (hd : decode Y.2.1 pc = .ok (.ldc_w i, 3)) (hu : Cond.constant Y.1 i (Int32.ofInt x) ∈ UL) (hr : iR x) (k : Ev w Y (pc + 3) lv (vI x :: st) h Q) : Ev w Y pc lv st h Q := by
  intro p l e R s m args below meth c A cells slots Z E H locs ls Wl hlv hst hl
  exact lv_ldcw E.1.1 E.1.2.1 E.1.2.2.2.1 (E.1.2.2.2.2 _ hu) hd (k p l e R s m args below meth c A cells slots Z E H locs ls Wl hlv (oks_c hr hst) hl)
theorem e_iload_n {j : Fin 4} {i : Nat} {x : Int} (hd : decode Y.2.1 pc = .ok (.iload_n j, 1)) (hi : (j : Nat) = i) (hx : lg lv i = some (vI x)) (k : Ev w Y (pc + 1) lv (vI x :: st) h Q) : Ev w Y pc lv st h Q := by
  intro p l e R s m args below meth c A cells slots Z E H locs ls Wl hlv hst hl
  exact lv_iload_n E.1.1 E.1.2.1 hd hi (lvh_at hl hx) (k p l e R s m args below meth c A cells slots Z E H locs ls Wl hlv (oks_c (hlv _ _ hx) hst) hl)
theorem e_iload {i : Nat} {x : Int} (hd : decode Y.2.1 pc = .ok (.iload i, 2)) (hx : lg lv i = some (vI x)) (k : Ev w Y (pc + 2) lv (vI x :: st) h Q) : Ev w Y pc lv st h Q := by
  intro p l e R s m args below meth c A cells slots Z E H locs ls Wl hlv hst hl
  exact lv_iload E.1.1 E.1.2.1 hd (lvh_at hl hx) (k p l e R s m args below meth c A cells slots Z E H locs ls Wl hlv (oks_c (hlv _ _ hx) hst) hl)
theorem e_lload_n {j : Fin 4} {i : Nat} {x : Int} (hd : decode Y.2.1 pc = .ok (.lload_n j, 1)) (hi : (j : Nat) = i) (hx : lg lv i = some (vL x)) (k : Ev w Y (pc + 1) lv (vL x :: st) h Q) : Ev w Y pc lv st h Q := by
  intro p l e R s m args below meth c A cells slots Z E H locs ls Wl hlv hst hl
  exact lv_lload_n E.1.1 E.1.2.1 hd hi (lvh_at hl hx) (k p l e R s m args below meth c A cells slots Z E H locs ls Wl hlv (oks_c (hlv _ _ hx) hst) hl)
theorem e_lload {i : Nat} {x : Int} (hd : decode Y.2.1 pc = .ok (.lload i, 2)) (hx : lg lv i = some (vL x)) (k : Ev w Y (pc + 2) lv (vL x :: st) h Q) : Ev w Y pc lv st h Q := by
  intro p l e R s m args below meth c A cells slots Z E H locs ls Wl hlv hst hl
  exact lv_lload E.1.1 E.1.2.1 hd (lvh_at hl hx) (k p l e R s m args below meth c A cells slots Z E H locs ls Wl hlv (oks_c (hlv _ _ hx) hst) hl)
theorem e_aload_n {j : Fin 4} {i : Nat} {x : Nat} (hd : decode Y.2.1 pc = .ok (.aload_n j, 1)) (hi : (j : Nat) = i) (hx : lg lv i = some (vR x)) (k : Ev w Y (pc + 1) lv (vR x :: st) h Q) : Ev w Y pc lv st h Q := by
  intro p l e R s m args below meth c A cells slots Z E H locs ls Wl hlv hst hl
  exact lv_aload_n E.1.1 E.1.2.1 hd hi (lvh_at hl hx) (k p l e R s m args below meth c A cells slots Z E H locs ls Wl hlv (oks_c trivial hst) hl)
theorem lvh_stI {ls : Array Slot} {n i : Nat} {v : AV} {V : Value} (hV : V = mv w.1 v) (hh : lv_has ls n ((i, V) :: (prs w.1 0 lv).filter (fun q => !(q.1 == i) && !(q.1 + 1 == i && q.2.category == 2)))) : lvh w ls n (stI lv i v) := by
  refine lvh_by hh (fun j u hu => ?_)
  rcases lg_stI _ _ _ _ _ hu with ⟨rfl, rfl⟩ | ⟨h1, h2, h3⟩
  · rw [hV]; exact List.mem_cons_self
  · refine List.mem_cons_of_mem _ (List.mem_filter.mpr ⟨?_, ?_⟩)
    · have := prs_of (ad := w.1) lv 0 j u h2
      simpa using this
    · simp only [Bool.and_eq_true, Bool.not_eq_true', beq_eq_false_iff_ne, ne_eq]
      refine ⟨h1, ?_⟩
      rw [Bool.and_eq_false_iff]
      by_cases e : j + 1 = i
      · right
        match u, h3 with
        | .inl x, _ => rfl
        | .inr (.inr x), _ => rfl
        | .inr (.inl x), h3 => exact absurd ⟨e, x, rfl⟩ h3
      · left; simpa using e
theorem okl_stI {i : Nat} {v : AV} (hv : okv v) (hlv : okl lv) : okl (stI lv i v) := fun j u hu => by
  rcases lg_stI _ _ _ _ _ hu with ⟨rfl, rfl⟩ | ⟨h1, h2, h3⟩
  · exact hv
  · exact hlv _ _ h2
theorem lvh_stL {ls : Array Slot} {n i : Nat} {v : AV} {V : Value} (hV : V = mv w.1 v) (hh : lv_has ls n ((i, V) :: (prs w.1 0 lv).filter (fun q => !(q.1 == i) && (!(q.1 == i + 1) && !(q.1 + 1 == i && q.2.category == 2))))) : lvh w ls n (stL lv i v) := by
  refine lvh_by hh (fun j u hu => ?_)
  rcases lg_stL _ _ _ _ _ hu with ⟨rfl, rfl⟩ | ⟨h1, h0, h2, h3⟩
  · rw [hV]; exact List.mem_cons_self
  · refine List.mem_cons_of_mem _ (List.mem_filter.mpr ⟨?_, ?_⟩)
    · have := prs_of (ad := w.1) lv 0 j u h2
      simpa using this
    · simp only [Bool.and_eq_true, Bool.not_eq_true', beq_eq_false_iff_ne, ne_eq]
      refine ⟨h1, h0, ?_⟩
      rw [Bool.and_eq_false_iff]
      by_cases e : j + 1 = i
      · right
        match u, h3 with
        | .inl x, _ => rfl
        | .inr (.inr x), _ => rfl
        | .inr (.inl x), h3 => exact absurd ⟨e, x, rfl⟩ h3
      · left; simpa using e
theorem okl_stL {i : Nat} {v : AV} (hv : okv v) (hlv : okl lv) : okl (stL lv i v) := fun j u hu => by
  rcases lg_stL _ _ _ _ _ hu with ⟨rfl, rfl⟩ | ⟨h1, h0, h2, h3⟩
  · exact hv
  · exact hlv _ _ h2
theorem e_istore_n {j : Fin 4} {i : Nat} {x : Int} (hd : decode Y.2.1 pc = .ok (.istore_n j, 1)) (hi : (j : Nat) = i) (hn : Nat.blt i Y.2.2.1 = true) (hl0 : stI lv i (vI x) = lv') (k : Ev w Y (pc + 1) lv' st h Q) : Ev w Y pc lv (vI x :: st) h Q := by
  intro p l e R s m args below meth c A cells slots Z E H locs ls Wl hlv hst hl
  subst hl0
  exact lv_istore_n E.1.1 E.1.2.1 hd hi hl (Nat.le_of_ble_eq_true hn) rfl (fun ls' hl' => k p l e R s m args below meth c A cells slots Z E H locs ls' Wl (okl_stI (oks_h hst) hlv) (oks_t hst) (lvh_stI rfl hl'))
theorem e_istore {i : Nat} {x : Int} (hd : decode Y.2.1 pc = .ok (.istore i, 2)) (hn : Nat.blt i Y.2.2.1 = true) (hl0 : stI lv i (vI x) = lv') (k : Ev w Y (pc + 2) lv' st h Q) : Ev w Y pc lv (vI x :: st) h Q := by
  intro p l e R s m args below meth c A cells slots Z E H locs ls Wl hlv hst hl
  subst hl0
  exact lv_istore E.1.1 E.1.2.1 hd hl (Nat.le_of_ble_eq_true hn) rfl (fun ls' hl' => k p l e R s m args below meth c A cells slots Z E H locs ls' Wl (okl_stI (oks_h hst) hlv) (oks_t hst) (lvh_stI rfl hl'))
theorem e_lstore_n {j : Fin 4} {i : Nat} {x : Int} (hd : decode Y.2.1 pc = .ok (.lstore_n j, 1)) (hi : (j : Nat) = i) (hn : Nat.blt (i + 1) Y.2.2.1 = true) (hl0 : stL lv i (vL x) = lv') (k : Ev w Y (pc + 1) lv' st h Q) : Ev w Y pc lv (vL x :: st) h Q := by
  intro p l e R s m args below meth c A cells slots Z E H locs ls Wl hlv hst hl
  subst hl0
  exact lv_lstore_n E.1.1 E.1.2.1 hd hi hl (Nat.le_of_ble_eq_true hn) rfl (fun ls' hl' => k p l e R s m args below meth c A cells slots Z E H locs ls' Wl (okl_stL (oks_h hst) hlv) (oks_t hst) (lvh_stL rfl hl'))
theorem e_iinc {i : Nat} {n x : Int} (hd : decode Y.2.1 pc = .ok (.iinc i n, 3)) (hx : lg lv i = some (vI x)) (hr : iR (x + n)) (hn : Nat.blt i Y.2.2.1 = true) (hl0 : stI lv i (vI (x + n)) = lv') (k : Ev w Y (pc + 3) lv' st h Q) : Ev w Y pc lv st h Q := by
  intro p l e R s m args below meth c A cells slots Z E H locs ls Wl hlv hst hl
  subst hl0
  have hm := prs_of (ad := w.1) lv 0 i _ hx
  rw [Nat.zero_add] at hm
  obtain ⟨k0, hk0⟩ := List.getElem?_of_mem hm
  exact lv_iinc (v := Int32.ofInt (x + n)) E.1.1 E.1.2.1 hd hl hk0 (i_add x n) (Nat.le_of_ble_eq_true hn) rfl (fun ls' hl' => k p l e R s m args below meth c A cells slots Z E H locs ls' Wl (okl_stI hr hlv) hst (lvh_stI rfl hl'))
theorem e_iadd {a b : Int} (hd : decode Y.2.1 pc = .ok (.iadd, 1)) (hr : iR (a + b)) (k : Ev w Y (pc + 1) lv (vI (a + b) :: st) h Q) : Ev w Y pc lv (vI b :: vI a :: st) h Q := by
  intro p l e R s m args below meth c A cells slots Z E H locs ls Wl hlv hst hl
  have k1 := k p l e R s m args below meth c A cells slots Z E H locs ls Wl hlv (oks_c hr (oks_t (oks_t hst))) hl
  refine lv_iadd E.1.1 E.1.2.1 hd ?_
  rw [i_add]
  exact k1
theorem e_isub {a b : Int} (hd : decode Y.2.1 pc = .ok (.isub, 1)) (hr : iR (a - b)) (k : Ev w Y (pc + 1) lv (vI (a - b) :: st) h Q) : Ev w Y pc lv (vI b :: vI a :: st) h Q := by
  intro p l e R s m args below meth c A cells slots Z E H locs ls Wl hlv hst hl
  have k1 := k p l e R s m args below meth c A cells slots Z E H locs ls Wl hlv (oks_c hr (oks_t (oks_t hst))) hl
  refine lv_isub E.1.1 E.1.2.1 hd ?_
  rw [i_sub]
  exact k1
theorem e_imul {a b : Int} (hd : decode Y.2.1 pc = .ok (.imul, 1)) (hr : iR (a * b)) (k : Ev w Y (pc + 1) lv (vI (a * b) :: st) h Q) : Ev w Y pc lv (vI b :: vI a :: st) h Q := by
  intro p l e R s m args below meth c A cells slots Z E H locs ls Wl hlv hst hl
  have k1 := k p l e R s m args below meth c A cells slots Z E H locs ls Wl hlv (oks_c hr (oks_t (oks_t hst))) hl
  refine lv_imul E.1.1 E.1.2.1 hd ?_
  rw [i_mul]
  exact k1
theorem e_idiv {a b : Int} (hd : decode Y.2.1 pc = .ok (.idiv, 1)) (hr : 0 ≤ a ∧ 0 < b) (k : Ev w Y (pc + 1) lv (vI (a / b) :: st) h Q) : Ev w Y pc lv (vI b :: vI a :: st) h Q := by
  intro p l e R s m args below meth c A cells slots Z E H locs ls Wl hlv hst hl
  have k1 := k p l e R s m args below meth c A cells slots Z E H locs ls Wl hlv (oks_c (i_dR hr.1 (oks_h (oks_t hst)) hr.2) (oks_t (oks_t hst))) hl
  refine lv_idiv E.1.1 E.1.2.1 hd (fun z => by rw [i_0, i_eq (oks_h hst) iR_0] at z; omega) ?_
  rw [i_div hr.1 (oks_h (oks_t hst)) hr.2 (oks_h hst)]
  exact k1
theorem e_irem {a b : Int} (hd : decode Y.2.1 pc = .ok (.irem, 1)) (hr : 0 ≤ a ∧ 0 < b) (k : Ev w Y (pc + 1) lv (vI (a % b) :: st) h Q) : Ev w Y pc lv (vI b :: vI a :: st) h Q := by
  intro p l e R s m args below meth c A cells slots Z E H locs ls Wl hlv hst hl
  have k1 := k p l e R s m args below meth c A cells slots Z E H locs ls Wl hlv (oks_c (i_mR hr.2 (oks_h hst)) (oks_t (oks_t hst))) hl
  refine lv_irem E.1.1 E.1.2.1 hd (fun z => by rw [i_0, i_eq (oks_h hst) iR_0] at z; omega) ?_
  rw [i_rem hr.1 (oks_h (oks_t hst)) hr.2 (oks_h hst)]
  exact k1
theorem e_iand {a b : Int} (hd : decode Y.2.1 pc = .ok (.iand, 1)) (k : Ev w Y (pc + 1) lv (vI (iand a b) :: st) h Q) : Ev w Y pc lv (vI b :: vI a :: st) h Q := by
  intro p l e R s m args below meth c A cells slots Z E H locs ls Wl hlv hst hl
  have k1 := k p l e R s m args below meth c A cells slots Z E H locs ls Wl hlv (oks_c (i_rng _) (oks_t (oks_t hst))) hl
  simp only [List.map_cons, mv, vI, iand, i_of] at k1
  exact lv_iand E.1.1 E.1.2.1 hd k1
theorem e_ior {a b : Int} (hd : decode Y.2.1 pc = .ok (.ior, 1)) (k : Ev w Y (pc + 1) lv (vI (ior a b) :: st) h Q) : Ev w Y pc lv (vI b :: vI a :: st) h Q := by
  intro p l e R s m args below meth c A cells slots Z E H locs ls Wl hlv hst hl
  have k1 := k p l e R s m args below meth c A cells slots Z E H locs ls Wl hlv (oks_c (i_rng _) (oks_t (oks_t hst))) hl
  simp only [List.map_cons, mv, vI, ior, i_of] at k1
  exact lv_ior E.1.1 E.1.2.1 hd k1
theorem e_ixor {a b : Int} (hd : decode Y.2.1 pc = .ok (.ixor, 1)) (k : Ev w Y (pc + 1) lv (vI (ixor a b) :: st) h Q) : Ev w Y pc lv (vI b :: vI a :: st) h Q := by
  intro p l e R s m args below meth c A cells slots Z E H locs ls Wl hlv hst hl
  have k1 := k p l e R s m args below meth c A cells slots Z E H locs ls Wl hlv (oks_c (i_rng _) (oks_t (oks_t hst))) hl
  simp only [List.map_cons, mv, vI, ixor, i_of] at k1
  exact lv_ixor E.1.1 E.1.2.1 hd k1
theorem e_ishl {a b : Int} (hd : decode Y.2.1 pc = .ok (.ishl, 1)) (k : Ev w Y (pc + 1) lv (vI (ishl a b) :: st) h Q) : Ev w Y pc lv (vI b :: vI a :: st) h Q := by
  intro p l e R s m args below meth c A cells slots Z E H locs ls Wl hlv hst hl
  have k1 := k p l e R s m args below meth c A cells slots Z E H locs ls Wl hlv (oks_c (i_rng _) (oks_t (oks_t hst))) hl
  simp only [List.map_cons, mv, vI, ishl, i_of] at k1
  exact lv_ishl E.1.1 E.1.2.1 hd k1
theorem e_ishr {a b : Int} (hd : decode Y.2.1 pc = .ok (.ishr, 1)) (k : Ev w Y (pc + 1) lv (vI (ishr a b) :: st) h Q) : Ev w Y pc lv (vI b :: vI a :: st) h Q := by
  intro p l e R s m args below meth c A cells slots Z E H locs ls Wl hlv hst hl
  have k1 := k p l e R s m args below meth c A cells slots Z E H locs ls Wl hlv (oks_c (i_rng _) (oks_t (oks_t hst))) hl
  simp only [List.map_cons, mv, vI, ishr, i_of] at k1
  exact lv_ishr E.1.1 E.1.2.1 hd k1
theorem e_iushr {a b : Int} (hd : decode Y.2.1 pc = .ok (.iushr, 1)) (k : Ev w Y (pc + 1) lv (vI (iushr a b) :: st) h Q) : Ev w Y pc lv (vI b :: vI a :: st) h Q := by
  intro p l e R s m args below meth c A cells slots Z E H locs ls Wl hlv hst hl
  have k1 := k p l e R s m args below meth c A cells slots Z E H locs ls Wl hlv (oks_c (i_rng _) (oks_t (oks_t hst))) hl
  simp only [List.map_cons, mv, vI, iushr, i_of] at k1
  exact lv_iushr E.1.1 E.1.2.1 hd rfl k1
theorem e_land {a b : Int} (hd : decode Y.2.1 pc = .ok (.land, 1)) (k : Ev w Y (pc + 1) lv (vL (jand a b) :: st) h Q) : Ev w Y pc lv (vL b :: vL a :: st) h Q := by
  intro p l e R s m args below meth c A cells slots Z E H locs ls Wl hlv hst hl
  have k1 := k p l e R s m args below meth c A cells slots Z E H locs ls Wl hlv (oks_c (l_rng _) (oks_t (oks_t hst))) hl
  simp only [List.map_cons, mv, vL, jand, l_of] at k1
  exact lv_land E.1.1 E.1.2.1 hd k1
theorem e_lor {a b : Int} (hd : decode Y.2.1 pc = .ok (.lor, 1)) (k : Ev w Y (pc + 1) lv (vL (jor a b) :: st) h Q) : Ev w Y pc lv (vL b :: vL a :: st) h Q := by
  intro p l e R s m args below meth c A cells slots Z E H locs ls Wl hlv hst hl
  have k1 := k p l e R s m args below meth c A cells slots Z E H locs ls Wl hlv (oks_c (l_rng _) (oks_t (oks_t hst))) hl
  simp only [List.map_cons, mv, vL, jor, l_of] at k1
  exact lv_lor E.1.1 E.1.2.1 hd k1
theorem e_lxor {a b : Int} (hd : decode Y.2.1 pc = .ok (.lxor, 1)) (k : Ev w Y (pc + 1) lv (vL (jxor a b) :: st) h Q) : Ev w Y pc lv (vL b :: vL a :: st) h Q := by
  intro p l e R s m args below meth c A cells slots Z E H locs ls Wl hlv hst hl
  have k1 := k p l e R s m args below meth c A cells slots Z E H locs ls Wl hlv (oks_c (l_rng _) (oks_t (oks_t hst))) hl
  simp only [List.map_cons, mv, vL, jxor, l_of] at k1
  exact lv_lxor E.1.1 E.1.2.1 hd k1
theorem e_lshl {a b : Int} (hd : decode Y.2.1 pc = .ok (.lshl, 1)) (k : Ev w Y (pc + 1) lv (vL (jshl a b) :: st) h Q) : Ev w Y pc lv (vI b :: vL a :: st) h Q := by
  intro p l e R s m args below meth c A cells slots Z E H locs ls Wl hlv hst hl
  have k1 := k p l e R s m args below meth c A cells slots Z E H locs ls Wl hlv (oks_c (l_rng _) (oks_t (oks_t hst))) hl
  simp only [List.map_cons, mv, vL, jshl, l_of] at k1
  exact lv_lshl E.1.1 E.1.2.1 hd rfl k1
theorem e_lshr {a b : Int} (hd : decode Y.2.1 pc = .ok (.lshr, 1)) (k : Ev w Y (pc + 1) lv (vL (jshr a b) :: st) h Q) : Ev w Y pc lv (vI b :: vL a :: st) h Q := by
  intro p l e R s m args below meth c A cells slots Z E H locs ls Wl hlv hst hl
  have k1 := k p l e R s m args below meth c A cells slots Z E H locs ls Wl hlv (oks_c (l_rng _) (oks_t (oks_t hst))) hl
  simp only [List.map_cons, mv, vL, jshr, l_of] at k1
  exact lv_lshr E.1.1 E.1.2.1 hd rfl k1
theorem e_lushr {a b : Int} (hd : decode Y.2.1 pc = .ok (.lushr, 1)) (k : Ev w Y (pc + 1) lv (vL (jushr a b) :: st) h Q) : Ev w Y pc lv (vI b :: vL a :: st) h Q := by
  intro p l e R s m args below meth c A cells slots Z E H locs ls Wl hlv hst hl
  have k1 := k p l e R s m args below meth c A cells slots Z E H locs ls Wl hlv (oks_c (l_rng _) (oks_t (oks_t hst))) hl
  simp only [List.map_cons, mv, vL, jushr, l_of] at k1
  exact lv_lushr E.1.1 E.1.2.1 hd rfl k1
theorem e_ladd {a b : Int} (hd : decode Y.2.1 pc = .ok (.ladd, 1)) (hr : lR (a + b)) (k : Ev w Y (pc + 1) lv (vL (a + b) :: st) h Q) : Ev w Y pc lv (vL b :: vL a :: st) h Q := by
  intro p l e R s m args below meth c A cells slots Z E H locs ls Wl hlv hst hl
  have k1 := k p l e R s m args below meth c A cells slots Z E H locs ls Wl hlv (oks_c hr (oks_t (oks_t hst))) hl
  refine lv_ladd E.1.1 E.1.2.1 hd ?_
  rw [l_add]
  exact k1
theorem e_lsub {a b : Int} (hd : decode Y.2.1 pc = .ok (.lsub, 1)) (hr : lR (a - b)) (k : Ev w Y (pc + 1) lv (vL (a - b) :: st) h Q) : Ev w Y pc lv (vL b :: vL a :: st) h Q := by
  intro p l e R s m args below meth c A cells slots Z E H locs ls Wl hlv hst hl
  have k1 := k p l e R s m args below meth c A cells slots Z E H locs ls Wl hlv (oks_c hr (oks_t (oks_t hst))) hl
  refine lv_lsub E.1.1 E.1.2.1 hd ?_
  rw [l_sub]
  exact k1
theorem e_i2l {a : Int} (hd : decode Y.2.1 pc = .ok (.i2l, 1)) (k : Ev w Y (pc + 1) lv (vL a :: st) h Q) : Ev w Y pc lv (vI a :: st) h Q := by
  intro p l e R s m args below meth c A cells slots Z E H locs ls Wl hlv hst hl
  exact lv_i2l E.1.1 E.1.2.1 hd (i_i2l (oks_h hst)) (k p l e R s m args below meth c A cells slots Z E H locs ls Wl hlv (oks_c (iR_lR (oks_h hst)) (oks_t hst)) hl)
theorem e_l2i {a : Int} (hd : decode Y.2.1 pc = .ok (.l2i, 1)) (k : Ev w Y (pc + 1) lv (vI (j2i a) :: st) h Q) : Ev w Y pc lv (vL a :: st) h Q := by
  intro p l e R s m args below meth c A cells slots Z E H locs ls Wl hlv hst hl
  have k1 := k p l e R s m args below meth c A cells slots Z E H locs ls Wl hlv (oks_c (i_rng _) (oks_t hst)) hl
  simp only [List.map_cons, mv, vI, j2i, i_of] at k1
  exact lv_l2i E.1.1 E.1.2.1 hd rfl k1
theorem e_dup {v : AV} (hd : decode Y.2.1 pc = .ok (.dup, 1)) (hc : (mv w.1 v).category = 1) (k : Ev w Y (pc + 1) lv (v :: v :: st) h Q) : Ev w Y pc lv (v :: st) h Q := by
  intro p l e R s m args below meth c A cells slots Z E H locs ls Wl hlv hst hl
  exact lv_dup E.1.1 E.1.2.1 hd hc (k p l e R s m args below meth c A cells slots Z E H locs ls Wl hlv (oks_c (oks_h hst) hst) hl)
theorem e_dup2 {u v : AV} (hd : decode Y.2.1 pc = .ok (.dup2, 1)) (hc : (mv w.1 u).category = 1) (hc2 : (mv w.1 v).category = 1) (k : Ev w Y (pc + 1) lv (u :: v :: u :: v :: st) h Q) : Ev w Y pc lv (u :: v :: st) h Q := by
  intro p l e R s m args below meth c A cells slots Z E H locs ls Wl hlv hst hl
  exact lv_dup2_11 E.1.1 E.1.2.1 hd hc hc2 (k p l e R s m args below meth c A cells slots Z E H locs ls Wl hlv (oks_c (oks_h hst) (oks_c (oks_h (oks_t hst)) hst)) hl)
theorem e_dup2l {v : AV} (hd : decode Y.2.1 pc = .ok (.dup2, 1)) (hc : (mv w.1 v).category = 2) (k : Ev w Y (pc + 1) lv (v :: v :: st) h Q) : Ev w Y pc lv (v :: st) h Q := by
  intro p l e R s m args below meth c A cells slots Z E H locs ls Wl hlv hst hl
  exact lv_dup2_2 E.1.1 E.1.2.1 hd hc (k p l e R s m args below meth c A cells slots Z E H locs ls Wl hlv (oks_c (oks_h hst) hst) hl)
theorem e_goto {off : Int} {tgt : Nat} (hd : decode Y.2.1 pc = .ok (.goto off, 3)) (ht : (pc : Int) + off = (tgt : Int)) (k : Ev w Y tgt lv st h Q) : Ev w Y pc lv st h Q := by
  intro p l e R s m args below meth c A cells slots Z E H locs ls Wl hlv hst hl
  exact lv_goto E.1.1 E.1.2.1 hd ht (k p l e R s m args below meth c A cells slots Z E H locs ls Wl hlv hst hl)
theorem e_icmp_lt {a b off : Int} {tgt : Nat} (hd : decode Y.2.1 pc = .ok (.if_icmp .lt off, 3)) (ht : (pc : Int) + off = (tgt : Int)) (kt : a < b → Ev w Y tgt lv st h Q) (kf : ¬ a < b → Ev w Y (pc + 3) lv st h Q) : Ev w Y pc lv (vI b :: vI a :: st) h Q := by
  intro p l e R s m args below meth c A cells slots Z E H locs ls Wl hlv hst hl
  have ra := oks_h (oks_t hst)
  have rb := oks_h hst
  exact lv_icmp_lt E.1.1 E.1.2.1 hd ht (fun c0 => kt (by rw [i_lt ra rb] at c0; exact c0) p l e R s m args below meth c A cells slots Z E H locs ls Wl hlv (oks_t (oks_t hst)) hl) (fun c0 => kf (by rw [i_lt ra rb] at c0; exact c0) p l e R s m args below meth c A cells slots Z E H locs ls Wl hlv (oks_t (oks_t hst)) hl)
theorem e_icmp_ge {a b off : Int} {tgt : Nat} (hd : decode Y.2.1 pc = .ok (.if_icmp .ge off, 3)) (ht : (pc : Int) + off = (tgt : Int)) (kt : b ≤ a → Ev w Y tgt lv st h Q) (kf : ¬ b ≤ a → Ev w Y (pc + 3) lv st h Q) : Ev w Y pc lv (vI b :: vI a :: st) h Q := by
  intro p l e R s m args below meth c A cells slots Z E H locs ls Wl hlv hst hl
  have ra := oks_h (oks_t hst)
  have rb := oks_h hst
  exact lv_icmp_ge E.1.1 E.1.2.1 hd ht (fun c0 => kt (by rw [i_le rb ra] at c0; exact c0) p l e R s m args below meth c A cells slots Z E H locs ls Wl hlv (oks_t (oks_t hst)) hl) (fun c0 => kf (by rw [i_le rb ra] at c0; exact c0) p l e R s m args below meth c A cells slots Z E H locs ls Wl hlv (oks_t (oks_t hst)) hl)
theorem e_icmp_gt {a b off : Int} {tgt : Nat} (hd : decode Y.2.1 pc = .ok (.if_icmp .gt off, 3)) (ht : (pc : Int) + off = (tgt : Int)) (kt : b < a → Ev w Y tgt lv st h Q) (kf : ¬ b < a → Ev w Y (pc + 3) lv st h Q) : Ev w Y pc lv (vI b :: vI a :: st) h Q := by
  intro p l e R s m args below meth c A cells slots Z E H locs ls Wl hlv hst hl
  have ra := oks_h (oks_t hst)
  have rb := oks_h hst
  exact lv_icmp_gt E.1.1 E.1.2.1 hd ht (fun c0 => kt (by rw [i_lt rb ra] at c0; exact c0) p l e R s m args below meth c A cells slots Z E H locs ls Wl hlv (oks_t (oks_t hst)) hl) (fun c0 => kf (by rw [i_lt rb ra] at c0; exact c0) p l e R s m args below meth c A cells slots Z E H locs ls Wl hlv (oks_t (oks_t hst)) hl)
theorem e_icmp_le {a b off : Int} {tgt : Nat} (hd : decode Y.2.1 pc = .ok (.if_icmp .le off, 3)) (ht : (pc : Int) + off = (tgt : Int)) (kt : a ≤ b → Ev w Y tgt lv st h Q) (kf : ¬ a ≤ b → Ev w Y (pc + 3) lv st h Q) : Ev w Y pc lv (vI b :: vI a :: st) h Q := by
  intro p l e R s m args below meth c A cells slots Z E H locs ls Wl hlv hst hl
  have ra := oks_h (oks_t hst)
  have rb := oks_h hst
  exact lv_icmp_le E.1.1 E.1.2.1 hd ht (fun c0 => kt (by rw [i_le ra rb] at c0; exact c0) p l e R s m args below meth c A cells slots Z E H locs ls Wl hlv (oks_t (oks_t hst)) hl) (fun c0 => kf (by rw [i_le ra rb] at c0; exact c0) p l e R s m args below meth c A cells slots Z E H locs ls Wl hlv (oks_t (oks_t hst)) hl)
theorem e_icmp_eq {a b off : Int} {tgt : Nat} (hd : decode Y.2.1 pc = .ok (.if_icmp .eq off, 3)) (ht : (pc : Int) + off = (tgt : Int)) (kt : a = b → Ev w Y tgt lv st h Q) (kf : ¬ a = b → Ev w Y (pc + 3) lv st h Q) : Ev w Y pc lv (vI b :: vI a :: st) h Q := by
  intro p l e R s m args below meth c A cells slots Z E H locs ls Wl hlv hst hl
  have ra := oks_h (oks_t hst)
  have rb := oks_h hst
  exact lv_icmp_eq E.1.1 E.1.2.1 hd ht (fun c0 => kt (by rw [i_eq ra rb] at c0; exact c0) p l e R s m args below meth c A cells slots Z E H locs ls Wl hlv (oks_t (oks_t hst)) hl) (fun c0 => kf (by rw [i_eq ra rb] at c0; exact c0) p l e R s m args below meth c A cells slots Z E H locs ls Wl hlv (oks_t (oks_t hst)) hl)
theorem e_icmp_ne {a b off : Int} {tgt : Nat} (hd : decode Y.2.1 pc = .ok (.if_icmp .ne off, 3)) (ht : (pc : Int) + off = (tgt : Int)) (kt : ¬ a = b → Ev w Y tgt lv st h Q) (kf : a = b → Ev w Y (pc + 3) lv st h Q) : Ev w Y pc lv (vI b :: vI a :: st) h Q := by
  intro p l e R s m args below meth c A cells slots Z E H locs ls Wl hlv hst hl
  have ra := oks_h (oks_t hst)
  have rb := oks_h hst
  exact lv_icmp_ne E.1.1 E.1.2.1 hd ht (fun c0 => kt (by rw [i_eq ra rb] at c0; exact c0) p l e R s m args below meth c A cells slots Z E H locs ls Wl hlv (oks_t (oks_t hst)) hl) (fun c0 => kf (by rw [i_eq ra rb] at c0; exact c0) p l e R s m args below meth c A cells slots Z E H locs ls Wl hlv (oks_t (oks_t hst)) hl)
theorem e_if_lt {a off : Int} {tgt : Nat} (hd : decode Y.2.1 pc = .ok (.ifCond .lt off, 3)) (ht : (pc : Int) + off = (tgt : Int)) (kt : a < 0 → Ev w Y tgt lv st h Q) (kf : ¬ a < 0 → Ev w Y (pc + 3) lv st h Q) : Ev w Y pc lv (vI a :: st) h Q := by
  intro p l e R s m args below meth c A cells slots Z E H locs ls Wl hlv hst hl
  have ra := oks_h hst
  exact lv_if_lt E.1.1 E.1.2.1 hd ht (fun c0 => kt (by rw [i_0, i_lt ra iR_0] at c0; exact c0) p l e R s m args below meth c A cells slots Z E H locs ls Wl hlv (oks_t hst) hl) (fun c0 => kf (by rw [i_0, i_lt ra iR_0] at c0; exact c0) p l e R s m args below meth c A cells slots Z E H locs ls Wl hlv (oks_t hst) hl)
theorem e_if_ge {a off : Int} {tgt : Nat} (hd : decode Y.2.1 pc = .ok (.ifCond .ge off, 3)) (ht : (pc : Int) + off = (tgt : Int)) (kt : 0 ≤ a → Ev w Y tgt lv st h Q) (kf : ¬ 0 ≤ a → Ev w Y (pc + 3) lv st h Q) : Ev w Y pc lv (vI a :: st) h Q := by
  intro p l e R s m args below meth c A cells slots Z E H locs ls Wl hlv hst hl
  have ra := oks_h hst
  exact lv_if_ge E.1.1 E.1.2.1 hd ht (fun c0 => kt (by rw [i_0, i_le iR_0 ra] at c0; exact c0) p l e R s m args below meth c A cells slots Z E H locs ls Wl hlv (oks_t hst) hl) (fun c0 => kf (by rw [i_0, i_le iR_0 ra] at c0; exact c0) p l e R s m args below meth c A cells slots Z E H locs ls Wl hlv (oks_t hst) hl)
theorem e_if_gt {a off : Int} {tgt : Nat} (hd : decode Y.2.1 pc = .ok (.ifCond .gt off, 3)) (ht : (pc : Int) + off = (tgt : Int)) (kt : 0 < a → Ev w Y tgt lv st h Q) (kf : ¬ 0 < a → Ev w Y (pc + 3) lv st h Q) : Ev w Y pc lv (vI a :: st) h Q := by
  intro p l e R s m args below meth c A cells slots Z E H locs ls Wl hlv hst hl
  have ra := oks_h hst
  exact lv_if_gt E.1.1 E.1.2.1 hd ht (fun c0 => kt (by rw [i_0, i_lt iR_0 ra] at c0; exact c0) p l e R s m args below meth c A cells slots Z E H locs ls Wl hlv (oks_t hst) hl) (fun c0 => kf (by rw [i_0, i_lt iR_0 ra] at c0; exact c0) p l e R s m args below meth c A cells slots Z E H locs ls Wl hlv (oks_t hst) hl)
theorem e_if_le {a off : Int} {tgt : Nat} (hd : decode Y.2.1 pc = .ok (.ifCond .le off, 3)) (ht : (pc : Int) + off = (tgt : Int)) (kt : a ≤ 0 → Ev w Y tgt lv st h Q) (kf : ¬ a ≤ 0 → Ev w Y (pc + 3) lv st h Q) : Ev w Y pc lv (vI a :: st) h Q := by
  intro p l e R s m args below meth c A cells slots Z E H locs ls Wl hlv hst hl
  have ra := oks_h hst
  exact lv_if_le E.1.1 E.1.2.1 hd ht (fun c0 => kt (by rw [i_0, i_le ra iR_0] at c0; exact c0) p l e R s m args below meth c A cells slots Z E H locs ls Wl hlv (oks_t hst) hl) (fun c0 => kf (by rw [i_0, i_le ra iR_0] at c0; exact c0) p l e R s m args below meth c A cells slots Z E H locs ls Wl hlv (oks_t hst) hl)
theorem e_if_eq {a off : Int} {tgt : Nat} (hd : decode Y.2.1 pc = .ok (.ifCond .eq off, 3)) (ht : (pc : Int) + off = (tgt : Int)) (kt : a = 0 → Ev w Y tgt lv st h Q) (kf : ¬ a = 0 → Ev w Y (pc + 3) lv st h Q) : Ev w Y pc lv (vI a :: st) h Q := by
  intro p l e R s m args below meth c A cells slots Z E H locs ls Wl hlv hst hl
  have ra := oks_h hst
  exact lv_if_eq E.1.1 E.1.2.1 hd ht (fun c0 => kt (by rw [i_0, i_eq ra iR_0] at c0; exact c0) p l e R s m args below meth c A cells slots Z E H locs ls Wl hlv (oks_t hst) hl) (fun c0 => kf (by rw [i_0, i_eq ra iR_0] at c0; exact c0) p l e R s m args below meth c A cells slots Z E H locs ls Wl hlv (oks_t hst) hl)
theorem e_if_ne {a off : Int} {tgt : Nat} (hd : decode Y.2.1 pc = .ok (.ifCond .ne off, 3)) (ht : (pc : Int) + off = (tgt : Int)) (kt : ¬ a = 0 → Ev w Y tgt lv st h Q) (kf : a = 0 → Ev w Y (pc + 3) lv st h Q) : Ev w Y pc lv (vI a :: st) h Q := by
  intro p l e R s m args below meth c A cells slots Z E H locs ls Wl hlv hst hl
  have ra := oks_h hst
  exact lv_if_ne E.1.1 E.1.2.1 hd ht (fun c0 => kt (by rw [i_0, i_eq ra iR_0] at c0; exact c0) p l e R s m args below meth c A cells slots Z E H locs ls Wl hlv (oks_t hst) hl) (fun c0 => kf (by rw [i_0, i_eq ra iR_0] at c0; exact c0) p l e R s m args below meth c A cells slots Z E H locs ls Wl hlv (oks_t hst) hl)
theorem e_lcmp {a b : Int} (hd : decode Y.2.1 pc = .ok (.lcmp, 1)) (k1 : a < b → Ev w Y (pc + 1) lv (vI (-1) :: st) h Q) (k2 : a = b → Ev w Y (pc + 1) lv (vI 0 :: st) h Q) (k3 : b < a → Ev w Y (pc + 1) lv (vI 1 :: st) h Q) : Ev w Y pc lv (vL b :: vL a :: st) h Q := by
  intro p l e R s m args below meth c A cells slots Z E H locs ls Wl hlv hst hl
  have ra := l_toInt (oks_h (oks_t hst))
  have rb := l_toInt (oks_h hst)
  refine W.lcmp E.1.1 E.1.2.1 hd ?_
  rcases Int.lt_trichotomy a b with c0 | c0 | c0
  · have e1 : lg_cmp (Int64.ofInt a) (Int64.ofInt b) = Int32.ofInt (-1) := by
      unfold lg_cmp
      rw [if_neg (fun z => by rw [gt_iff_lt, Int64.lt_iff_toInt_lt, ra, rb] at z; omega), if_neg (fun z => by have := congrArg Int64.toInt z; rw [ra, rb] at this; omega)]
      rfl
    rw [e1]
    exact k1 c0 p l e R s m args below meth c A cells slots Z E H locs ls Wl hlv (oks_c ⟨by decide, by decide⟩ (oks_t (oks_t hst))) hl
  · have e1 : lg_cmp (Int64.ofInt a) (Int64.ofInt b) = Int32.ofInt 0 := by
      unfold lg_cmp
      rw [if_neg (fun z => by rw [gt_iff_lt, Int64.lt_iff_toInt_lt, ra, rb] at z; omega), if_pos (by rw [c0])]
      rfl
    rw [e1]
    exact k2 c0 p l e R s m args below meth c A cells slots Z E H locs ls Wl hlv (oks_c iR_0 (oks_t (oks_t hst))) hl
  · have e1 : lg_cmp (Int64.ofInt a) (Int64.ofInt b) = Int32.ofInt 1 := by
      unfold lg_cmp
      rw [if_pos (by rw [gt_iff_lt, Int64.lt_iff_toInt_lt, ra, rb]; exact c0)]
      rfl
    rw [e1]
    exact k3 c0 p l e R s m args below meth c A cells slots Z E H locs ls Wl hlv (oks_c ⟨by decide, by decide⟩ (oks_t (oks_t hst))) hl
theorem e_table {dflt lo hi x : Int} {offs : Array Int} {len : Nat} (hd : decode Y.2.1 pc = .ok (.tableswitch dflt lo hi offs, len)) (ko : x < lo ∨ hi < x → ∃ tgt : Nat, (pc : Int) + dflt = (tgt : Int) ∧ Ev w Y tgt lv st h Q) (ki : lo ≤ x → x ≤ hi → ∃ (off : Int) (tgt : Nat), offs[(x - lo).toNat]? = some off ∧ (pc : Int) + off = (tgt : Int) ∧ Ev w Y tgt lv st h Q) : Ev w Y pc lv (vI x :: st) h Q := by
  intro p l e R s m args below meth c A cells slots Z E H locs ls Wl hlv hst hl
  have rx := i_toInt (oks_h hst)
  by_cases c0 : x < lo ∨ hi < x
  · obtain ⟨tgt, ht, k⟩ := ko c0
    exact lv_tableOut E.1.1 E.1.2.1 hd (by rw [rx]; exact c0) ht (k p l e R s m args below meth c A cells slots Z E H locs ls Wl hlv (oks_t hst) hl)
  · obtain ⟨off, tgt, ho, ht, k⟩ := ki (by omega) (by omega)
    exact lv_tableIn E.1.1 E.1.2.1 hd (by rw [rx]; omega) (by rw [rx]; omega) (by rw [rx]; exact ho) ht (k p l e R s m args below meth c A cells slots Z E H locs ls Wl hlv (oks_t hst) hl)
theorem e_lookup {dflt x : Int} {ps : Array (Int × Int)} {len : Nat} (hd : decode Y.2.1 pc = .ok (.lookupswitch dflt ps, len)) (hp : (ps.toList.zip (ps.toList.drop 1)).all (fun (a, next) => a.1 < next.1) = true) (k : ∃ (off : Int) (tgt : Nat), Op.lookupswitch.offset ps.toList dflt x = off ∧ (pc : Int) + off = (tgt : Int) ∧ Ev w Y tgt lv st h Q) : Ev w Y pc lv (vI x :: st) h Q := by
  intro p l e R s m args below meth c A cells slots Z E H locs ls Wl hlv hst hl
  have rx := i_toInt (oks_h hst)
  obtain ⟨off, tgt, ho, ht, k⟩ := k
  exact lv_lookup E.1.1 E.1.2.1 hd hp (by rw [rx]; exact ho) ht (k p l e R s m args below meth c A cells slots Z E H locs ls Wl hlv (oks_t hst) hl)
theorem e_ret {v : Option AV} (hd : decode Y.2.1 pc = .ok (retI v, 1)) (hst0 : st = v.toList) (hk : rk Y.2.2.2.1 v) (hq : Q v h) : Ev w Y pc lv st h Q := by
  intro p l e R s m args below meth c A cells slots Z E H locs ls Wl hlv hst hl
  subst hst0
  exact E.2.2.2 v h H locs pc ls hq hk (by cases v with | none => trivial | some v => exact hst v (by simp)) Wl hd
-- fields
theorem e_getI {q ci k idx : Nat} {C : String} {T : u_T} {N : Nat} {x kz : Int} (hd : decode Y.2.1 pc = .ok (.getfield idx, 3)) (hq : ly q = some (.inl ci)) (hc : ev_cl[ci]? = some (C, T, N)) (hkz : (k : Int) = kz) (hin : ∀ u ∈ u_ws C T N, u ∈ UL) (hk : Nat.blt k N = true) (hu : Cond.fieldLink Y.1 idx (T k).1 (T k).2.1 (T k).2.2.1 ∈ UL) (hf : Nat.blt k (ev_fkd.getD ci []).length = true ∧ (ev_fkd.getD ci []).getD k 0 ≠ 2) (hx : h q kz = x) (kk : Ev w Y (pc + 3) lv (vI x :: st) h Q) : Ev w Y pc lv (vR q :: st) h Q := by
  intro p l e R s m args below meth c A cells slots Z E H locs ls Wl hlv hst hl
  subst hkz
  have he : (wld w h)[q]? = some (w.1 q, .inr (ci, ev_fs w.1 (h q) (ev_fkd.getD ci []) (ev_tgt.getD q []))) := by rw [wld_at (ly_lt hq), cE_obj hq]
  have hv := fs_at (ad := w.1) (f := h q) (ts := ev_tgt.getD q []) (Nat.le_of_ble_eq_true hf.1)
  rw [if_neg hf.2, hx] at hv
  exact va_get E.1.1 E.1.2.1 E.1.2.2.2.2 hin E.1.2.2.2.1 E.2.2.1.1 Wl.1 q he hc k (Nat.le_of_ble_eq_true hk) (E.1.2.2.2.2 _ hu) (fun _ h9 => h9) hv hd (kk p l e R s m args below meth c A cells slots Z E H locs ls Wl hlv (oks_c (by rw [← hx]; exact Wl.2.2.2 _ _) (oks_t hst)) hl)
theorem e_getR {q ci k idx y : Nat} {C : String} {T : u_T} {N : Nat} (hd : decode Y.2.1 pc = .ok (.getfield idx, 3)) (hq : ly q = some (.inl ci)) (hc : ev_cl[ci]? = some (C, T, N)) (hin : ∀ u ∈ u_ws C T N, u ∈ UL) (hk : Nat.blt k N = true) (hu : Cond.fieldLink Y.1 idx (T k).1 (T k).2.1 (T k).2.2.1 ∈ UL) (hf : Nat.blt k (ev_fkd.getD ci []).length = true ∧ (ev_fkd.getD ci []).getD k 0 = 2) (hy : (ev_tgt.getD q []).getD k 0 = y) (kk : Ev w Y (pc + 3) lv (vR y :: st) h Q) : Ev w Y pc lv (vR q :: st) h Q := by
  intro p l e R s m args below meth c A cells slots Z E H locs ls Wl hlv hst hl
  have he : (wld w h)[q]? = some (w.1 q, .inr (ci, ev_fs w.1 (h q) (ev_fkd.getD ci []) (ev_tgt.getD q []))) := by rw [wld_at (ly_lt hq), cE_obj hq]
  have hv := fs_at (ad := w.1) (f := h q) (ts := ev_tgt.getD q []) (Nat.le_of_ble_eq_true hf.1)
  rw [if_pos hf.2, hy] at hv
  exact va_get E.1.1 E.1.2.1 E.1.2.2.2.2 hin E.1.2.2.2.1 E.2.2.1.1 Wl.1 q he hc k (Nat.le_of_ble_eq_true hk) (E.1.2.2.2.2 _ hu) (fun _ h9 => h9) hv hd (kk p l e R s m args below meth c A cells slots Z E H locs ls Wl hlv (oks_c trivial (oks_t hst)) hl)
theorem e_put {q ci k idx : Nat} {C : String} {T : u_T} {N : Nat} {x kz : Int} {ty : FieldType} (hd : decode Y.2.1 pc = .ok (.putfield idx, 3)) (hq : ly q = some (.inl ci)) (hc : ev_cl[ci]? = some (C, T, N)) (hkz : (k : Int) = kz) (hin : ∀ u ∈ u_ws C T N, u ∈ UL) (ty0 : Nat → FieldType) (hty : ∀ k, k < N → parseFieldDescriptor (T k).2.2.1 = some (ty0 k)) (hnm : ∀ a, a < N → ∀ b, b < N → a ≠ b → (T a).2.1 ≠ (T b).2.1) (hk : Nat.blt k N = true) (hu : Cond.fieldLink Y.1 idx (T k).1 (T k).2.1 (T k).2.2.1 ∈ UL) (hf : Nat.blt k (ev_fkd.getD ci []).length = true ∧ (ev_fkd.getD ci []).getD k 0 ≠ 2) (hfin : (T k).2.2.2 = false) (hd2 : parseFieldDescriptor (T k).2.2.1 = some ty) (hz : ty = .int ∨ (ty = .boolean ∧ (x = 0 ∨ x = 1))) (kk : Ev w Y (pc + 3) lv st (sth h q kz x) Q) : Ev w Y pc lv (vI x :: vR q :: st) h Q := by
  intro p l e R s m args below meth c A cells slots Z E H locs ls Wl hlv hst hl
  subst hkz
  have he : (wld w h)[q]? = some (w.1 q, .inr (ci, ev_fs w.1 (h q) (ev_fkd.getD ci []) (ev_tgt.getD q []))) := by rw [wld_at (ly_lt hq), cE_obj hq]
  have hl2 : k < (ev_fs w.1 (h q) (ev_fkd.getD ci []) (ev_tgt.getD q [])).length := by
    simp only [ev_fs, List.length_map, List.length_range]
    exact Nat.le_of_ble_eq_true hf.1
  have hnf : narrow ty (.int (Int32.ofInt x)) = .int (Int32.ofInt x) ∧ fits ty (.int (Int32.ofInt x)) = true := by
    rcases hz with rfl | ⟨rfl, rfl | rfl⟩
    · exact ⟨rfl, rfl⟩
    · exact ⟨by decide, by decide⟩
    · exact ⟨by decide, by decide⟩
  have hw : (wld w h).set q (w.1 q, .inr (ci, (ev_fs w.1 (h q) (ev_fkd.getD ci []) (ev_tgt.getD q [])).set k (.int (Int32.ofInt x)))) = wld w (sth h q (k : Int) x) := by
    rw [wld_set (h' := sth h q (k : Int) x) (ly_lt hq) (fun j hj => by unfold sth; rw [if_neg hj]), cE_obj hq]
    have : sth h q (k : Int) x q = fun j => if j = (k : Int) then x else h q j := by unfold sth; rw [if_pos rfl]
    rw [this, fs_set (Nat.le_of_ble_eq_true hf.1) hf.2]
  refine va_put E.1.1 E.1.2.1 E.1.2.2.2.2 hin ty0 hty hnm E.1.2.2.2.1 E.2.2.1.1 Wl.1 Wl.2.1 Wl.2.2.1 q he hc k (Nat.le_of_ble_eq_true hk) (E.1.2.2.2.2 _ hu) (fun _ h9 => h9) hfin hd2 hnf.1 hnf.2 hl2 hd (fun H1 locs1 hP hD hS => ?_)
  have hP : va_P w.2.1 ev_cl (wld w (sth h q (k : Int) x)) H1 := by rw [← hw]; exact hP
  have hD : va_D A (wld w (sth h q (k : Int) x)) := by rw [← hw]; exact hD
  exact kk p l e R s m args below meth c A cells slots Z E H1 locs1 ls ⟨hP, hD, hS, okh_st Wl.2.2.2 (oks_h hst)⟩ hlv (oks_t (oks_t hst)) hl
-- arrays
theorem ev_in {i : Int} {n : Nat} (hi : 0 ≤ i ∧ i < (n : Int)) (hr : iR i) : vp_in (Int32.ofInt i) n := by rw [vp_in_iff, i_toInt hr]; exact hi
theorem ev_cl0 {i : Int} (hr : iR i) : (Int32.ofInt i).toNatClampNeg = i.toNat := by
  show (Int32.ofInt i).toInt.toNat = i.toNat
  rw [i_toInt hr]
theorem e_iald {q n : Nat} {i x : Int} (hd : decode Y.2.1 pc = .ok (.iaload, 1)) (hq : ly q = some (.inr (false, n))) (hi : 0 ≤ i ∧ i < (n : Int)) (hx : h q i = x) (kk : Ev w Y (pc + 1) lv (vI x :: st) h Q) : Ev w Y pc lv (vI i :: vR q :: st) h Q := by
  intro p l e R s m args below meth c A cells slots Z E H locs ls Wl hlv hst hl
  have he : (wld w h)[q]? = some (w.1 q, .inl (w.2.2.1, n, .inl (fun j => Int32.ofInt (h q (j : Int))))) := by rw [wld_at (ly_lt hq), cE_arr hq]; rfl
  have k1 := kk p l e R s m args below meth c A cells slots Z E H locs ls Wl hlv (oks_c (by rw [← hx]; exact Wl.2.2.2 _ _) (oks_t (oks_t hst))) hl
  refine va_iald E.1.1 E.1.2.1 E.2.2.1.1 Wl.1 q 0 he rfl (ev_in hi (oks_h hst)) hd ?_
  rw [ev_cl0 (oks_h hst), Int.toNat_of_nonneg hi.1, hx]
  exact k1
theorem e_zald {q n : Nat} {i x : Int} (hd : decode Y.2.1 pc = .ok (.baload, 1)) (hq : ly q = some (.inr (true, n))) (hi : 0 ≤ i ∧ i < (n : Int)) (hx : h q i = x) (kk : Ev w Y (pc + 1) lv (vI x :: st) h Q) : Ev w Y pc lv (vI i :: vR q :: st) h Q := by
  intro p l e R s m args below meth c A cells slots Z E H locs ls Wl hlv hst hl
  have he : (wld w h)[q]? = some (w.1 q, .inl (w.2.2.2.1, n, .inl (fun j => Int32.ofInt (h q (j : Int))))) := by rw [wld_at (ly_lt hq), cE_arr hq]; rfl
  have k1 := kk p l e R s m args below meth c A cells slots Z E H locs ls Wl hlv (oks_c (by rw [← hx]; exact Wl.2.2.2 _ _) (oks_t (oks_t hst))) hl
  refine va_zald E.1.1 E.1.2.1 E.2.2.1.1 Wl.1 q 1 he rfl (ev_in hi (oks_h hst)) hd ?_
  rw [ev_cl0 (oks_h hst), Int.toNat_of_nonneg hi.1, hx]
  exact k1
theorem ev_upd {f : Int → Int} {i x : Int} (hi : 0 ≤ i) : upd (fun j : Nat => Int32.ofInt (f (j : Int))) i.toNat (Int32.ofInt x) = fun j : Nat => Int32.ofInt ((fun j => if j = i then x else f j) (j : Int)) := by
  funext j
  unfold upd
  by_cases e : j = i.toNat
  · rw [if_pos e]
    have : (j : Int) = i := by omega
    simp [this]
  · rw [if_neg e]
    have : ¬ (j : Int) = i := by omega
    simp [this]
theorem e_iast {q n : Nat} {i x : Int} (hd : decode Y.2.1 pc = .ok (.iastore, 1)) (hq : ly q = some (.inr (false, n))) (hi : 0 ≤ i ∧ i < (n : Int)) (kk : Ev w Y (pc + 1) lv st (sth h q i x) Q) : Ev w Y pc lv (vI x :: vI i :: vR q :: st) h Q := by
  intro p l e R s m args below meth c A cells slots Z E H locs ls Wl hlv hst hl
  have he : (wld w h)[q]? = some (w.1 q, .inl (w.2.2.1, n, .inl (fun j => Int32.ofInt (h q (j : Int))))) := by rw [wld_at (ly_lt hq), cE_arr hq]; rfl
  have hw : (wld w h).set q (w.1 q, .inl (w.2.2.1, n, .inl (upd (fun j => Int32.ofInt (h q (j : Int))) (Int32.ofInt i).toNatClampNeg (Int32.ofInt x)))) = wld w (sth h q i x) := by
    rw [wld_set (h' := sth h q i x) (ly_lt hq) (fun j hj => by unfold sth; rw [if_neg hj]), cE_arr hq, ev_cl0 (oks_h (oks_t hst)), ev_upd hi.1]
    have : sth h q i x q = fun j => if j = i then x else h q j := by unfold sth; rw [if_pos rfl]
    rw [this]
    rfl
  refine va_iast E.1.1 E.1.2.1 E.2.2.1.1 Wl.1 Wl.2.1 Wl.2.2.1 q 0 he rfl (ev_in hi (oks_h (oks_t hst))) hd (fun H1 locs1 hP hD hS => ?_)
  rw [hw] at hP hD
  exact kk p l e R s m args below meth c A cells slots Z E H1 locs1 ls ⟨hP, hD, hS, okh_st Wl.2.2.2 (oks_h hst)⟩ hlv (oks_t (oks_t (oks_t hst))) hl
theorem e_zast {q n : Nat} {i x : Int} (hd : decode Y.2.1 pc = .ok (.bastore, 1)) (hq : ly q = some (.inr (true, n))) (hi : 0 ≤ i ∧ i < (n : Int)) (hz : x = 0 ∨ x = 1) (kk : Ev w Y (pc + 1) lv st (sth h q i x) Q) : Ev w Y pc lv (vI x :: vI i :: vR q :: st) h Q := by
  intro p l e R s m args below meth c A cells slots Z E H locs ls Wl hlv hst hl
  have he : (wld w h)[q]? = some (w.1 q, .inl (w.2.2.2.1, n, .inl (fun j => Int32.ofInt (h q (j : Int))))) := by rw [wld_at (ly_lt hq), cE_arr hq]; rfl
  have hx : vp_nar .boolean (Int32.ofInt x) = Int32.ofInt x := by rcases hz with rfl | rfl <;> decide
  have hw : (wld w h).set q (w.1 q, .inl (w.2.2.2.1, n, .inl (upd (fun j => Int32.ofInt (h q (j : Int))) (Int32.ofInt i).toNatClampNeg (vp_nar .boolean (Int32.ofInt x))))) = wld w (sth h q i x) := by
    rw [hx, wld_set (h' := sth h q i x) (ly_lt hq) (fun j hj => by unfold sth; rw [if_neg hj]), cE_arr hq, ev_cl0 (oks_h (oks_t hst)), ev_upd hi.1]
    have : sth h q i x q = fun j => if j = i then x else h q j := by unfold sth; rw [if_pos rfl]
    rw [this]
    rfl
  refine va_zast E.1.1 E.1.2.1 E.2.2.1.1 Wl.1 Wl.2.1 Wl.2.2.1 q 1 he rfl (ev_in hi (oks_h (oks_t hst))) hd (fun H1 locs1 hP hD hS => ?_)
  rw [hw] at hP hD
  exact kk p l e R s m args below meth c A cells slots Z E H1 locs1 ls ⟨hP, hD, hS, okh_st Wl.2.2.2 (oks_h hst)⟩ hlv (oks_t (oks_t (oks_t hst))) hl
theorem e_alen {q n : Nat} {b : Bool} (hd : decode Y.2.1 pc = .ok (.arraylength, 1)) (hq : ly q = some (.inr (b, n))) (hr : iR (n : Int)) (kk : Ev w Y (pc + 1) lv (vI (n : Int) :: st) h Q) : Ev w Y pc lv (vR q :: st) h Q := by
  intro p l e R s m args below meth c A cells slots Z E H locs ls Wl hlv hst hl
  have he : (wld w h)[q]? = some (w.1 q, .inl (if b then w.2.2.2.1 else w.2.2.1, n, .inl (fun j => Int32.ofInt (h q (j : Int))))) := by rw [wld_at (ly_lt hq), cE_arr hq]
  have k1 := kk p l e R s m args below meth c A cells slots Z E H locs ls Wl hlv (oks_c hr (oks_t hst)) hl
  have hv : Int32.ofNat n = Int32.ofInt (n : Int) := (i_nat (by have := hr.2; omega)).symm
  cases b with
  | true => exact va_alen E.1.1 E.1.2.1 E.2.2.1.1 Wl.1 q 1 he (ty := .boolean) rfl hv hd k1
  | false => exact va_alen E.1.1 E.1.2.1 E.2.2.1.1 Wl.1 q 0 he (ty := .int) rfl hv hd k1
theorem e_rold {q : Nat} {i x : Int} (hd : decode Y.2.1 pc = .ok (.iaload, 1)) (hq : 90 ≤ q ∧ q < 94) (hi : 0 ≤ i ∧ i < (roN w q : Int)) (hx : ro w q i = x) (hr : iR x) (kk : Ev w Y (pc + 1) lv (vI x :: st) h Q) : Ev w Y pc lv (vI i :: vR q :: st) h Q := by
  intro p l e R s m args below meth c A cells slots Z E H locs ls Wl hlv hst hl
  have k1 := kk p l e R s m args below meth c A cells slots Z E H locs ls Wl hlv (oks_c hr (oks_t (oks_t hst))) hl
  refine va_ti E.1.1 E.1.2.1 (E.2.2.1.2.2.1.1 q hq.1 hq.2) Wl.2.2.1 (ev_in hi (oks_h hst)) (v := .int (Int32.ofInt x)) ?_ hd k1
  rw [ev_cl0 (oks_h hst), Int.toNat_of_nonneg hi.1, hx]
theorem e_rolen {q : Nat} (hd : decode Y.2.1 pc = .ok (.arraylength, 1)) (hq : 90 ≤ q ∧ q < 94) (hr : iR (roN w q : Int)) (kk : Ev w Y (pc + 1) lv (vI (roN w q : Int) :: st) h Q) : Ev w Y pc lv (vR q :: st) h Q := by
  intro p l e R s m args below meth c A cells slots Z E H locs ls Wl hlv hst hl
  have k1 := kk p l e R s m args below meth c A cells slots Z E H locs ls Wl hlv (oks_c hr (oks_t hst)) hl
  have hv : Int32.ofNat (roN w q) = Int32.ofInt (roN w q : Int) := (i_nat (by have := hr.2; omega)).symm
  exact va_tlen E.1.1 E.1.2.1 (E.2.2.1.2.2.1.1 q hq.1 hq.2) Wl.2.2.1 hv hd k1
theorem e_gets {q idx : Nat} {n : String} (hd : decode Y.2.1 pc = .ok (.getstatic idx, 3)) (hq : (q = 90 ∧ n = "TOP_OF_SORT") ∨ (q = 91 ∧ n = "NUMBERS_OF_KIND") ∨ (q = 92 ∧ n = "TOP_OF_BOUND")) (hu : Cond.fieldLink Y.1 idx "HeededWishes" n "[I" ∈ UL) (kk : Ev w Y (pc + 3) lv (vR q :: st) h Q) : Ev w Y pc lv st h Q := by
  intro p l e R s m args below meth c A cells slots Z E H locs ls Wl hlv hst hl
  have k1 := kk p l e R s m args below meth c A cells slots Z E H locs ls Wl hlv (oks_c trivial hst) hl
  have hS := E.2.2.1.2.2.1.2
  rcases hq with ⟨rfl, rfl⟩ | ⟨rfl, rfl⟩ | ⟨rfl, rfl⟩
  · exact va_gets E.1.1 E.1.2.1 hS.1 Wl.2.2.1 E.1.2.2.2.1 (E.1.2.2.2.2 _ hu) (fun _ h9 => h9) hd k1
  · exact va_gets E.1.1 E.1.2.1 hS.2.1 Wl.2.2.1 E.1.2.2.2.1 (E.1.2.2.2.2 _ hu) (fun _ h9 => h9) hd k1
  · exact va_gets E.1.1 E.1.2.1 hS.2.2 Wl.2.2.1 E.1.2.2.2.1 (E.1.2.2.2.2 _ hu) (fun _ h9 => h9) hd k1
theorem e_getsN {idx : Nat} (hd : decode Y.2.1 pc = .ok (.getstatic idx, 3)) (hu : Cond.fieldLinkNest Y.1 idx "HeededWishes" "TOP_OF_SORT" "[I" "HeededWishes" ∈ ev_nl) (kk : Ev w Y (pc + 3) lv (vR 90 :: st) h Q) : Ev w Y pc lv st h Q := by
  intro p l e R s m args below meth c A cells slots Z E H locs ls Wl hlv hst hl
  have k1 := kk p l e R s m args below meth c A cells slots Z E H locs ls Wl hlv (oks_c trivial hst) hl
  exact va_getsN E.1.1 E.1.2.1 E.2.2.1.2.2.1.2.1 Wl.2.2.1 E.1.2.2.2.1 (va_Nw.use rfl (E.2.2.1.2.1 _ hu)) (fun _ h9 => h9) hd k1
end EvRules
