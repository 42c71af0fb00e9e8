/-! calls: a method that Ev speaks of has a contract, and a caller may use it -/
def catA : AV → Nat
  | .inr (.inl _) => 2
  | _ => 1
theorem cat_mv (ad : Nat → Nat) (v : AV) : (mv ad v).category = catA v := by
  match v with
  | .inl x => rfl
  | .inr (.inl x) => rfl
  | .inr (.inr x) => rfl
def entL : List AV → List (Option AV)
  | [] => []
  | v :: vs => if catA v = 2 then some v :: none :: entL vs else some v :: entL vs
def padL (n : Nat) (l : List (Option AV)) : List (Option AV) := l ++ List.replicate (n - l.length) none
theorem ent_args {ad : Nat → Nat} : ∀ (vs : List AV) (k j : Nat) (u : AV) (n : Nat), lg (entL vs ++ List.replicate n none) j = some u → (k + j, mv ad u) ∈ lv_args k (vs.map (mv ad))
  | [], k, j, u, n => by
    intro h
    exfalso
    have : ∀ (n j : Nat), lg (List.replicate n none) j = none := by
      intro n
      induction n with
      | zero => intro j; rfl
      | succ n ih => intro j; cases j with
        | zero => rfl
        | succ j => exact ih j
    simp only [entL, List.nil_append, this] at h
    cases h
  | v :: vs, k, j, u, n => by
    intro h
    simp only [List.map_cons, lv_args, cat_mv]
    by_cases hc : catA v = 2
    · simp only [entL, if_pos hc, List.cons_append] at h ⊢
      match j, h with
      | 0, h => simp only [lg, Option.some.injEq] at h; subst h; simp
      | 1, h => simp [lg] at h
      | j + 2, h =>
        have := ent_args (ad := ad) vs (k + 2) j u n (by simpa [lg] using h)
        have e : k + (j + 2) = k + 2 + j := by omega
        rw [e]
        exact List.mem_cons_of_mem _ this
    · simp only [entL, if_neg hc, List.cons_append] at h ⊢
      match j, h with
      | 0, h => simp only [lg, Option.some.injEq] at h; subst h; simp
      | j + 1, h =>
        have := ent_args (ad := ad) vs (k + 1) j u n (by simpa [lg] using h)
        have e : k + (j + 1) = k + 1 + j := by omega
        rw [e]
        exact List.mem_cons_of_mem _ this
theorem ent_len {ad : Nat → Nat} : ∀ (vs : List AV), (lg_sl (vs.map (mv ad))).length = (entL vs).length
  | [] => rfl
  | v :: vs => by
    have ih := ent_len (ad := ad) vs
    unfold lg_sl at ih ⊢
    simp only [List.map_cons, List.flatMap_cons, List.length_append, cat_mv, ih]
    by_cases hc : catA v = 2
    · simp [entL, hc]; omega
    · simp [entL, hc]; omega
theorem ent_ok {vs : List AV} (hv : oks vs) : ∀ (n : Nat), okl (entL vs ++ List.replicate n none) := by
  intro n i u hu
  have h1 := ent_args (ad := fun x => x) vs 0 i u n hu
  clear h1
  induction vs generalizing i with
  | nil =>
    exfalso
    have : ∀ (n j : Nat), lg (List.replicate n none) j = none := by
      intro n
      induction n with
      | zero => intro j; rfl
      | succ n ih => intro j; cases j with
        | zero => rfl
        | succ j => exact ih j
    simp only [entL, List.nil_append, this] at hu
    cases hu
  | cons v vs ih =>
    by_cases hc : catA v = 2
    · simp only [entL, if_pos hc, List.cons_append] at hu
      match i, hu with
      | 0, hu => simp only [lg, Option.some.injEq] at hu; subst hu; exact oks_h hv
      | 1, hu => simp [lg] at hu
      | i + 2, hu => exact ih (oks_t hv) i (by simpa [lg] using hu)
    · simp only [entL, if_neg hc, List.cons_append] at hu
      match i, hu with
      | 0, hu => simp only [lg, Option.some.injEq] at hu; subst hu; exact oks_h hv
      | i + 1, hu => exact ih (oks_t hv) i (by simpa [lg] using hu)
/-- what a method of ours is: its words, its name -/
def mOK (y : MethodName) (Y : MI) (n : Nat) : Prop := Cond.code y Y.2.1 Y.2.2.1 Y.2.2.2.1 ∈ UL ∧ Cond.initialized Y.1 ∈ UL ∧ (y.cls ≠ "java/lang/invoke/MethodHandle" ∧ y.cls ≠ "java/lang/invoke/VarHandle" ∧ (parseMethodDescriptor y.desc).map (fun d => d.parameters.length) = some n) ∧ plainFor y = true ∧ y.cls = Y.1
def wsY (y : MethodName) (Y : MI) : List Cond := Cond.code y Y.2.1 Y.2.2.1 Y.2.2.2.1 :: UL
def rmY (Y : MI) : Room := { frames := Y.2.2.2.2.1, cells := 0, slots := 0, locals := Y.2.2.2.2.2 }
theorem ul_GI {y : MethodName} {Y : MI} {n : Nat} (hm : mOK y Y n) : GoodIn UL (wsY y Y) := fun u hu => by
  rcases List.mem_cons.mp hu with rfl | h1
  · exact ⟨hm.1, ul_good _ hm.1⟩
  · exact ⟨h1, ul_good _ h1⟩
def Bs (w : WD) (h : HP) (sz : Nat) (U : State) : Prop := U.heap.size = sz ∧ va_P w.2.1 ev_cl (wld w h) U.heap ∧ va_K w.2.1 ev_cl (ev_ty w) U ∧ va_D (fun _ => True) (wld w h) ∧ ev_N U ∧ ev_S w (Aw w sz) U U.heap
def Qg (w : WD) (Q : Option AV → HP → Prop) (A : Nat → Prop) : Array Value → State → Outcome → State → Prop := fun _ s oc t =>
  (∃ (v : Option AV) (h : HP), oc = .returned (v.map (mv w.1)) ∧ Q v h ∧ okr v ∧ okh h ∧ va_P w.2.1 ev_cl (wld w h) t.heap) ∧ va_F A s t
theorem ev_SM {w : WD} {A : Nat → Prop} {u U : State} {H : Heap} (hvm : u.vm.Alike U.vm) (h : ev_S w A u H) : ev_S w A U H := ⟨fun k h1 h2 => (h.1 k h1 h2).moved hvm, h.2.1.moved hvm, h.2.2.1.moved hvm, h.2.2.2.moved hvm⟩
theorem ev_SK {w : WD} {A : Nat → Prop} {U : State} {H H1 : Heap} (h : ev_S w A U H) (hq : ∀ a : Nat, a < H.size → ¬ A a → H1[a]? = H[a]?) : ev_S w A U H1 := ⟨fun k h1 h2 => (h.1 k h1 h2).kept hq, h.2.1.kept hq, h.2.2.1.kept hq, h.2.2.2.kept hq⟩
theorem ev_SN {w : WD} {A B : Nat → Prop} {U : State} {H : Heap} (h : ev_S w A U H) (hAB : ∀ q, B q → A q) : ev_S w B U H := ⟨fun k h1 h2 => (h.1 k h1 h2).narrow hAB, h.2.1.narrow hAB, h.2.2.1.narrow hAB, h.2.2.2.narrow hAB⟩
theorem ev_NW {s U : State} (hW : s.WarmedH U.vm) (h : ev_N s) : ev_N U := by
  intro u hu
  have h1 := h u hu
  unfold ev_nl at hu
  simp only [List.mem_cons, List.not_mem_nil, or_false] at hu
  rcases hu with rfl | rfl | rfl | rfl | rfl | rfl | rfl | rfl | rfl | rfl | rfl | rfl | rfl <;> first | exact va_Nw.warmM hW h1 | exact va_Nw.warmF hW h1
theorem ev_NS {u U : State} (h : u.vm = U.vm) (hN : ev_N u) : ev_N U := by
  intro x hx
  have h1 := hN x hx
  unfold ev_nl at hx
  simp only [List.mem_cons, List.not_mem_nil, or_false] at hx
  rcases hx with rfl | rfl | rfl | rfl | rfl | rfl | rfl | rfl | rfl | rfl | rfl | rfl | rfl <;> exact va_Nw.same rfl h h1
theorem Aw_D {w : WD} {h : HP} {sz : Nat} {B : Nat → Prop} (hD : va_D B (wld w h)) : va_D (Aw w sz) (wld w h) := ⟨hD.1, fun k q hk => by
  obtain ⟨h1, rfl⟩ := wld_in hk
  exact Or.inl ⟨k, h1, rfl⟩⟩
set_option maxHeartbeats 4000000 in
/-- the contract of a method out of Ev of its body -/
theorem ev_met {w : WD} {Y : MI} {h : HP} {Q : Option AV → HP → Prop} {y : MethodName} {n : Nat} {as : List AV} {lv0 : List (Option AV)} (l : Launch) (sz : Nat) (hm : mOK y Y n) (hh : okh h) (ha : oks as) (hlen : Nat.ble (entL as).length Y.2.2.1 = true) (hlv : padL Y.2.2.1 (entL as) = lv0) (hE : Ev w Y 0 lv0 [] h Q) :
    Met l y (wsY y Y) (rmY Y) (va_Pc (as.map (mv w.1)) (Bs w h sz)) (Qg w Q (Aw w sz)) 0 0 (Aw w sz) := by
  refine va_MetF (cc := Y.2.1) (maxL := Y.2.2.1) (ret := Y.2.2.2.1) hm.2.2.2.1 rfl ?_
  intro p e s m args below meth c s₁ B hml hv
  obtain ⟨rfl, hsz, hP, hK, hD, hN, hS⟩ := hv
  subst hsz
  have hts := atoms_spec (ws := wsY y Y) B.pre
  have hown : s.vm.findClass y.cls = some m.cls := findClass_of_methodNamed B.named
  rw [hm.2.2.2.2] at hown
  have hle : (lg_sl (as.map (mv w.1))).length ≤ Y.2.2.1 := by rw [ent_len]; exact Nat.le_of_ble_eq_true hlen
  have hl := lv_entry (as.map (mv w.1)) hle
  rw [lg_entry_eq]
  generalize (lg_sl (as.map (mv w.1)) ++ List.replicate (Y.2.2.1 - (lg_sl (as.map (mv w.1))).length) Slot.unset).toArray = ls at hl ⊢
  subst hlv
  refine hE p l e (rmY Y) s m _ below meth c (Aw w s.heap.size) 0 0 _ ⟨⟨B.exec, B.bytes, hml, hown, fun u hu => hts u (List.mem_cons_of_mem _ hu)⟩, ⟨Nat.le_refl _, Nat.le_refl _, Nat.le_refl _, Nat.le_refl _⟩, ⟨hK, hN, hS, fun q hq => Or.inr hq⟩, ?_⟩ s.heap [] ls ⟨hP, Aw_D hD, va_S.rf, hh⟩ (ent_ok ha _) (fun v hv => by cases hv) (lvh_by hl (fun i u hu => by have := ent_args (ad := w.1) as 0 i u _ hu; simpa using this))
  intro v h' H' locs' pc' ls' hq hk ho hW hd
  have hr := B.returns
  have hlk := B.notSynchronized
  have hpost : ∀ t : State, t.heap = H' → s.WarmedH t.vm → Qg w Q (Aw w s.heap.size) (as.map (mv w.1)).toArray s (.returned (v.map (mv w.1))) t := fun t ht _ => ⟨⟨v, h', rfl, hq, ho, hW.2.2.2, by rw [ht]; exact hW.1⟩, hW.2.2.1.F ht⟩
  match v, hk, hd, hpost with
  | none, hk, hd, hpost =>
    have hr2 : meth.sig.returnType = none := by
      rw [hr]
      cases hY : Y.2.2.2.1 with
      | none => rfl
      | some t => rw [hY] at hk; cases t <;> exact hk.elim
    exact W.vret B.exec B.bytes hr2 hpost hW.2.2.1.2.2 hd hlk
  | some (.inl x), hk, hd, hpost =>
    cases hY : Y.2.2.2.1 with
    | none => rw [hY] at hk; exact hk.elim
    | some t =>
      rw [hY] at hk hr
      cases t with
      | int => exact W.iret B.exec B.bytes hr hpost hW.2.2.1.2.2 hd hlk
      | boolean =>
        have hn : narrow .boolean (.int (Int32.ofInt x)) = .int (Int32.ofInt x) := by
          rcases hk with rfl | rfl <;> decide
        exact W.zret B.exec B.bytes hr hn hpost hW.2.2.1.2.2 hd hlk
      | _ => exact hk.elim
  | some (.inr (.inl x)), hk, hd, hpost =>
    cases hY : Y.2.2.2.1 with
    | none => rw [hY] at hk; exact hk.elim
    | some t =>
      rw [hY] at hk hr
      cases t with
      | long => exact W.lret B.exec B.bytes hr hpost hW.2.2.1.2.2 hd hlk
      | _ => exact hk.elim
  | some (.inr (.inr x)), hk, hd, hpost =>
    cases hY : Y.2.2.2.1 with
    | none => rw [hY] at hk; exact hk.elim
    | some t => rw [hY] at hk; cases t <;> exact hk.elim
section EvCalls
variable {w : WD} {Y Y' : MI} {pc : Nat} {lv lv0 : List (Option AV)} {st st0 : List AV} {h : HP} {Q Q' : Option AV → HP → Prop} {y : MethodName} {n idx : Nat} {as : List AV}
theorem ev_back {p : Program} {l : Launch} {e : Env} {R : Room} {s : State} {m : MethodId} {args : Array Value} {below : List Frame} {meth : Method} {c : Code} {A : Nat → Prop} {cells slots : Nat} {Z : State → Prop} {H : Heap} {locs : List Loc} {ls : Array Slot} {a : Array Value}
    (E : En w Y Q p l e R s m args below meth c A cells slots Z) (Wl : Wh w h A s H locs) (hlv : okl lv) (hst : oks st) (hl : lvh w ls Y.2.2.1 lv)
    (hr : va_Run p l e R s m args below meth c H locs cells slots 0 0 (F0 m pc ls (st0.map (mv w.1))) (st.map (mv w.1)) (Qg w Q' (Aw w H.size) a) (Aw w H.size))
    (k : ∀ v h', Q' v h' → Ev w Y (pc + 3) lv (v.toList ++ st) h' Q) : W p l e R s m args below meth c H locs cells slots Z (F0 m pc ls (st0.map (mv w.1))) := by
  intro T hT X
  obtain ⟨v, st₀, t, T', L, h0, X', hL, e1, e2, ⟨⟨v', h', hv, hq, hok, hh', hP'⟩, hz, hk⟩, stp⟩ := hr T hT X
  have hv2 : v = v'.map (mv w.1) := Outcome.returned.inj hv
  subst hv2
  rw [h0] at hz hk
  have hAA : ∀ q, Aw w H.size q → A q := fun q hq => by
    rcases hq with ⟨j, hj, rfl⟩ | hq
    · exact Wl.2.1.2 j (w.1 j, cE w h j) (wld_at hj)
    · exact E.2.2.1.2.2.2 q (Nat.le_trans Wl.2.2.1.1 hq)
  have hS' : va_S A s.heap T'.heap (locs ++ L) := ⟨Nat.le_trans Wl.2.2.1.1 (by rw [e1]; exact hz), fun q h1 h2 => by rw [e1, hk q (Nat.lt_of_lt_of_le h1 Wl.2.2.1.1) (fun z => h2 (hAA q z))]; exact Wl.2.2.1.2.1 q h1 h2, fun q hq => by
    rcases List.mem_append.mp hq with h1 | h1
    · exact Wl.2.2.1.2.2 q h1
    · exact hAA _ (hL q h1)⟩
  have hst' : oks (v'.toList ++ st) := fun u hu => by
    rcases List.mem_append.mp hu with h1 | h1
    · cases v' with
      | none => cases h1
      | some z => simp only [Option.toList, List.mem_singleton] at h1; subst h1; exact hok
    · exact hst u h1
  obtain ⟨t2, a1, b1⟩ := k v' h' hq p l e R s m args below meth c A cells slots Z E T'.heap (locs ++ L) ls ⟨by rw [e1]; exact hP', wld_D Wl.2.1, hS', hh'⟩ hlv hst' hl T' rfl X'
  refine ⟨t2, stp t2 ?_, b1⟩
  have e3 : (v'.toList ++ st).map (mv w.1) = (v'.map (mv w.1)).toList ++ st.map (mv w.1) := by cases v' <;> simp
  rw [e3] at a1
  exact a1
theorem ev_pre {p : Program} {l : Launch} {e : Env} {R : Room} {s : State} {m : MethodId} {args : Array Value} {below : List Frame} {meth : Method} {c : Code} {A : Nat → Prop} {cells slots : Nat} {Z : State → Prop} {H : Heap} {locs : List Loc}
    (E : En w Y Q p l e R s m args below meth c A cells slots Z) (Wl : Wh w h A s H locs) : PreS s H (va_Pc (as.map (mv w.1)) (Bs w h H.size)) (as.map (mv w.1)) := by
  refine ⟨fun a U g mk q => ?_, fun U hU hW => ⟨rfl, by rw [hU], by rw [hU]; exact Wl.1, va_K.moved hW.alike E.2.2.1.1, Wl.2.1.weaken (fun _ _ _ _ => trivial), ev_NW hW E.2.2.1.2.1, ?_⟩⟩
  · obtain ⟨q0, q1, qP, qK, qD, qN, qS⟩ := q
    exact ⟨q0, q1, qP, va_K.moved (u := U) (U := U.calling g mk a) (Vm.Alike.refl U.vm) qK, qD, ev_NS (u := U) (U := U.calling g mk a) rfl qN, ev_SM (u := U) (U := U.calling g mk a) (Vm.Alike.refl U.vm) qS⟩
  · have h1 : ev_S w A s H := ev_SK E.2.2.1.2.2.1 (fun a h1 h2 => Wl.2.2.1.2.1 a h1 h2)
    have h2 : ev_S w (Aw w H.size) s H := ev_SN h1 (fun q hq => by
      rcases hq with ⟨j, hj, rfl⟩ | hq
      · exact Wl.2.1.2 j (w.1 j, cE w h j) (wld_at hj)
      · exact E.2.2.1.2.2.2 q (Nat.le_trans Wl.2.2.1.1 hq))
    rw [hU]
    exact ev_SM hW.alike h2
def fitY (Y' Y : MI) : Prop := Nat.ble (Y'.2.2.2.2.1 + 1) Y.2.2.2.2.1 = true ∧ Nat.ble (8 + (Y'.2.2.1 + 11) + Y'.2.2.2.2.2) Y.2.2.2.2.2 = true
theorem fit_R {R : Room} (hf : fitY Y' Y) (h1 : Y.2.2.2.2.1 ≤ R.frames) (h2 : Y.2.2.2.2.2 ≤ R.locals) : (rmY Y').frames + 1 ≤ R.frames ∧ 8 + (Y'.2.2.1 + 11) + (rmY Y').locals ≤ R.locals := ⟨Nat.le_trans (Nat.le_of_ble_eq_true hf.1) h1, Nat.le_trans (Nat.le_of_ble_eq_true hf.2) h2⟩
theorem cat_sum (hs : Nat.ble (st.map catA).sum 8 = true) : ((st.map (mv w.1)).map fun v => v.category).sum ≤ 8 := by
  have e : (st.map (mv w.1)).map (fun v => v.category) = st.map catA := by
    rw [List.map_map]
    apply List.map_congr_left
    intro v _
    exact cat_mv w.1 v
  rw [e]
  exact Nat.le_of_ble_eq_true hs
theorem e_invS (hd : decode Y.2.1 pc = .ok (.invokestatic idx, 3)) (hm : mOK y Y' n) (hu : Cond.methodLink Y.1 idx y ∈ UL) (hs : Cond.static y ∈ UL) (hf : fitY Y' Y) (hn : as.length = n) (hst0 : st0 = as.reverse ++ st) (hsum : Nat.ble (st.map catA).sum 8 = true) (hlen : Nat.ble (entL as).length Y'.2.2.1 = true) (hlv0 : padL Y'.2.2.1 (entL as) = lv0)
    (hE : Ev w Y' 0 lv0 [] h Q') (k : ∀ v h', Q' v h' → Ev w Y (pc + 3) lv (v.toList ++ st) h' Q) : Ev w Y pc lv st0 h Q := by
  intro p l e R s m args below meth c A cells slots Z E H locs ls Wl hlv hst hl
  have ha : oks as := fun v hv => hst v (by rw [hst0]; exact List.mem_append_left _ (List.mem_reverse.mpr hv))
  have hst' : oks st := fun v hv => hst v (by rw [hst0]; exact List.mem_append_right _ hv)
  have hM := ev_met l H.size hm Wl.2.2.2 ha hlen hlv0 hE
  have hG : GoodIn UL (va_wsS Y.1 idx y (wsY y Y')) := by
    intro u hu2
    unfold va_wsS at hu2
    rcases List.mem_append.mp hu2 with h1 | h1
    · simp only [List.mem_cons, List.not_mem_nil, or_false] at h1
      rcases h1 with rfl | rfl | rfl
      · exact ⟨hu, ul_good _ hu⟩
      · exact ⟨hs, ul_good _ hs⟩
      · rw [hm.2.2.2.2]; exact ⟨hm.2.1, ul_good _ hm.2.1⟩
    · exact ul_GI hm u h1
  refine ev_back (st := st) (Q' := Q') E Wl hlv hst' hl (va_runS (As := as.map (mv w.1)) E.1 hM (va_cwS n E.1.2.2.2.2 hG rfl rfl rfl hm.2.2.1 (fit_R hf E.2.1.1 E.2.1.2.1)) (ev_pre E Wl) rfl (by rw [List.length_map]; exact hn) hl.1 (by rw [hst0]; simp) (lv_room (cat_sum hsum)) hd ⟨E.2.1.2.2.1, E.2.1.2.2.2⟩) k
theorem e_invSN {host : String} (hd : decode Y.2.1 pc = .ok (.invokestatic idx, 3)) (hm : mOK y Y' n) (hu : Cond.methodLinkNest Y.1 idx y host ∈ ev_nl) (hs : Cond.static y ∈ UL) (hf : fitY Y' Y) (hn : as.length = n) (hst0 : st0 = as.reverse ++ st) (hsum : Nat.ble (st.map catA).sum 8 = true) (hlen : Nat.ble (entL as).length Y'.2.2.1 = true) (hlv0 : padL Y'.2.2.1 (entL as) = lv0)
    (hE : Ev w Y' 0 lv0 [] h Q') (k : ∀ v h', Q' v h' → Ev w Y (pc + 3) lv (v.toList ++ st) h' Q) : Ev w Y pc lv st0 h Q := by
  intro p l e R s m args below meth c A cells slots Z E H locs ls Wl hlv hst hl
  have ha : oks as := fun v hv => hst v (by rw [hst0]; exact List.mem_append_left _ (List.mem_reverse.mpr hv))
  have hst' : oks st := fun v hv => hst v (by rw [hst0]; exact List.mem_append_right _ hv)
  have hM := ev_met l H.size hm Wl.2.2.2 ha hlen hlv0 hE
  have hini : (Cond.initialized y.cls).before args s = true := by rw [hm.2.2.2.2]; exact E.1.2.2.2.2 _ hm.2.1
  refine ev_back (st := st) (Q' := Q') E Wl hlv hst' hl (va_runSN (As := as.map (mv w.1)) E.1 hM ⟨va_cnB n E.1.2.2.2.2 (ul_GI hm) rfl rfl rfl (E.2.2.1.2.1 _ hu) hini hm.2.2.1 (fit_R hf E.2.1.1 E.2.1.2.1), E.1.2.2.2.2 _ hs, trivial⟩ (ev_pre E Wl) rfl (by rw [List.length_map]; exact hn) hl.1 (by rw [hst0]; simp) (lv_room (cat_sum hsum)) hd ⟨E.2.1.2.2.1, E.2.1.2.2.2⟩) k
theorem e_invV {q ci : Nat} {T : u_T} {N : Nat} (hd : decode Y.2.1 pc = .ok (.invokevirtual idx, 3)) (hm : mOK y Y' n) (hu : Cond.methodLink Y.1 idx y ∈ UL) (hs : Cond.instanceMethod y ∈ UL ∧ Cond.selects Y'.1 y y ∈ UL) (hf : fitY Y' Y) (hq : ly q = some (.inl ci)) (hc : ev_cl[ci]? = some (Y'.1, T, N)) (hn : as.length = n) (hst0 : st0 = as.reverse ++ vR q :: st) (hsum : Nat.ble (st.map catA).sum 8 = true) (hlen : Nat.ble (entL (vR q :: as)).length Y'.2.2.1 = true) (hlv0 : padL Y'.2.2.1 (entL (vR q :: as)) = lv0)
    (hE : Ev w Y' 0 lv0 [] h Q') (k : ∀ v h', Q' v h' → Ev w Y (pc + 3) lv (v.toList ++ st) h' Q) : Ev w Y pc lv st0 h Q := by
  intro p l e R s m args below meth c A cells slots Z E H locs ls Wl hlv hst hl
  have ha : oks (vR q :: as) := oks_c trivial (fun v hv => hst v (by rw [hst0]; exact List.mem_append_left _ (List.mem_reverse.mpr hv)))
  have hst' : oks st := fun v hv => hst v (by rw [hst0]; exact List.mem_append_right _ (List.mem_cons_of_mem _ hv))
  have hM := ev_met l H.size hm Wl.2.2.2 ha hlen hlv0 hE
  have hG : GoodIn UL (wsV Y.1 idx Y'.1 y (wsY y Y')) := by
    intro u hu2
    unfold wsV at hu2
    rcases List.mem_append.mp hu2 with h1 | h1
    · simp only [List.mem_cons, List.not_mem_nil, or_false] at h1
      rcases h1 with rfl | rfl | rfl | rfl
      · exact ⟨hu, ul_good _ hu⟩
      · exact ⟨hs.1, ul_good _ hs.1⟩
      · exact ⟨hs.2, ul_good _ hs.2⟩
      · exact ⟨hm.2.1, ul_good _ hm.2.1⟩
    · exact ul_GI hm u h1
  have he : (wld w h)[q]? = some (w.1 q, .inr (ci, ev_fs w.1 (h q) (ev_fkd.getD ci []) (ev_tgt.getD q []))) := by rw [wld_at (ly_lt hq), cE_obj hq]
  have hrv := va_recv E.2.2.1.1 Wl.1 hc he
  have hpre := ev_pre (as := vR q :: as) E Wl
  refine ev_back (st := st) (Q' := Q') E Wl hlv hst' hl (va_runV (C := Y'.1) (b := w.1 q) (As := as.map (mv w.1)) E.1 hM (cwV n E.1.2.2.2.2 hG rfl rfl rfl ⟨hm.2.2.2.2, hm.2.2.1⟩ (fit_R hf E.2.1.1 E.2.1.2.1)) ⟨hpre.1, hrv, hpre.2⟩ rfl (by rw [List.length_map]; exact hn) hl.1 (by rw [hst0]; simp [mv]) (lv_room (cat_sum hsum)) hd ⟨E.2.1.2.2.1, E.2.1.2.2.2⟩) k
end EvCalls
def rI (K : Int → HP → Prop) : Option AV → HP → Prop := fun v h => ∃ r, v = some (vI r) ∧ K r h
def rL (K : Int → HP → Prop) : Option AV → HP → Prop := fun v h => ∃ r, v = some (vL r) ∧ K r h
def rV (K : HP → Prop) : Option AV → HP → Prop := fun v h => v = none ∧ K h
noncomputable def cif (p : Prop) (a b : Int) : Int := @ite Int p (Classical.propDecidable p) a b
noncomputable def b2i (p : Prop) : Int := cif p 1 0
theorem cif_t {p : Prop} {a b : Int} (h : p) : cif p a b = a := if_pos h
theorem cif_f {p : Prop} {a b : Int} (h : ¬ p) : cif p a b = b := if_neg h
theorem b2i_t {p : Prop} (h : p) : b2i p = 1 := cif_t h
theorem b2i_f {p : Prop} (h : ¬ p) : b2i p = 0 := cif_f h
theorem b2i_01 (p : Prop) : b2i p = 0 ∨ b2i p = 1 := by
  by_cases h : p
  · exact Or.inr (b2i_t h)
  · exact Or.inl (b2i_f h)
theorem b2i_0 {p : Prop} : b2i p = 0 ↔ ¬ p := by
  by_cases h : p
  · rw [b2i_t h]; exact ⟨fun z => absurd z (by decide), fun z => absurd h z⟩
  · rw [b2i_f h]; exact ⟨fun _ => h, fun _ => rfl⟩
theorem b2i_1 {p : Prop} : b2i p = 1 ↔ p := by
  by_cases h : p
  · rw [b2i_t h]; exact ⟨fun _ => h, fun _ => rfl⟩
  · rw [b2i_f h]; exact ⟨fun z => absurd z (by decide), fun z => absurd z h⟩
theorem b2i_c {p q : Prop} (h : p ↔ q) : b2i p = b2i q := by rw [propext h]
theorem cif_c {p q : Prop} {a b : Int} (h : p ↔ q) : cif p a b = cif q a b := by rw [propext h]
theorem b2i_rng (p : Prop) : iR (b2i p) := by
  rcases b2i_01 p with h | h <;> rw [h] <;> exact ⟨by decide, by decide⟩
theorem ro_R (w : WD) (k : Nat) (i : Int) : iR (ro w k i) := by
  have tab : ∀ (l : List Int) (j : Nat), (∀ x ∈ l, iR x) → iR (l.getD j 0) := by
    intro l j hl
    rw [List.getD_eq_getElem?_getD]
    cases h : l[j]? with
    | none => exact iR_0
    | some x => exact hl x (List.mem_of_getElem? h)
  unfold ro
  split
  · exact tab _ _ (by intro x hx; simp at hx; exact ⟨by omega, by omega⟩)
  · split
    · exact tab _ _ (by intro x hx; simp at hx; exact ⟨by omega, by omega⟩)
    · split
      · exact tab _ _ (by intro x hx; simp at hx; exact ⟨by omega, by omega⟩)
      · exact i_rng _
def cph (h : HP) (q0 q1 : Nat) (sp dp n : Int) : HP := fun q => if q = q1 then (fun j => if dp ≤ j ∧ j < dp + n then h q0 (sp + (j - dp)) else h q1 j) else h q
section EvMore
variable {w : WD} {Y : MI} {pc : Nat} {lv : List (Option AV)} {st : List AV} {h : HP} {Q : Option AV → HP → Prop}
theorem e_top {a b : Int} (e : a = b) (k : Ev w Y pc lv (vI a :: st) h Q) : Ev w Y pc lv (vI b :: st) h Q := e ▸ k
theorem e_ifb_eq {P : Prop} {off : Int} {tgt : Nat} (hd : decode Y.2.1 pc = .ok (.ifCond .eq off, 3)) (ht : (pc : Int) + off = (tgt : Int)) (kt : ¬ P → Ev w Y tgt lv st h Q) (kf : P → Ev w Y (pc + 3) lv st h Q) : Ev w Y pc lv (vI (b2i P) :: st) h Q :=
  e_if_eq hd ht (fun c => kt (b2i_0.mp c)) (fun c => kf (Classical.not_not.mp (fun z => c (b2i_0.mpr z))))
theorem e_ifb_ne {P : Prop} {off : Int} {tgt : Nat} (hd : decode Y.2.1 pc = .ok (.ifCond .ne off, 3)) (ht : (pc : Int) + off = (tgt : Int)) (kt : P → Ev w Y tgt lv st h Q) (kf : ¬ P → Ev w Y (pc + 3) lv st h Q) : Ev w Y pc lv (vI (b2i P) :: st) h Q :=
  e_if_ne hd ht (fun c => kt (Classical.not_not.mp (fun z => c (b2i_0.mpr z)))) (fun c => kf (b2i_0.mp c))
theorem e_lcif_lt {a b off : Int} {tgt : Nat} (hd : decode Y.2.1 pc = .ok (.lcmp, 1)) (hd2 : decode Y.2.1 (pc + 1) = .ok (.ifCond .lt off, 3)) (ht : ((pc + 1 : Nat) : Int) + off = (tgt : Int)) (kt : a < b → Ev w Y tgt lv st h Q) (kf : ¬ a < b → Ev w Y (pc + 1 + 3) lv st h Q) : Ev w Y pc lv (vL b :: vL a :: st) h Q := by
  refine e_lcmp hd (fun c => ?_) (fun c => ?_) (fun c => ?_)
  · exact e_if_lt hd2 ht (fun z => by first | exact kt (by omega) | exact absurd z (by decide)) (fun z => by first | exact kf (by omega) | exact absurd z (by decide))
  · exact e_if_lt hd2 ht (fun z => by first | exact kt (by omega) | exact absurd z (by decide)) (fun z => by first | exact kf (by omega) | exact absurd z (by decide))
  · exact e_if_lt hd2 ht (fun z => by first | exact kt (by omega) | exact absurd z (by decide)) (fun z => by first | exact kf (by omega) | exact absurd z (by decide))
theorem e_lcif_ge {a b off : Int} {tgt : Nat} (hd : decode Y.2.1 pc = .ok (.lcmp, 1)) (hd2 : decode Y.2.1 (pc + 1) = .ok (.ifCond .ge off, 3)) (ht : ((pc + 1 : Nat) : Int) + off = (tgt : Int)) (kt : b ≤ a → Ev w Y tgt lv st h Q) (kf : ¬ b ≤ a → Ev w Y (pc + 1 + 3) lv st h Q) : Ev w Y pc lv (vL b :: vL a :: st) h Q := by
  refine e_lcmp hd (fun c => ?_) (fun c => ?_) (fun c => ?_)
  · exact e_if_ge hd2 ht (fun z => by first | exact kt (by omega) | exact absurd z (by decide)) (fun z => by first | exact kf (by omega) | exact absurd z (by decide))
  · exact e_if_ge hd2 ht (fun z => by first | exact kt (by omega) | exact absurd z (by decide)) (fun z => by first | exact kf (by omega) | exact absurd z (by decide))
  · exact e_if_ge hd2 ht (fun z => by first | exact kt (by omega) | exact absurd z (by decide)) (fun z => by first | exact kf (by omega) | exact absurd z (by decide))
theorem e_lcif_gt {a b off : Int} {tgt : Nat} (hd : decode Y.2.1 pc = .ok (.lcmp, 1)) (hd2 : decode Y.2.1 (pc + 1) = .ok (.ifCond .gt off, 3)) (ht : ((pc + 1 : Nat) : Int) + off = (tgt : Int)) (kt : b < a → Ev w Y tgt lv st h Q) (kf : ¬ b < a → Ev w Y (pc + 1 + 3) lv st h Q) : Ev w Y pc lv (vL b :: vL a :: st) h Q := by
  refine e_lcmp hd (fun c => ?_) (fun c => ?_) (fun c => ?_)
  · exact e_if_gt hd2 ht (fun z => by first | exact kt (by omega) | exact absurd z (by decide)) (fun z => by first | exact kf (by omega) | exact absurd z (by decide))
  · exact e_if_gt hd2 ht (fun z => by first | exact kt (by omega) | exact absurd z (by decide)) (fun z => by first | exact kf (by omega) | exact absurd z (by decide))
  · exact e_if_gt hd2 ht (fun z => by first | exact kt (by omega) | exact absurd z (by decide)) (fun z => by first | exact kf (by omega) | exact absurd z (by decide))
theorem e_lcif_le {a b off : Int} {tgt : Nat} (hd : decode Y.2.1 pc = .ok (.lcmp, 1)) (hd2 : decode Y.2.1 (pc + 1) = .ok (.ifCond .le off, 3)) (ht : ((pc + 1 : Nat) : Int) + off = (tgt : Int)) (kt : a ≤ b → Ev w Y tgt lv st h Q) (kf : ¬ a ≤ b → Ev w Y (pc + 1 + 3) lv st h Q) : Ev w Y pc lv (vL b :: vL a :: st) h Q := by
  refine e_lcmp hd (fun c => ?_) (fun c => ?_) (fun c => ?_)
  · exact e_if_le hd2 ht (fun z => by first | exact kt (by omega) | exact absurd z (by decide)) (fun z => by first | exact kf (by omega) | exact absurd z (by decide))
  · exact e_if_le hd2 ht (fun z => by first | exact kt (by omega) | exact absurd z (by decide)) (fun z => by first | exact kf (by omega) | exact absurd z (by decide))
  · exact e_if_le hd2 ht (fun z => by first | exact kt (by omega) | exact absurd z (by decide)) (fun z => by first | exact kf (by omega) | exact absurd z (by decide))
theorem e_lcif_eq {a b off : Int} {tgt : Nat} (hd : decode Y.2.1 pc = .ok (.lcmp, 1)) (hd2 : decode Y.2.1 (pc + 1) = .ok (.ifCond .eq off, 3)) (ht : ((pc + 1 : Nat) : Int) + off = (tgt : Int)) (kt : a = b → Ev w Y tgt lv st h Q) (kf : ¬ a = b → Ev w Y (pc + 1 + 3) lv st h Q) : Ev w Y pc lv (vL b :: vL a :: st) h Q := by
  refine e_lcmp hd (fun c => ?_) (fun c => ?_) (fun c => ?_)
  · exact e_if_eq hd2 ht (fun z => by first | exact kt (by omega) | exact absurd z (by decide)) (fun z => by first | exact kf (by omega) | exact absurd z (by decide))
  · exact e_if_eq hd2 ht (fun z => by first | exact kt (by omega) | exact absurd z (by decide)) (fun z => by first | exact kf (by omega) | exact absurd z (by decide))
  · exact e_if_eq hd2 ht (fun z => by first | exact kt (by omega) | exact absurd z (by decide)) (fun z => by first | exact kf (by omega) | exact absurd z (by decide))
theorem e_lcif_ne {a b off : Int} {tgt : Nat} (hd : decode Y.2.1 pc = .ok (.lcmp, 1)) (hd2 : decode Y.2.1 (pc + 1) = .ok (.ifCond .ne off, 3)) (ht : ((pc + 1 : Nat) : Int) + off = (tgt : Int)) (kt : ¬ a = b → Ev w Y tgt lv st h Q) (kf : a = b → Ev w Y (pc + 1 + 3) lv st h Q) : Ev w Y pc lv (vL b :: vL a :: st) h Q := by
  refine e_lcmp hd (fun c => ?_) (fun c => ?_) (fun c => ?_)
  · exact e_if_ne hd2 ht (fun z => by first | exact kt (by omega) | exact absurd z (by decide)) (fun z => by first | exact kf (by omega) | exact absurd z (by decide))
  · exact e_if_ne hd2 ht (fun z => by first | exact kt (by omega) | exact absurd z (by decide)) (fun z => by first | exact kf (by omega) | exact absurd z (by decide))
  · exact e_if_ne hd2 ht (fun z => by first | exact kt (by omega) | exact absurd z (by decide)) (fun z => by first | exact kf (by omega) | exact absurd z (by decide))
theorem ev_cpy {f g : Int → Int} {sp dp n : Int} (h1 : 0 ≤ sp) (h2 : 0 ≤ dp) (h3 : 0 ≤ n) : va_cpy (fun j : Nat => Int32.ofInt (f (j : Int))) (fun j : Nat => Int32.ofInt (g (j : Int))) sp.toNat dp.toNat n.toNat = fun j : Nat => Int32.ofInt ((fun j => if dp ≤ j ∧ j < dp + n then f (sp + (j - dp)) else g j) (j : Int)) := by
  funext j
  unfold va_cpy
  by_cases e : dp.toNat ≤ j ∧ j < dp.toNat + n.toNat
  · rw [if_pos e]
    have e2 : dp ≤ (j : Int) ∧ (j : Int) < dp + n := by omega
    have e3 : ((sp.toNat + (j - dp.toNat) : Nat) : Int) = sp + ((j : Int) - dp) := by omega
    simp only [if_pos e2, e3]
  · rw [if_neg e]
    have e2 : ¬ (dp ≤ (j : Int) ∧ (j : Int) < dp + n) := by omega
    simp only [if_neg e2]
theorem e_copy {q0 q1 n0 n1 idx : Nat} {sp dp n : Int} (hd : decode Y.2.1 pc = .ok (.invokestatic idx, 3)) (hu : Cond.methodLink Y.1 idx arraycopyName ∈ UL) (hs : Cond.static arraycopyName ∈ UL) (hq0 : ly q0 = some (.inr (false, n0))) (hq1 : ly q1 = some (.inr (false, n1))) (hb : 0 ≤ sp ∧ 0 ≤ dp ∧ 0 ≤ n ∧ sp + n ≤ (n0 : Int) ∧ dp + n ≤ (n1 : Int)) (hR : Nat.ble 1 Y.2.2.2.2.1 = true ∧ Nat.ble 18 Y.2.2.2.2.2 = true) (kk : Ev w Y (pc + 3) lv [] (cph h q0 q1 sp dp n) Q) : Ev w Y pc lv (vI n :: vI dp :: vR q1 :: vI sp :: vR q0 :: []) h Q := by
  intro p l e R s m args below meth c A cells slots Z E H locs ls Wl hlv hst hl
  have rn := oks_h hst
  have rd := oks_h (oks_t hst)
  have rs := oks_h (oks_t (oks_t (oks_t hst)))
  have he0 : (wld w h)[q0]? = some (w.1 q0, .inl (w.2.2.1, n0, .inl (fun j => Int32.ofInt (h q0 (j : Int))))) := by rw [wld_at (ly_lt hq0), cE_arr hq0]; rfl
  have he1 : (wld w h)[q1]? = some (w.1 q1, .inl (w.2.2.1, n1, .inl (fun j => Int32.ofInt (h q1 (j : Int))))) := by rw [wld_at (ly_lt hq1), cE_arr hq1]; rfl
  have nn : ∀ {x : Int}, iR x → 0 ≤ x → ¬ Int32.ofInt x < 0 := fun {x} hr h0 z => by rw [i_0, i_lt hr iR_0] at z; omega
  have hw : (wld w h).set q1 (w.1 q1, .inl (w.2.2.1, n1, .inl (va_cpy (fun j => Int32.ofInt (h q0 (j : Int))) (fun j => Int32.ofInt (h q1 (j : Int))) (Int32.ofInt sp).toNatClampNeg (Int32.ofInt dp).toNatClampNeg (Int32.ofInt n).toNatClampNeg))) = wld w (cph h q0 q1 sp dp n) := by
    rw [wld_set (h' := cph h q0 q1 sp dp n) (ly_lt hq1) (fun j hj => by unfold cph; rw [if_neg hj]), cE_arr hq1, ev_cl0 rs, ev_cl0 rd, ev_cl0 rn, ev_cpy hb.1 hb.2.1 hb.2.2.1]
    have : cph h q0 q1 sp dp n q1 = fun j => if dp ≤ j ∧ j < dp + n then h q0 (sp + (j - dp)) else h q1 j := by unfold cph; rw [if_pos rfl]
    rw [this]
    rfl
  have hok : okh (cph h q0 q1 sp dp n) := by
    intro q j
    unfold cph
    by_cases e : q = q1
    · rw [if_pos e]
      by_cases e2 : dp ≤ j ∧ j < dp + n
      · simpa [e2] using Wl.2.2.2 q0 (sp + (j - dp))
      · simpa [e2] using Wl.2.2.2 q1 j
    · rw [if_neg e]; exact Wl.2.2.2 q j
  refine va_copyi (rest := []) (ty := .int) E.1.1 E.1.2.1 (E.1.2.2.1.trans hl.1.symm) E.1.2.2.2.1 (E.1.2.2.2.2 _ hu) (E.1.2.2.2.2 _ ul_3_5) (E.1.2.2.2.2 _ hs) (E.1.2.2.2.2 _ ul_1_12) E.2.2.1.1 Wl.1 Wl.2.1 Wl.2.2.1 q0 q1 0 0 he0 he1 rfl rfl rfl (nn rs hb.1) (nn rd hb.2.1) (nn rn hb.2.2.1) (by rw [ev_cl0 rs, ev_cl0 rn]; omega) (by rw [ev_cl0 rd, ev_cl0 rn]; omega) (fun _ _ => rfl) (Nat.le_trans (Nat.le_of_ble_eq_true hR.1) E.2.1.1) (Nat.le_trans (Nat.le_of_ble_eq_true hR.2) E.2.1.2.1) hd (fun H1 locs1 hP hD hS => ?_)
  rw [hw] at hP hD
  exact kk p l e R s m args below meth c A cells slots Z E H1 locs1 ls ⟨hP, hD, hS, hok⟩ hlv (fun v hv => by cases hv) hl
theorem um_max : Cond.code Lib.Math.max.name Lib.Math.max.code 2 (some .int) ∈ UL := ul_in3 (List.mem_of_getElem? (i := 168) (by decide +kernel)) (by decide +kernel)
theorem e_max {a b : Int} {idx : Nat} (hd : decode Y.2.1 pc = .ok (.invokestatic idx, 3)) (hu : Cond.methodLink Y.1 idx yJ9_max_7cf53 ∈ UL) (hR : Nat.ble 1 Y.2.2.2.2.1 = true ∧ Nat.ble 21 Y.2.2.2.2.2 = true) (hsum : Nat.ble (st.map catA).sum 8 = true) (kk : Ev w Y (pc + 3) lv (vI (max a b) :: st) h Q) : Ev w Y pc lv (vI b :: vI a :: st) h Q := by
  intro p l e R s m args below meth c A cells slots Z E H locs ls Wl hlv hst hl
  have rb := oks_h hst
  have ra := oks_h (oks_t hst)
  have hr : iR (max a b) := by
    have := ra.1; have := ra.2; have := rb.1; have := rb.2
    exact ⟨by omega, by omega⟩
  have k1 := kk p l e R s m args below meth c A cells slots Z E H locs ls Wl hlv (oks_c hr (oks_t (oks_t hst))) hl
  have hsm := cat_sum (w := w) hsum
  have e1 := Nat.le_of_ble_eq_true hR.1
  have e2 := Nat.le_of_ble_eq_true hR.2
  refine va_mmax E.1.1 E.1.2.1 (E.1.2.2.1.trans hl.1.symm) E.1.2.2.2.1 (E.1.2.2.2.2 _ hu) (E.1.2.2.2.2 _ ul_3_167) (E.1.2.2.2.2 _ ul_1_14) (E.1.2.2.2.2 _ um_max) (Nat.le_trans e1 E.2.1.1) (by have := E.2.1.2.1; omega) E.2.1.2.2.1 E.2.1.2.2.2 hd ?_
  have hv : (if Int32.ofInt a < Int32.ofInt b then Int32.ofInt b else Int32.ofInt a : Int32) = Int32.ofInt (max a b) := by
    by_cases c0 : a < b
    · rw [if_pos ((i_lt ra rb).mpr c0)]; congr 1; omega
    · rw [if_neg (fun z => c0 ((i_lt ra rb).mp z))]; congr 1; omega
  rw [hv]
  exact k1
theorem um_min : Cond.code Lib.Math.min.name Lib.Math.min.code 2 (some .int) ∈ UL := ul_in3 (List.mem_of_getElem? (i := 68) (by decide +kernel)) (by decide +kernel)
theorem e_min {a b : Int} {idx : Nat} (hd : decode Y.2.1 pc = .ok (.invokestatic idx, 3)) (hu : Cond.methodLink Y.1 idx yJ9_min_7cf53 ∈ UL) (hR : Nat.ble 1 Y.2.2.2.2.1 = true ∧ Nat.ble 21 Y.2.2.2.2.2 = true) (hsum : Nat.ble (st.map catA).sum 8 = true) (kk : Ev w Y (pc + 3) lv (vI (min a b) :: st) h Q) : Ev w Y pc lv (vI b :: vI a :: st) h Q := by
  intro p l e R s m args below meth c A cells slots Z E H locs ls Wl hlv hst hl
  have rb := oks_h hst
  have ra := oks_h (oks_t hst)
  have hr : iR (min a b) := by
    have := ra.1; have := ra.2; have := rb.1; have := rb.2
    exact ⟨by omega, by omega⟩
  have k1 := kk p l e R s m args below meth c A cells slots Z E H locs ls Wl hlv (oks_c hr (oks_t (oks_t hst))) hl
  have hsm := cat_sum (w := w) hsum
  have e1 := Nat.le_of_ble_eq_true hR.1
  have e2 := Nat.le_of_ble_eq_true hR.2
  refine va_mmin E.1.1 E.1.2.1 (E.1.2.2.1.trans hl.1.symm) E.1.2.2.2.1 (E.1.2.2.2.2 _ hu) (E.1.2.2.2.2 _ ul_3_67) (E.1.2.2.2.2 _ ul_1_14) (E.1.2.2.2.2 _ um_min) (Nat.le_trans e1 E.2.1.1) (by have := E.2.1.2.1; omega) E.2.1.2.2.1 E.2.1.2.2.2 hd ?_
  have hv : (if Int32.ofInt b < Int32.ofInt a then Int32.ofInt b else Int32.ofInt a : Int32) = Int32.ofInt (min a b) := by
    by_cases c0 : b < a
    · rw [if_pos ((i_lt rb ra).mpr c0)]; congr 1; omega
    · rw [if_neg (fun z => c0 ((i_lt rb ra).mp z))]; congr 1; omega
  rw [hv]
  exact k1
end EvMore
