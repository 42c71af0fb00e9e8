/-! from the entry to the loop -/
theorem st_known {s : State} {args : Array Value} (hU : ∀ w ∈ UL, w.before args s = true) (k : Nat) : ∃ (cC : ClassId), ∃ (iS : Nat → Nat), ∀ q : vw_C, ev_cl[k]? = some q → u_Kn s q.1 q.2.1 q.2.2 cC iS := by
  match k with
  | 0 => obtain ⟨c0, i0, h⟩ := u_known (C := RX0) (T := TX0) (N := 5) hU ev_in0 (hU _ ul_1_208); exact ⟨c0, i0, fun q hq => by cases hq; exact h⟩
  | 1 => obtain ⟨c0, i0, h⟩ := u_known (C := RX1) (T := TX1) (N := 8) hU ev_in1 (hU _ ul_2_66); exact ⟨c0, i0, fun q hq => by cases hq; exact h⟩
  | 2 => obtain ⟨c0, i0, h⟩ := u_known (C := RX2) (T := TX2) (N := 8) hU ev_in2 (hU _ ul_2_35); exact ⟨c0, i0, fun q hq => by cases hq; exact h⟩
  | 3 => obtain ⟨c0, i0, h⟩ := u_known (C := RX3) (T := TX3) (N := 16) hU ev_in3 (hU _ ul_1_146); exact ⟨c0, i0, fun q hq => by cases hq; exact h⟩
  | 4 => obtain ⟨c0, i0, h⟩ := u_known (C := RX4) (T := TX4) (N := 10) hU ev_in4 (hU _ ul_1_25); exact ⟨c0, i0, fun q hq => by cases hq; exact h⟩
  | 5 => obtain ⟨c0, i0, h⟩ := u_known (C := RX5) (T := TX5) (N := 7) hU ev_in5 (hU _ ul_1_79); exact ⟨c0, i0, fun q hq => by cases hq; exact h⟩
  | 6 => obtain ⟨c0, i0, h⟩ := u_known (C := RX6) (T := TX6) (N := 10) hU ev_in6 (hU _ ul_1_235); exact ⟨c0, i0, fun q hq => by cases hq; exact h⟩
  | 7 => obtain ⟨c0, i0, h⟩ := u_known (C := RX7) (T := TX7) (N := 8) hU ev_in7 (hU _ ul_1_110); exact ⟨c0, i0, fun q hq => by cases hq; exact h⟩
  | 8 => obtain ⟨c0, i0, h⟩ := u_known (C := RX8) (T := TX8) (N := 9) hU ev_in8 (hU _ ul_1_17); exact ⟨c0, i0, fun q hq => by cases hq; exact h⟩
  | 9 => obtain ⟨c0, i0, h⟩ := u_known (C := RX9) (T := TX9) (N := 52) hU ev_in9 (hU _ ul_4_177); exact ⟨c0, i0, fun q hq => by cases hq; exact h⟩
  | k + 10 => exact ⟨0, fun _ => 0, fun q hq => by simp at hq⟩
theorem st_nest {u : Cond} {s : State} {args : Array Value} (hu : u ∈ ev_nl) (h : u.before args s = true) : va_Nw u s := by
  refine va_Nw.of ?_ h
  unfold ev_nl at hu
  simp only [List.mem_cons, List.not_mem_nil, or_false] at hu
  rcases hu with rfl | rfl | rfl | rfl | rfl | rfl | rfl | rfl | rfl | rfl | rfl | rfl | rfl <;> rfl
theorem st_script {b : Nat} {s : State} {w : WD} {A : Nat → Prop} (hA : ¬ A b) (hX : va_X b w.2.2.2.2.1 w.2.2.2.2.2 s s.heap) : va_T .int b (roN w 93) (fun j => .int (Int32.ofInt (ro w 93 (j : Int)))) A s s.heap := by
  obtain ⟨scr, h1, h2, h3, h4, h5⟩ := hX
  refine ⟨scr, h1, h2, h3, Nat.le_of_eq h4.symm, by rw [h4]; rfl, fun j hj => ?_, hA⟩
  rw [h5 j hj]
  show some (Value.int (w.2.2.2.2.2 j)) = some (Value.int (Int32.ofInt ((w.2.2.2.2.2 ((j : Int).toNat)).toInt)))
  rw [i_of]
  rfl
set_option maxRecDepth 100000 in
set_option maxHeartbeats 4000000 in
theorem st_tables {s : State} {b : Nat} (hU : ∀ w ∈ UL, w.before #[Value.ref b] s = true) (hts : ∀ w ∈ lw_tbl, w.before #[Value.ref b] s = true) (hgv : (Jvm.Cond.and given_1 narrow_1).before #[Value.ref b] s = true) : ∃ t0 t1 t2 : Nat, va_T .int t0 4 (fun j => .int (Int32.ofInt (([3, 1, 2, 1] : List Int).getD ((j : Int).toNat) 0))) (fun q : Nat => s.heap.size ≤ q) s s.heap ∧ va_T .int t1 4 (fun j => .int (Int32.ofInt (([4, 4, 5, 1] : List Int).getD ((j : Int).toNat) 0))) (fun q : Nat => s.heap.size ≤ q) s s.heap ∧ va_T .int t2 3 (fun j => .int (Int32.ofInt (([50, 20, 100] : List Int).getD ((j : Int).toNat) 0))) (fun q : Nat => s.heap.size ≤ q) s s.heap ∧ va_Z "HeededWishes" "TOP_OF_SORT" "[I" (.ref t0) (fun q : Nat => s.heap.size ≤ q) s s.heap ∧ va_Z "HeededWishes" "NUMBERS_OF_KIND" "[I" (.ref t1) (fun q : Nat => s.heap.size ≤ q) s s.heap ∧ va_Z "HeededWishes" "TOP_OF_BOUND" "[I" (.ref t2) (fun q : Nat => s.heap.size ≤ q) s s.heap := by
  have hs := flat_of_before _ hgv
  have hA : ∀ a : Nat, a < s.heap.size → ¬ (fun q : Nat => s.heap.size ≤ q) a := fun a h z => absurd h (Nat.not_lt.mpr z)
  have e00 : (Term.elem (.static "HeededWishes" "TOP_OF_SORT" "[I") (.int 0)).eval #[Value.ref b] s none [] s = some (.int 3) := va_eqt (hs _ (by decide +kernel))
  have e01 : (Term.elem (.static "HeededWishes" "TOP_OF_SORT" "[I") (.int 1)).eval #[Value.ref b] s none [] s = some (.int 1) := va_eqt (hs _ (by decide +kernel))
  have e02 : (Term.elem (.static "HeededWishes" "TOP_OF_SORT" "[I") (.int 2)).eval #[Value.ref b] s none [] s = some (.int 2) := va_eqt (hs _ (by decide +kernel))
  have e03 : (Term.elem (.static "HeededWishes" "TOP_OF_SORT" "[I") (.int 3)).eval #[Value.ref b] s none [] s = some (.int 1) := va_eqt (hs _ (by decide +kernel))
  have n0 : (Term.length (.static "HeededWishes" "TOP_OF_SORT" "[I")).eval #[Value.ref b] s none [] s = some (.int 4) := va_eqt (hs _ (by decide +kernel))
  have a0 : (Cond.arrayOf (.static "HeededWishes" "TOP_OF_SORT" "[I") .int).before #[Value.ref b] s = true := hs _ (by decide +kernel)
  obtain ⟨t0, v0, T0⟩ := va_Tof (N := 4) (f := (fun j => .int (Int32.ofInt (([3, 1, 2, 1] : List Int).getD ((j : Int).toNat) 0)))) (A := (fun q : Nat => s.heap.size ≤ q)) (by decide) a0 n0 (fun j hj => by rcases (show j = 0 ∨ j = 1 ∨ j = 2 ∨ j = 3 by omega) with rfl | rfl | rfl | rfl <;> first | exact e00 | exact e01 | exact e02 | exact e03) hA
  have z0 : va_Z "HeededWishes" "TOP_OF_SORT" "[I" (.ref t0) (fun q : Nat => s.heap.size ≤ q) s s.heap := va_Zref (hts _ (List.mem_append_right _ (List.mem_append_right _ (List.mem_append_right _ (List.mem_append_left _ (List.mem_of_getElem? (i := 110) rfl)))))) (hU _ ul_1_1) v0 hA
  have e10 : (Term.elem (.static "HeededWishes" "NUMBERS_OF_KIND" "[I") (.int 0)).eval #[Value.ref b] s none [] s = some (.int 4) := va_eqt (hs _ (by decide +kernel))
  have e11 : (Term.elem (.static "HeededWishes" "NUMBERS_OF_KIND" "[I") (.int 1)).eval #[Value.ref b] s none [] s = some (.int 4) := va_eqt (hs _ (by decide +kernel))
  have e12 : (Term.elem (.static "HeededWishes" "NUMBERS_OF_KIND" "[I") (.int 2)).eval #[Value.ref b] s none [] s = some (.int 5) := va_eqt (hs _ (by decide +kernel))
  have e13 : (Term.elem (.static "HeededWishes" "NUMBERS_OF_KIND" "[I") (.int 3)).eval #[Value.ref b] s none [] s = some (.int 1) := va_eqt (hs _ (by decide +kernel))
  have n1 : (Term.length (.static "HeededWishes" "NUMBERS_OF_KIND" "[I")).eval #[Value.ref b] s none [] s = some (.int 4) := va_eqt (hs _ (by decide +kernel))
  have a1 : (Cond.arrayOf (.static "HeededWishes" "NUMBERS_OF_KIND" "[I") .int).before #[Value.ref b] s = true := hs _ (by decide +kernel)
  obtain ⟨t1, v1, T1⟩ := va_Tof (N := 4) (f := (fun j => .int (Int32.ofInt (([4, 4, 5, 1] : List Int).getD ((j : Int).toNat) 0)))) (A := (fun q : Nat => s.heap.size ≤ q)) (by decide) a1 n1 (fun j hj => by rcases (show j = 0 ∨ j = 1 ∨ j = 2 ∨ j = 3 by omega) with rfl | rfl | rfl | rfl <;> first | exact e10 | exact e11 | exact e12 | exact e13) hA
  have z1 : va_Z "HeededWishes" "NUMBERS_OF_KIND" "[I" (.ref t1) (fun q : Nat => s.heap.size ≤ q) s s.heap := va_Zref (hts _ (List.mem_append_right _ (List.mem_append_right _ (List.mem_append_left _ (List.mem_of_getElem? (i := 169) rfl))))) (hU _ ul_1_1) v1 hA
  have e20 : (Term.elem (.static "HeededWishes" "TOP_OF_BOUND" "[I") (.int 0)).eval #[Value.ref b] s none [] s = some (.int 50) := va_eqt (hs _ (by decide +kernel))
  have e21 : (Term.elem (.static "HeededWishes" "TOP_OF_BOUND" "[I") (.int 1)).eval #[Value.ref b] s none [] s = some (.int 20) := va_eqt (hs _ (by decide +kernel))
  have e22 : (Term.elem (.static "HeededWishes" "TOP_OF_BOUND" "[I") (.int 2)).eval #[Value.ref b] s none [] s = some (.int 100) := va_eqt (hs _ (by decide +kernel))
  have n2 : (Term.length (.static "HeededWishes" "TOP_OF_BOUND" "[I")).eval #[Value.ref b] s none [] s = some (.int 3) := va_eqt (hs _ (by decide +kernel))
  have a2 : (Cond.arrayOf (.static "HeededWishes" "TOP_OF_BOUND" "[I") .int).before #[Value.ref b] s = true := hs _ (by decide +kernel)
  obtain ⟨t2, v2, T2⟩ := va_Tof (N := 3) (f := (fun j => .int (Int32.ofInt (([50, 20, 100] : List Int).getD ((j : Int).toNat) 0)))) (A := (fun q : Nat => s.heap.size ≤ q)) (by decide) a2 n2 (fun j hj => by rcases (show j = 0 ∨ j = 1 ∨ j = 2 by omega) with rfl | rfl | rfl <;> first | exact e20 | exact e21 | exact e22) hA
  have z2 : va_Z "HeededWishes" "TOP_OF_BOUND" "[I" (.ref t2) (fun q : Nat => s.heap.size ≤ q) s s.heap := va_Zref (hts _ (List.mem_append_right _ (List.mem_append_right _ (List.mem_append_left _ (List.mem_of_getElem? (i := 182) rfl))))) (hU _ ul_1_1) v2 hA
  exact ⟨t0, t1, t2, T0, T1, T2, z0, z1, z2⟩
set_option maxRecDepth 100000 in
set_option maxHeartbeats 4000000 in
theorem st_walk {p : Program} {l : Launch} {e : Env} {s : State} {m : MethodId} {args : Array Value} {below : List Frame} {meth : Method} {c : Code} {G : KG} {A : Nat → Prop} {Q : State → Prop} {b : Nat} {ls : Array Slot} (C : Cx p s m args c cL_law 4 RL G A) (hl : lv_has ls 4 [(0, .ref b)])
    (kk : ∀ (o0 : Nat) (u4 : Nat → Nat) (o8 : Nat) (u12 : Nat → Nat) (ls : Array Slot), lv_has ls 4 [(3, .int (Int32.ofInt 0)), (2, .ref o8), (1, .ref o0), (0, .ref b)] → Kt p l e room_1 s m args below meth c G A Q (wsB G o0 u4 o8 u12) 90 12375 18 ls []) : Kt p l e room_1 s m args below meth c G A Q [] 0 0 0 ls [] := by
  refine kt_new (pc := 0) (k := 0) (n := 0) (ci := 8) (fs := [.null, .null, .null, .null, .null, .null, .null, .null, .null]) C dL_law_0 ev_in8 tyX8_ok ul_1_16 ul_1_17 ul_1_1 rfl rfl rfl rfl (fun o0 => ?_)
  refine kt_dup (pc := 3) C dL_law_3 ?_
  refine kt_callI (pc := 4) (k := 1) (n := 9) (wr := []) (st := [.ref o0]) C dL_law_4 (c_X8_init l G o0) m_X8_init rfl rfl ul_1_18 ul_1_19 ⟨rfl, rfl⟩ ⟨rfl, rfl⟩ [0] [] rfl rfl rfl rfl (by decide) (by decide) rfl hl.1 rfl rfl (fun u4 => ?_)
  refine kt_astore (pc := 7) (lv' := [(1, .ref o0), (0, .ref b)]) C dL_law_7 rfl hl (by decide) rfl (fun ls hl => ?_)
  refine kt_new (pc := 8) (k := 55) (n := 9622) (ci := 9) (fs := [.int 0, .null, .null, .null, .null, .null, .null, .null, .int 0, .null, .int 0, .null, .null, .null, .null, .null, .int 0, .null, .null, .null, .int 0, .int 0, .int 0, .int 0, .null, .null, .null, .null, .int 0, .int 0, .null, .null, .null, .int 0, .null, .int 0, .int 0, .null, .int 0, .int 0, .null, .null, .int 0, .null, .int 0, .null, .null, .int 0, .null, .null, .null, .null]) C dL_law_8 ev_in9 tyX9_ok ul_4_176 ul_4_177 ul_1_11 rfl rfl rfl rfl (fun o8 => ?_)
  refine kt_dup (pc := 11) C dL_law_11 ?_
  refine kt_callI (pc := 12) (k := 56) (n := 9674) (wr := wf_X8_init G o0 u4) (st := [.ref o8]) C dL_law_12 (c_X9_init l G o8) m_X9_init rfl rfl ul_4_178 ul_4_179 ⟨rfl, rfl⟩ ⟨rfl, rfl⟩ [55] [0, 1, 2, 3, 4, 5, 6, 7, 8, 9, 10, 11, 12, 13, 14, 15, 16, 17, 18, 19, 20, 21, 22, 23, 24, 25, 26, 27, 28, 29, 30, 31, 32, 33, 34, 35, 36, 37, 38, 39, 40, 41, 42, 43, 44, 45, 46, 47, 48, 49, 50, 51, 52, 53, 54] rfl rfl rfl rfl (by decide) (by decide) rfl hl.1 rfl rfl (fun u12 => ?_)
  refine kt_astore (pc := 15) (lv' := [(2, .ref o8), (1, .ref o0), (0, .ref b)]) C dL_law_15 rfl hl (by decide) rfl (fun ls hl => ?_)
  refine kt_iconst (pc := 16) C dL_law_16 ?_
  refine kt_istore (pc := 17) (lv' := [(3, .int (Int32.ofInt 0)), (2, .ref o8), (1, .ref o0), (0, .ref b)]) C dL_law_17 rfl hl (by decide) rfl (fun ls hl => ?_)
  exact kk o0 u4 o8 u12 ls hl
