/-! what stands: rows of those that are woken -/
def S_X0_add (a1 : Int) (a2 : Int) (a3 : Int) (h : HP) (K : Int → HP → Prop) : Prop :=
  ((0 ≤ (h 5 3) ∧ (h 5 3) < 200) ∧ ((0 ≤ (h 5 3) ∧ (h 5 3) < 200) ∧ ((iR ((h 5 3) + 1)) ∧ ((iR (((h 5 3) + 1) - 1)) ∧ K (((h 5 3) + 1) - 1) (sth (sth (sth (sth h 36 (h 5 3) a2) 37 (h 5 3) a3) 5 4 a1) 5 3 ((h 5 3) + 1))))))
set_option maxRecDepth 100000 in
set_option maxHeartbeats 4000000 in
theorem v_X0_add (w : WD) (a1 : Int) (a2 : Int) (a3 : Int) (h : HP) (K : Int → HP → Prop) 
    (H : ((0 ≤ (h 5 3) ∧ (h 5 3) < 200) ∧ ((0 ≤ (h 5 3) ∧ (h 5 3) < 200) ∧ ((iR ((h 5 3) + 1)) ∧ ((iR (((h 5 3) + 1) - 1)) ∧ K (((h 5 3) + 1) - 1) (sth (sth (sth (sth h 36 (h 5 3) a2) 37 (h 5 3) a3) 5 4 a1) 5 3 ((h 5 3) + 1))))))) :
    Ev w Y_X0_add 0 [some (vR 5), some (vI a1), some (vI a2), some (vI a3)] [] h (rI K) := by
  refine e_aload_n (pc := 0) dX0_add_0 rfl rfl ?_
  refine e_getR (q := 5) (ci := 0) (k := 0) (y := 36) (C := RX0) (T := TX0) (N := 5) (pc := 1) dX0_add_1 rfl rfl ev_in0 rfl ul_1_213 ⟨rfl, rfl⟩ rfl ?_
  refine e_aload_n (pc := 4) dX0_add_4 rfl rfl ?_
  refine e_getI (q := 5) (ci := 0) (k := 3) (kz := 3) (C := RX0) (T := TX0) (N := 5) (x := (h 5 3)) (pc := 5) dX0_add_5 rfl rfl rfl ev_in0 rfl ul_1_219 ⟨rfl, by decide⟩ rfl ?_
  refine e_iload_n (pc := 8) dX0_add_8 rfl rfl ?_
  refine e_iast (q := 36) (pc := 9) dX0_add_9 rfl H.1 ?_
  have H := H.2
  refine e_aload_n (pc := 10) dX0_add_10 rfl rfl ?_
  refine e_getR (q := 5) (ci := 0) (k := 1) (y := 37) (C := RX0) (T := TX0) (N := 5) (pc := 11) dX0_add_11 rfl rfl ev_in0 rfl ul_1_215 ⟨rfl, rfl⟩ rfl ?_
  refine e_aload_n (pc := 14) dX0_add_14 rfl rfl ?_
  refine e_getI (q := 5) (ci := 0) (k := 3) (kz := 3) (C := RX0) (T := TX0) (N := 5) (x := (h 5 3)) (pc := 15) dX0_add_15 rfl rfl rfl ev_in0 rfl ul_1_219 ⟨rfl, by decide⟩ rfl ?_
  refine e_iload_n (pc := 18) dX0_add_18 rfl rfl ?_
  refine e_iast (q := 37) (pc := 19) dX0_add_19 rfl H.1 ?_
  have H := H.2
  refine e_aload_n (pc := 20) dX0_add_20 rfl rfl ?_
  refine e_iload_n (pc := 21) dX0_add_21 rfl rfl ?_
  refine e_put (q := 5) (ci := 0) (k := 4) (kz := 4) (C := RX0) (T := TX0) (N := 5) (ty := .int) (pc := 22) dX0_add_22 rfl rfl rfl ev_in0 tyX0 tyX0_ok nmX0 rfl ul_1_221 ⟨rfl, by decide⟩ rfl (tyX0_ok 4 (by decide)) (Or.inl rfl) ?_
  refine e_aload_n (pc := 25) dX0_add_25 rfl rfl ?_
  refine e_dup (pc := 26) dX0_add_26 rfl ?_
  refine e_getI (q := 5) (ci := 0) (k := 3) (kz := 3) (C := RX0) (T := TX0) (N := 5) (x := (h 5 3)) (pc := 27) dX0_add_27 rfl rfl rfl ev_in0 rfl ul_1_219 ⟨rfl, by decide⟩ rfl ?_
  refine e_iconst (pc := 30) dX0_add_30 ⟨by decide, by decide⟩ ?_
  refine e_iadd (pc := 31) dX0_add_31 H.1 ?_
  have H := H.2
  refine e_put (q := 5) (ci := 0) (k := 3) (kz := 3) (C := RX0) (T := TX0) (N := 5) (ty := .int) (pc := 32) dX0_add_32 rfl rfl rfl ev_in0 tyX0 tyX0_ok nmX0 rfl ul_1_219 ⟨rfl, by decide⟩ rfl (tyX0_ok 3 (by decide)) (Or.inl rfl) ?_
  refine e_aload_n (pc := 35) dX0_add_35 rfl rfl ?_
  refine e_getI (q := 5) (ci := 0) (k := 3) (kz := 3) (C := RX0) (T := TX0) (N := 5) (x := ((h 5 3) + 1)) (pc := 36) dX0_add_36 rfl rfl rfl ev_in0 rfl ul_1_219 ⟨rfl, by decide⟩ rfl ?_
  refine e_iconst (pc := 39) dX0_add_39 ⟨by decide, by decide⟩ ?_
  refine e_isub (pc := 40) dX0_add_40 H.1 ?_
  have H := H.2
  exact e_ret (pc := 41) (v := some (vI (((h 5 3) + 1) - 1))) dX0_add_41 rfl trivial ⟨_, rfl, H⟩
theorem c_X0_add (w : WD) (a1 : Int) (a2 : Int) (a3 : Int) (h : HP) (K : Int → HP → Prop)  (H : S_X0_add a1 a2 a3 h K) : Ev w Y_X0_add 0 [some (vR 5), some (vI a1), some (vI a2), some (vI a3)] [] h (rI K) := v_X0_add w a1 a2 a3 h K  H
def S_X6_add (a1 : Int) (a2 : Int) (a3 : Int) (a4 : Int) (h : HP) (K : Int → HP → Prop) : Prop :=
  (((h 6 7) < 8 → ((0 ≤ (h 6 7) ∧ (h 6 7) < 8) ∧ ((0 ≤ (h 6 7) ∧ (h 6 7) < 8) ∧ ((0 ≤ (h 6 7) ∧ (h 6 7) < 8) ∧ ((0 ≤ (h 6 7) ∧ (h 6 7) < 8) ∧ ((iR ((h 6 7) + 1)) ∧ ((iR (((h 6 7) + 1) - 1)) ∧ K (((h 6 7) + 1) - 1) (sth (sth (sth (sth (sth h 39 (h 6 7) a1) 40 (h 6 7) a2) 41 (h 6 7) a3) 42 (h 6 7) a4) 6 7 ((h 6 7) + 1))))))))) ∧ (¬ (h 6 7) < 8 → K (-3) h))
set_option maxRecDepth 100000 in
set_option maxHeartbeats 4000000 in
theorem v_X6_add (w : WD) (a1 : Int) (a2 : Int) (a3 : Int) (a4 : Int) (h : HP) (K : Int → HP → Prop) 
    (H : (((h 6 7) < 8 → ((0 ≤ (h 6 7) ∧ (h 6 7) < 8) ∧ ((0 ≤ (h 6 7) ∧ (h 6 7) < 8) ∧ ((0 ≤ (h 6 7) ∧ (h 6 7) < 8) ∧ ((0 ≤ (h 6 7) ∧ (h 6 7) < 8) ∧ ((iR ((h 6 7) + 1)) ∧ ((iR (((h 6 7) + 1) - 1)) ∧ K (((h 6 7) + 1) - 1) (sth (sth (sth (sth (sth h 39 (h 6 7) a1) 40 (h 6 7) a2) 41 (h 6 7) a3) 42 (h 6 7) a4) 6 7 ((h 6 7) + 1))))))))) ∧ (¬ (h 6 7) < 8 → K (-3) h))) :
    Ev w Y_X6_add 0 [some (vR 6), some (vI a1), some (vI a2), some (vI a3), some (vI a4)] [] h (rI K) := by
  refine e_aload_n (pc := 0) dX6_add_0 rfl rfl ?_
  refine e_getI (q := 6) (ci := 6) (k := 7) (kz := 7) (C := RX6) (T := TX6) (N := 10) (x := (h 6 7)) (pc := 1) dX6_add_1 rfl rfl rfl ev_in6 rfl ul_2_7 ⟨rfl, by decide⟩ rfl ?_
  refine e_bipush (pc := 4) dX6_add_4 ⟨by decide, by decide⟩ (by decide) ?_
  refine e_icmp_lt (pc := 6) (tgt := 12) dX6_add_6 (by decide) (fun c1 => ?_) (fun c1 => ?_)
  · have H := H.1 c1
    refine e_aload_n (pc := 12) dX6_add_12 rfl rfl ?_
    refine e_getR (q := 6) (ci := 6) (k := 2) (y := 39) (C := RX6) (T := TX6) (N := 10) (pc := 13) dX6_add_13 rfl rfl ev_in6 rfl ul_2_2 ⟨rfl, rfl⟩ rfl ?_
    refine e_aload_n (pc := 16) dX6_add_16 rfl rfl ?_
    refine e_getI (q := 6) (ci := 6) (k := 7) (kz := 7) (C := RX6) (T := TX6) (N := 10) (x := (h 6 7)) (pc := 17) dX6_add_17 rfl rfl rfl ev_in6 rfl ul_2_7 ⟨rfl, by decide⟩ rfl ?_
    refine e_iload_n (pc := 20) dX6_add_20 rfl rfl ?_
    refine e_iast (q := 39) (pc := 21) dX6_add_21 rfl H.1 ?_
    have H := H.2
    refine e_aload_n (pc := 22) dX6_add_22 rfl rfl ?_
    refine e_getR (q := 6) (ci := 6) (k := 3) (y := 40) (C := RX6) (T := TX6) (N := 10) (pc := 23) dX6_add_23 rfl rfl ev_in6 rfl ul_2_3 ⟨rfl, rfl⟩ rfl ?_
    refine e_aload_n (pc := 26) dX6_add_26 rfl rfl ?_
    refine e_getI (q := 6) (ci := 6) (k := 7) (kz := 7) (C := RX6) (T := TX6) (N := 10) (x := (h 6 7)) (pc := 27) dX6_add_27 rfl rfl rfl ev_in6 rfl ul_2_7 ⟨rfl, by decide⟩ rfl ?_
    refine e_iload_n (pc := 30) dX6_add_30 rfl rfl ?_
    refine e_iast (q := 40) (pc := 31) dX6_add_31 rfl H.1 ?_
    have H := H.2
    refine e_aload_n (pc := 32) dX6_add_32 rfl rfl ?_
    refine e_getR (q := 6) (ci := 6) (k := 4) (y := 41) (C := RX6) (T := TX6) (N := 10) (pc := 33) dX6_add_33 rfl rfl ev_in6 rfl ul_2_4 ⟨rfl, rfl⟩ rfl ?_
    refine e_aload_n (pc := 36) dX6_add_36 rfl rfl ?_
    refine e_getI (q := 6) (ci := 6) (k := 7) (kz := 7) (C := RX6) (T := TX6) (N := 10) (x := (h 6 7)) (pc := 37) dX6_add_37 rfl rfl rfl ev_in6 rfl ul_2_7 ⟨rfl, by decide⟩ rfl ?_
    refine e_iload_n (pc := 40) dX6_add_40 rfl rfl ?_
    refine e_iast (q := 41) (pc := 41) dX6_add_41 rfl H.1 ?_
    have H := H.2
    refine e_aload_n (pc := 42) dX6_add_42 rfl rfl ?_
    refine e_getR (q := 6) (ci := 6) (k := 5) (y := 42) (C := RX6) (T := TX6) (N := 10) (pc := 43) dX6_add_43 rfl rfl ev_in6 rfl ul_2_5 ⟨rfl, rfl⟩ rfl ?_
    refine e_aload_n (pc := 46) dX6_add_46 rfl rfl ?_
    refine e_getI (q := 6) (ci := 6) (k := 7) (kz := 7) (C := RX6) (T := TX6) (N := 10) (x := (h 6 7)) (pc := 47) dX6_add_47 rfl rfl rfl ev_in6 rfl ul_2_7 ⟨rfl, by decide⟩ rfl ?_
    refine e_iload (pc := 50) dX6_add_50 rfl ?_
    refine e_iast (q := 42) (pc := 52) dX6_add_52 rfl H.1 ?_
    have H := H.2
    refine e_aload_n (pc := 53) dX6_add_53 rfl rfl ?_
    refine e_dup (pc := 54) dX6_add_54 rfl ?_
    refine e_getI (q := 6) (ci := 6) (k := 7) (kz := 7) (C := RX6) (T := TX6) (N := 10) (x := (h 6 7)) (pc := 55) dX6_add_55 rfl rfl rfl ev_in6 rfl ul_2_7 ⟨rfl, by decide⟩ rfl ?_
    refine e_iconst (pc := 58) dX6_add_58 ⟨by decide, by decide⟩ ?_
    refine e_iadd (pc := 59) dX6_add_59 H.1 ?_
    have H := H.2
    refine e_put (q := 6) (ci := 6) (k := 7) (kz := 7) (C := RX6) (T := TX6) (N := 10) (ty := .int) (pc := 60) dX6_add_60 rfl rfl rfl ev_in6 tyX6 tyX6_ok nmX6 rfl ul_2_7 ⟨rfl, by decide⟩ rfl (tyX6_ok 7 (by decide)) (Or.inl rfl) ?_
    refine e_aload_n (pc := 63) dX6_add_63 rfl rfl ?_
    refine e_getI (q := 6) (ci := 6) (k := 7) (kz := 7) (C := RX6) (T := TX6) (N := 10) (x := ((h 6 7) + 1)) (pc := 64) dX6_add_64 rfl rfl rfl ev_in6 rfl ul_2_7 ⟨rfl, by decide⟩ rfl ?_
    refine e_iconst (pc := 67) dX6_add_67 ⟨by decide, by decide⟩ ?_
    refine e_isub (pc := 68) dX6_add_68 H.1 ?_
    have H := H.2
    exact e_ret (pc := 69) (v := some (vI (((h 6 7) + 1) - 1))) dX6_add_69 rfl trivial ⟨_, rfl, H⟩
  · have H := H.2 c1
    refine e_bipush (pc := 9) dX6_add_9 ⟨by decide, by decide⟩ (by decide) ?_
    exact e_ret (pc := 11) (v := some (vI (-3))) dX6_add_11 rfl trivial ⟨_, rfl, H⟩
theorem c_X6_add (w : WD) (a1 : Int) (a2 : Int) (a3 : Int) (a4 : Int) (h : HP) (K : Int → HP → Prop)  (H : S_X6_add a1 a2 a3 a4 h K) : Ev w Y_X6_add 0 [some (vR 6), some (vI a1), some (vI a2), some (vI a3), some (vI a4)] [] h (rI K) := v_X6_add w a1 a2 a3 a4 h K  H
def S_X6_clearRow  (h : HP) (K : HP → Prop) : Prop :=
  K (sth h 6 9 0)
set_option maxRecDepth 100000 in
set_option maxHeartbeats 4000000 in
theorem v_X6_clearRow (w : WD)  (h : HP) (K : HP → Prop) 
    (H : K (sth h 6 9 0)) :
    Ev w Y_X6_clearRow 0 [some (vR 6)] [] h (rV K) := by
  refine e_aload_n (pc := 0) dX6_clearRow_0 rfl rfl ?_
  refine e_iconst (pc := 1) dX6_clearRow_1 ⟨by decide, by decide⟩ ?_
  refine e_put (q := 6) (ci := 6) (k := 9) (kz := 9) (C := RX6) (T := TX6) (N := 10) (ty := .int) (pc := 2) dX6_clearRow_2 rfl rfl rfl ev_in6 tyX6 tyX6_ok nmX6 rfl ul_2_12 ⟨rfl, by decide⟩ rfl (tyX6_ok 9 (by decide)) (Or.inl rfl) ?_
  exact e_ret (pc := 5) (v := none) dX6_clearRow_5 rfl trivial ⟨rfl, H⟩
theorem c_X6_clearRow (w : WD)  (h : HP) (K : HP → Prop)  (H : S_X6_clearRow  h K) : Ev w Y_X6_clearRow 0 [some (vR 6)] [] h (rV K) := v_X6_clearRow w  h K  H
def S_X6_putInRow (a1 : Int) (h : HP) (K : HP → Prop) : Prop :=
  ((256 ≤ (h 6 9) → K h) ∧ (¬ 256 ≤ (h 6 9) → ((0 ≤ (h 6 9) ∧ (h 6 9) < 256) ∧ ((iR ((h 6 9) + 1)) ∧ K (sth (sth h 43 (h 6 9) a1) 6 9 ((h 6 9) + 1))))))
set_option maxRecDepth 100000 in
set_option maxHeartbeats 4000000 in
theorem v_X6_putInRow (w : WD) (a1 : Int) (h : HP) (K : HP → Prop) 
    (H : ((256 ≤ (h 6 9) → K h) ∧ (¬ 256 ≤ (h 6 9) → ((0 ≤ (h 6 9) ∧ (h 6 9) < 256) ∧ ((iR ((h 6 9) + 1)) ∧ K (sth (sth h 43 (h 6 9) a1) 6 9 ((h 6 9) + 1))))))) :
    Ev w Y_X6_putInRow 0 [some (vR 6), some (vI a1)] [] h (rV K) := by
  refine e_aload_n (pc := 0) dX6_putInRow_0 rfl rfl ?_
  refine e_getI (q := 6) (ci := 6) (k := 9) (kz := 9) (C := RX6) (T := TX6) (N := 10) (x := (h 6 9)) (pc := 1) dX6_putInRow_1 rfl rfl rfl ev_in6 rfl ul_2_12 ⟨rfl, by decide⟩ rfl ?_
  refine e_sipush (pc := 4) dX6_putInRow_4 ⟨by decide, by decide⟩ (by decide) ?_
  refine e_icmp_ge (pc := 7) (tgt := 30) dX6_putInRow_7 (by decide) (fun c1 => ?_) (fun c1 => ?_)
  · have H := H.1 c1
    exact e_ret (pc := 30) (v := none) dX6_putInRow_30 rfl trivial ⟨rfl, H⟩
  · have H := H.2 c1
    refine e_aload_n (pc := 10) dX6_putInRow_10 rfl rfl ?_
    refine e_getR (q := 6) (ci := 6) (k := 6) (y := 43) (C := RX6) (T := TX6) (N := 10) (pc := 11) dX6_putInRow_11 rfl rfl ev_in6 rfl ul_2_6 ⟨rfl, rfl⟩ rfl ?_
    refine e_aload_n (pc := 14) dX6_putInRow_14 rfl rfl ?_
    refine e_getI (q := 6) (ci := 6) (k := 9) (kz := 9) (C := RX6) (T := TX6) (N := 10) (x := (h 6 9)) (pc := 15) dX6_putInRow_15 rfl rfl rfl ev_in6 rfl ul_2_12 ⟨rfl, by decide⟩ rfl ?_
    refine e_iload_n (pc := 18) dX6_putInRow_18 rfl rfl ?_
    refine e_iast (q := 43) (pc := 19) dX6_putInRow_19 rfl H.1 ?_
    have H := H.2
    refine e_aload_n (pc := 20) dX6_putInRow_20 rfl rfl ?_
    refine e_dup (pc := 21) dX6_putInRow_21 rfl ?_
    refine e_getI (q := 6) (ci := 6) (k := 9) (kz := 9) (C := RX6) (T := TX6) (N := 10) (x := (h 6 9)) (pc := 22) dX6_putInRow_22 rfl rfl rfl ev_in6 rfl ul_2_12 ⟨rfl, by decide⟩ rfl ?_
    refine e_iconst (pc := 25) dX6_putInRow_25 ⟨by decide, by decide⟩ ?_
    refine e_iadd (pc := 26) dX6_putInRow_26 H.1 ?_
    have H := H.2
    refine e_put (q := 6) (ci := 6) (k := 9) (kz := 9) (C := RX6) (T := TX6) (N := 10) (ty := .int) (pc := 27) dX6_putInRow_27 rfl rfl rfl ev_in6 tyX6 tyX6_ok nmX6 rfl ul_2_12 ⟨rfl, by decide⟩ rfl (tyX6_ok 9 (by decide)) (Or.inl rfl) ?_
    exact e_ret (pc := 30) (v := none) dX6_putInRow_30 rfl trivial ⟨rfl, H⟩
theorem c_X6_putInRow (w : WD) (a1 : Int) (h : HP) (K : HP → Prop)  (H : S_X6_putInRow a1 h K) : Ev w Y_X6_putInRow 0 [some (vR 6), some (vI a1)] [] h (rV K) := v_X6_putInRow w a1 h K  H
def S_X9_stand (a1 : Int) (a2 : Int) (a3 : Int) (a4 : Int) (a5 : Int) (h : HP) (K : Int → HP → Prop) : Prop :=
  ((¬ (h 55 33) = 8 → ((iR (5 * (h 55 33))) ∧ ((0 ≤ (5 * (h 55 33)) ∧ (5 * (h 55 33)) < 40) ∧ ((iR ((5 * (h 55 33)) + 1)) ∧ ((0 ≤ ((5 * (h 55 33)) + 1) ∧ ((5 * (h 55 33)) + 1) < 40) ∧ ((iR ((5 * (h 55 33)) + 2)) ∧ ((0 ≤ ((5 * (h 55 33)) + 2) ∧ ((5 * (h 55 33)) + 2) < 40) ∧ ((iR ((5 * (h 55 33)) + 3)) ∧ ((0 ≤ ((5 * (h 55 33)) + 3) ∧ ((5 * (h 55 33)) + 3) < 40) ∧ ((iR ((5 * (h 55 33)) + 4)) ∧ ((0 ≤ ((5 * (h 55 33)) + 4) ∧ ((5 * (h 55 33)) + 4) < 40) ∧ ((iR ((h 55 33) + 1)) ∧ ((iR (((h 55 33) + 1) - 1)) ∧ K (((h 55 33) + 1) - 1) (sth (sth (sth (sth (sth (sth h 79 (5 * (h 55 33)) a1) 79 ((5 * (h 55 33)) + 1) a2) 79 ((5 * (h 55 33)) + 2) a3) 79 ((5 * (h 55 33)) + 3) a4) 79 ((5 * (h 55 33)) + 4) a5) 55 33 ((h 55 33) + 1))))))))))))))) ∧ ((h 55 33) = 8 → K (-3) h))
set_option maxRecDepth 100000 in
set_option maxHeartbeats 4000000 in
theorem v_X9_stand (w : WD) (a1 : Int) (a2 : Int) (a3 : Int) (a4 : Int) (a5 : Int) (h : HP) (K : Int → HP → Prop) 
    (H : ((¬ (h 55 33) = 8 → ((iR (5 * (h 55 33))) ∧ ((0 ≤ (5 * (h 55 33)) ∧ (5 * (h 55 33)) < 40) ∧ ((iR ((5 * (h 55 33)) + 1)) ∧ ((0 ≤ ((5 * (h 55 33)) + 1) ∧ ((5 * (h 55 33)) + 1) < 40) ∧ ((iR ((5 * (h 55 33)) + 2)) ∧ ((0 ≤ ((5 * (h 55 33)) + 2) ∧ ((5 * (h 55 33)) + 2) < 40) ∧ ((iR ((5 * (h 55 33)) + 3)) ∧ ((0 ≤ ((5 * (h 55 33)) + 3) ∧ ((5 * (h 55 33)) + 3) < 40) ∧ ((iR ((5 * (h 55 33)) + 4)) ∧ ((0 ≤ ((5 * (h 55 33)) + 4) ∧ ((5 * (h 55 33)) + 4) < 40) ∧ ((iR ((h 55 33) + 1)) ∧ ((iR (((h 55 33) + 1) - 1)) ∧ K (((h 55 33) + 1) - 1) (sth (sth (sth (sth (sth (sth h 79 (5 * (h 55 33)) a1) 79 ((5 * (h 55 33)) + 1) a2) 79 ((5 * (h 55 33)) + 2) a3) 79 ((5 * (h 55 33)) + 3) a4) 79 ((5 * (h 55 33)) + 4) a5) 55 33 ((h 55 33) + 1))))))))))))))) ∧ ((h 55 33) = 8 → K (-3) h))) :
    Ev w Y_X9_stand 0 [some (vR 55), some (vI a1), some (vI a2), some (vI a3), some (vI a4), some (vI a5), none] [] h (rI K) := by
  refine e_aload_n (pc := 0) dX9_stand_0 rfl rfl ?_
  refine e_getI (q := 55) (ci := 9) (k := 33) (kz := 33) (C := RX9) (T := TX9) (N := 52) (x := (h 55 33)) (pc := 1) dX9_stand_1 rfl rfl rfl ev_in9 rfl ul_4_215 ⟨rfl, by decide⟩ rfl ?_
  refine e_bipush (pc := 4) dX9_stand_4 ⟨by decide, by decide⟩ (by decide) ?_
  refine e_icmp_ne (pc := 6) (tgt := 12) dX9_stand_6 (by decide) (fun c1 => ?_) (fun c1 => ?_)
  · have H := H.1 c1
    refine e_iconst (pc := 12) dX9_stand_12 ⟨by decide, by decide⟩ ?_
    refine e_aload_n (pc := 13) dX9_stand_13 rfl rfl ?_
    refine e_getI (q := 55) (ci := 9) (k := 33) (kz := 33) (C := RX9) (T := TX9) (N := 52) (x := (h 55 33)) (pc := 14) dX9_stand_14 rfl rfl rfl ev_in9 rfl ul_4_215 ⟨rfl, by decide⟩ rfl ?_
    refine e_imul (pc := 17) dX9_stand_17 H.1 ?_
    have H := H.2
    refine e_istore (lv' := [some (vR 55), some (vI a1), some (vI a2), some (vI a3), some (vI a4), some (vI a5), some (vI (5 * (h 55 33)))]) (pc := 18) dX9_stand_18 rfl rfl ?_
    refine e_aload_n (pc := 20) dX9_stand_20 rfl rfl ?_
    refine e_getR (q := 55) (ci := 9) (k := 34) (y := 79) (C := RX9) (T := TX9) (N := 52) (pc := 21) dX9_stand_21 rfl rfl ev_in9 rfl ul_4_216 ⟨rfl, rfl⟩ rfl ?_
    refine e_iload (pc := 24) dX9_stand_24 rfl ?_
    refine e_iload_n (pc := 26) dX9_stand_26 rfl rfl ?_
    refine e_iast (q := 79) (pc := 27) dX9_stand_27 rfl H.1 ?_
    have H := H.2
    refine e_aload_n (pc := 28) dX9_stand_28 rfl rfl ?_
    refine e_getR (q := 55) (ci := 9) (k := 34) (y := 79) (C := RX9) (T := TX9) (N := 52) (pc := 29) dX9_stand_29 rfl rfl ev_in9 rfl ul_4_216 ⟨rfl, rfl⟩ rfl ?_
    refine e_iload (pc := 32) dX9_stand_32 rfl ?_
    refine e_iconst (pc := 34) dX9_stand_34 ⟨by decide, by decide⟩ ?_
    refine e_iadd (pc := 35) dX9_stand_35 H.1 ?_
    have H := H.2
    refine e_iload_n (pc := 36) dX9_stand_36 rfl rfl ?_
    refine e_iast (q := 79) (pc := 37) dX9_stand_37 rfl H.1 ?_
    have H := H.2
    refine e_aload_n (pc := 38) dX9_stand_38 rfl rfl ?_
    refine e_getR (q := 55) (ci := 9) (k := 34) (y := 79) (C := RX9) (T := TX9) (N := 52) (pc := 39) dX9_stand_39 rfl rfl ev_in9 rfl ul_4_216 ⟨rfl, rfl⟩ rfl ?_
    refine e_iload (pc := 42) dX9_stand_42 rfl ?_
    refine e_iconst (pc := 44) dX9_stand_44 ⟨by decide, by decide⟩ ?_
    refine e_iadd (pc := 45) dX9_stand_45 H.1 ?_
    have H := H.2
    refine e_iload_n (pc := 46) dX9_stand_46 rfl rfl ?_
    refine e_iast (q := 79) (pc := 47) dX9_stand_47 rfl H.1 ?_
    have H := H.2
    refine e_aload_n (pc := 48) dX9_stand_48 rfl rfl ?_
    refine e_getR (q := 55) (ci := 9) (k := 34) (y := 79) (C := RX9) (T := TX9) (N := 52) (pc := 49) dX9_stand_49 rfl rfl ev_in9 rfl ul_4_216 ⟨rfl, rfl⟩ rfl ?_
    refine e_iload (pc := 52) dX9_stand_52 rfl ?_
    refine e_iconst (pc := 54) dX9_stand_54 ⟨by decide, by decide⟩ ?_
    refine e_iadd (pc := 55) dX9_stand_55 H.1 ?_
    have H := H.2
    refine e_iload (pc := 56) dX9_stand_56 rfl ?_
    refine e_iast (q := 79) (pc := 58) dX9_stand_58 rfl H.1 ?_
    have H := H.2
    refine e_aload_n (pc := 59) dX9_stand_59 rfl rfl ?_
    refine e_getR (q := 55) (ci := 9) (k := 34) (y := 79) (C := RX9) (T := TX9) (N := 52) (pc := 60) dX9_stand_60 rfl rfl ev_in9 rfl ul_4_216 ⟨rfl, rfl⟩ rfl ?_
    refine e_iload (pc := 63) dX9_stand_63 rfl ?_
    refine e_iconst (pc := 65) dX9_stand_65 ⟨by decide, by decide⟩ ?_
    refine e_iadd (pc := 66) dX9_stand_66 H.1 ?_
    have H := H.2
    refine e_iload (pc := 67) dX9_stand_67 rfl ?_
    refine e_iast (q := 79) (pc := 69) dX9_stand_69 rfl H.1 ?_
    have H := H.2
    refine e_aload_n (pc := 70) dX9_stand_70 rfl rfl ?_
    refine e_dup (pc := 71) dX9_stand_71 rfl ?_
    refine e_getI (q := 55) (ci := 9) (k := 33) (kz := 33) (C := RX9) (T := TX9) (N := 52) (x := (h 55 33)) (pc := 72) dX9_stand_72 rfl rfl rfl ev_in9 rfl ul_4_215 ⟨rfl, by decide⟩ rfl ?_
    refine e_iconst (pc := 75) dX9_stand_75 ⟨by decide, by decide⟩ ?_
    refine e_iadd (pc := 76) dX9_stand_76 H.1 ?_
    have H := H.2
    refine e_put (q := 55) (ci := 9) (k := 33) (kz := 33) (C := RX9) (T := TX9) (N := 52) (ty := .int) (pc := 77) dX9_stand_77 rfl rfl rfl ev_in9 tyX9 tyX9_ok nmX9 rfl ul_4_215 ⟨rfl, by decide⟩ rfl (tyX9_ok 33 (by decide)) (Or.inl rfl) ?_
    refine e_aload_n (pc := 80) dX9_stand_80 rfl rfl ?_
    refine e_getI (q := 55) (ci := 9) (k := 33) (kz := 33) (C := RX9) (T := TX9) (N := 52) (x := ((h 55 33) + 1)) (pc := 81) dX9_stand_81 rfl rfl rfl ev_in9 rfl ul_4_215 ⟨rfl, by decide⟩ rfl ?_
    refine e_iconst (pc := 84) dX9_stand_84 ⟨by decide, by decide⟩ ?_
    refine e_isub (pc := 85) dX9_stand_85 H.1 ?_
    have H := H.2
    exact e_ret (pc := 86) (v := some (vI (((h 55 33) + 1) - 1))) dX9_stand_86 rfl trivial ⟨_, rfl, H⟩
  · have H := H.2 c1
    refine e_bipush (pc := 9) dX9_stand_9 ⟨by decide, by decide⟩ (by decide) ?_
    exact e_ret (pc := 11) (v := some (vI (-3))) dX9_stand_11 rfl trivial ⟨_, rfl, H⟩
theorem c_X9_stand (w : WD) (a1 : Int) (a2 : Int) (a3 : Int) (a4 : Int) (a5 : Int) (h : HP) (K : Int → HP → Prop)  (H : S_X9_stand a1 a2 a3 a4 a5 h K) : Ev w Y_X9_stand 0 [some (vR 55), some (vI a1), some (vI a2), some (vI a3), some (vI a4), some (vI a5), none] [] h (rI K) := v_X9_stand w a1 a2 a3 a4 a5 h K  H
def lnb (B : Int → Int) : Nat → Int
  | 0 => -1
  | k + 1 => if B (k : Int) = 0 then (k : Int) else lnb B k
set_option maxRecDepth 100000 in
set_option maxHeartbeats 4000000 in
theorem v_X0_lastNotBack (w : WD)  (h : HP) (K : Int → HP → Prop) 
    (I1 : Nat → Int → HP → Prop)
    (H : ((iR ((h 5 3) - 1)) ∧ (∃ m : Nat, I1 m ((h 5 3) - 1) h)))
    (H1 : ∀ (n1 : Nat) (x1 : Int) (g1 : HP), I1 n1 x1 g1 → ((((x1 < 0 → True) ∧ (¬ x1 < 0 → ((0 ≤ x1 ∧ x1 < 200) ∧ True)))) ∧ ((((x1 < 0) ∨ ((g1 38 x1) = 0)) → K x1 g1) ∧ (¬ ((x1 < 0) ∨ ((g1 38 x1) = 0)) → ((iR (x1 + (-1))) ∧ (∃ m : Nat, m < n1 ∧ I1 m (x1 + (-1)) g1)))))) :
    Ev w Y_X0_lastNotBack 0 [some (vR 5), none] [] h (rI K) := by
  have L1 : ∀ (n1 : Nat) (x1 : Int) (g1 : HP), I1 n1 x1 g1 → Ev w Y_X0_lastNotBack 7 [some (vR 5), some (vI x1)] [] g1 (rI K) := by
    intro n1
    induction n1 using Nat.strongRecOn with
    | ind n1 ih1 =>
      intro x1 g1 H
      have H := H1 n1 x1 g1 H
      refine e_iload_n (pc := 7) dX0_lastNotBack_7 rfl rfl ?_
      have Ho := H.1
      have H := H.2
      have J1 : ((x1 < 0) ∨ ((g1 38 x1) = 0)) → Ev w Y_X0_lastNotBack 26 [some (vR 5), some (vI x1)] [] g1 (rI K) := by
        intro hp
        have H := H.1 hp
        refine e_iload_n (pc := 26) dX0_lastNotBack_26 rfl rfl ?_
        exact e_ret (pc := 27) (v := some (vI x1)) dX0_lastNotBack_27 rfl trivial ⟨_, rfl, H⟩
      have J2 : ¬ ((x1 < 0) ∨ ((g1 38 x1) = 0)) → Ev w Y_X0_lastNotBack 20 [some (vR 5), some (vI x1)] [] g1 (rI K) := by
        intro hp
        have H := H.2 hp
        refine e_iinc (lv' := [some (vR 5), some (vI (x1 + (-1)))]) (pc := 20) dX0_lastNotBack_20 rfl H.1 rfl rfl ?_
        have H := H.2
        refine e_goto (pc := 23) (tgt := 7) dX0_lastNotBack_23 (by decide) ?_
        obtain ⟨m, hm, H⟩ := H
        exact ih1 m hm _ _ H
      refine e_if_lt (pc := 8) (tgt := 26) dX0_lastNotBack_8 (by decide) (fun c1 => ?_) (fun c1 => ?_)
      · have Ho := Ho.1 c1
        exact J1 (Or.inl c1)
      · have Ho := Ho.2 c1
        refine e_aload_n (pc := 11) dX0_lastNotBack_11 rfl rfl ?_
        refine e_getR (q := 5) (ci := 0) (k := 2) (y := 38) (C := RX0) (T := TX0) (N := 5) (pc := 12) dX0_lastNotBack_12 rfl rfl ev_in0 rfl ul_1_217 ⟨rfl, rfl⟩ rfl ?_
        refine e_iload_n (pc := 15) dX0_lastNotBack_15 rfl rfl ?_
        refine e_zald (q := 38) (x := (g1 38 x1)) (pc := 16) dX0_lastNotBack_16 rfl Ho.1 rfl ?_
        have Ho := Ho.2
        refine e_if_eq (pc := 17) (tgt := 26) dX0_lastNotBack_17 (by decide) (fun c2 => ?_) (fun c2 => ?_)
        · exact J1 (Or.inr c2)
        · exact J2 (fun z => z.elim c1 c2)
  refine e_aload_n (pc := 0) dX0_lastNotBack_0 rfl rfl ?_
  refine e_getI (q := 5) (ci := 0) (k := 3) (kz := 3) (C := RX0) (T := TX0) (N := 5) (x := (h 5 3)) (pc := 1) dX0_lastNotBack_1 rfl rfl rfl ev_in0 rfl ul_1_219 ⟨rfl, by decide⟩ rfl ?_
  refine e_iconst (pc := 4) dX0_lastNotBack_4 ⟨by decide, by decide⟩ ?_
  refine e_isub (pc := 5) dX0_lastNotBack_5 H.1 ?_
  have H := H.2
  refine e_istore_n (lv' := [some (vR 5), some (vI ((h 5 3) - 1))]) (pc := 6) dX0_lastNotBack_6 rfl rfl rfl ?_
  obtain ⟨m, H⟩ := H
  exact L1 m _ _ H
set_option maxRecDepth 100000 in
set_option maxHeartbeats 4000000 in
theorem c_X0_lastNotBack (w : WD)  (h : HP) (H : 0 ≤ h 5 3 ∧ h 5 3 ≤ 200) : Ev w Y_X0_lastNotBack 0 [some (vR 5), none] [] h (rI (fun r h' => r = (lnb (h 38) (h 5 3).toNat) ∧ h' = h)) := by
  refine v_X0_lastNotBack w h _ (fun n x1 g => g = h ∧ ∃ k : Nat, x1 = (k : Int) - 1 ∧ k = n ∧ (k : Int) ≤ h 5 3 ∧ lnb (h 38) (h 5 3).toNat = lnb (h 38) k) ⟨⟨by omega, by omega⟩, (h 5 3).toNat, rfl, (h 5 3).toNat, by omega, rfl, by omega, rfl⟩ ?_
  rintro n x1 g ⟨rfl, k, rfl, rfl, hk, he⟩
  refine ⟨⟨fun _ => trivial, fun _ => ⟨by omega, trivial⟩⟩, fun z => ⟨?_, rfl⟩, fun z => ⟨⟨by omega, by omega⟩, k - 1, by omega, rfl, k - 1, by omega, rfl, by omega, ?_⟩⟩
  · rw [he]
    cases k with
    | zero => rfl
    | succ k =>
      simp only [lnb]
      rw [show ((k + 1 : Nat) : Int) - 1 = (k : Int) by omega] at z ⊢
      rcases z with z | z
      · omega
      · rw [if_pos z]
  · rw [he]
    obtain ⟨j, rfl⟩ : ∃ j, k = j + 1 := ⟨k - 1, by omega⟩
    rw [show ((j + 1 : Nat) : Int) - 1 = (j : Int) by omega] at z
    simp only [lnb, Nat.add_sub_cancel]
    rw [if_neg (fun y => z (Or.inr y))]
noncomputable def wkP (p : Int → Prop) : Nat → List Int
  | 0 => []
  | k + 1 => @ite _ (p (k : Int)) (Classical.propDecidable _) (wkP p k ++ [(k : Int)]) (wkP p k)
theorem wkP_t {p : Int → Prop} {k : Nat} (h : p (k : Int)) : wkP p (k + 1) = wkP p k ++ [(k : Int)] := if_pos h
theorem wkP_f {p : Int → Prop} {k : Nat} (h : ¬ p (k : Int)) : wkP p (k + 1) = wkP p k := if_neg h
theorem wkP_l (p : Int → Prop) : ∀ k : Nat, (wkP p k).length ≤ k
  | 0 => Nat.le_refl 0
  | k + 1 => by
    have := wkP_l p k
    by_cases c : p (k : Int)
    · rw [wkP_t c, List.length_append, List.length_singleton]; omega
    · rw [wkP_f c]; omega
theorem wkP_m (p : Int → Prop) : ∀ (k : Nat) (s : Int), s ∈ wkP p k → (0 ≤ s ∧ s < (k : Int)) ∧ p s
  | 0, s, h => absurd h (by simp [wkP])
  | k + 1, s, h => by
    by_cases c : p (k : Int)
    · rw [wkP_t c, List.mem_append, List.mem_singleton] at h
      rcases h with h | h
      · have := wkP_m p k s h; exact ⟨by omega, this.2⟩
      · subst h; exact ⟨by omega, c⟩
    · rw [wkP_f c] at h
      have := wkP_m p k s h; exact ⟨by omega, this.2⟩
theorem wkP_c {p q : Int → Prop} : ∀ {k : Nat}, (∀ i : Int, 0 ≤ i → i < (k : Int) → (p i ↔ q i)) → wkP p k = wkP q k
  | 0, _ => rfl
  | k + 1, h => by
    have ih := wkP_c (k := k) (fun i a b => h i a (by omega))
    have hk := h (k : Int) (by omega) (by omega)
    by_cases c : p (k : Int)
    · rw [wkP_t c, wkP_t (hk.mp c), ih]
    · rw [wkP_f c, wkP_f (fun z => c (hk.mpr z)), ih]
/-- a row of the heap -/
def rwH (g : Int → Int) (L : List Int) : Prop := ∀ i : Nat, i < L.length → g (i : Int) = L.getD i 0
theorem rwH_a {g : Int → Int} {L : List Int} {s : Int} (h : rwH g L) : rwH (us g (L.length : Int) s) (L ++ [s]) := fun i hi => by
  rw [List.length_append, List.length_singleton] at hi
  by_cases e : i = L.length
  · subst e
    rw [us_s, List.getD_eq_getElem?_getD, List.getElem?_append_right (Nat.le_refl _), Nat.sub_self]
    rfl
  · rw [us_n (by omega), h i (by omega), List.getD_eq_getElem?_getD, List.getD_eq_getElem?_getD, List.getElem?_append_left (by omega)]
def S_X6_rouse (t v : Int) (h : HP) (K : HP → Prop) : Prop := ∃ L : List Int, ((0 ≤ h 6 7 ∧ h 6 7 ≤ 8) ∧ h 6 9 = (L.length : Int) ∧ rwH (h 43) L ∧ L.length + 8 ≤ 256) ∧ ∀ h' : HP, (∀ q, q ≠ 43 → q ≠ 6 → h' q = h q) → (∀ i : Int, i ≠ 9 → h' 6 i = h 6 i) → h' 6 9 = ((L ++ wkP (fun s => h 39 s = t ∧ h 40 s = v) (h 6 7).toNat).length : Int) → rwH (h' 43) (L ++ wkP (fun s => h 39 s = t ∧ h 40 s = v) (h 6 7).toNat) → K h'
set_option maxRecDepth 100000 in
set_option maxHeartbeats 4000000 in
theorem v_X6_rouse (w : WD) (t : Int) (v : Int) (h : HP) (K : HP → Prop) 
    (I1 : Nat → Int → HP → Prop)
    (H : (∃ m : Nat, I1 m 0 h))
    (H1 : ∀ (n1 : Nat) (x3 : Int) (g1 : HP), I1 n1 x3 g1 → (((g1 6 7) ≤ x3 → K g1) ∧ (¬ (g1 6 7) ≤ x3 → ((0 ≤ x3 ∧ x3 < 8) ∧ ((((¬ (g1 39 x3) = t → True) ∧ ((g1 39 x3) = t → ((0 ≤ x3 ∧ x3 < 8) ∧ True)))) ∧ (((((g1 39 x3) = t) ∧ ((g1 40 x3) = v)) → (S_X6_putInRow x3 g1 (fun h21 => ((iR (x3 + 1)) ∧ (∃ m : Nat, m < n1 ∧ I1 m (x3 + 1) h21))))) ∧ (¬ (((g1 39 x3) = t) ∧ ((g1 40 x3) = v)) → ((iR (x3 + 1)) ∧ (∃ m : Nat, m < n1 ∧ I1 m (x3 + 1) g1))))))))) :
    Ev w Y_X6_rouse 0 [some (vR 6), some (vI t), some (vI v), none] [] h (rV K) := by
  have L1 : ∀ (n1 : Nat) (x3 : Int) (g1 : HP), I1 n1 x3 g1 → Ev w Y_X6_rouse 2 [some (vR 6), some (vI t), some (vI v), some (vI x3)] [] g1 (rV K) := by
    intro n1
    induction n1 using Nat.strongRecOn with
    | ind n1 ih1 =>
      intro x3 g1 H
      have H := H1 n1 x3 g1 H
      refine e_iload_n (pc := 2) dX6_rouse_2 rfl rfl ?_
      refine e_aload_n (pc := 3) dX6_rouse_3 rfl rfl ?_
      refine e_getI (q := 6) (ci := 6) (k := 7) (kz := 7) (C := RX6) (T := TX6) (N := 10) (x := (g1 6 7)) (pc := 4) dX6_rouse_4 rfl rfl rfl ev_in6 rfl ul_2_7 ⟨rfl, by decide⟩ rfl ?_
      refine e_icmp_ge (pc := 7) (tgt := 41) dX6_rouse_7 (by decide) (fun c1 => ?_) (fun c1 => ?_)
      · have H := H.1 c1
        exact e_ret (pc := 41) (v := none) dX6_rouse_41 rfl trivial ⟨rfl, H⟩
      · have H := H.2 c1
        refine e_aload_n (pc := 10) dX6_rouse_10 rfl rfl ?_
        refine e_getR (q := 6) (ci := 6) (k := 2) (y := 39) (C := RX6) (T := TX6) (N := 10) (pc := 11) dX6_rouse_11 rfl rfl ev_in6 rfl ul_2_2 ⟨rfl, rfl⟩ rfl ?_
        refine e_iload_n (pc := 14) dX6_rouse_14 rfl rfl ?_
        refine e_iald (q := 39) (x := (g1 39 x3)) (pc := 15) dX6_rouse_15 rfl H.1 rfl ?_
        have H := H.2
        refine e_iload_n (pc := 16) dX6_rouse_16 rfl rfl ?_
        have Ho := H.1
        have H := H.2
        have J1 : (((g1 39 x3) = t) ∧ ((g1 40 x3) = v)) → Ev w Y_X6_rouse 30 [some (vR 6), some (vI t), some (vI v), some (vI x3)] [] g1 (rV K) := by
          intro hp
          have H := H.1 hp
          refine e_aload_n (pc := 30) dX6_rouse_30 rfl rfl ?_
          refine e_iload_n (pc := 31) dX6_rouse_31 rfl rfl ?_
          refine e_invV (pc := 32) (Y' := Y_X6_putInRow) (as := [vI x3]) (st := []) (lv0 := [some (vR 6), some (vI x3)]) (q := 6) (ci := 6) (T := TX6) (N := 10) dX6_rouse_32 m_X6_putInRow ul_4_10 ⟨ul_4_12, us_X6_putInRow⟩ ⟨rfl, rfl⟩ rfl rfl rfl rfl rfl rfl rfl (c_X6_putInRow w x3 g1 _ H) ?_
          rintro _ h21 ⟨rfl, H⟩
          show Ev w Y_X6_rouse 35 [some (vR 6), some (vI t), some (vI v), some (vI x3)] [] h21 (rV K)
          refine e_iinc (lv' := [some (vR 6), some (vI t), some (vI v), some (vI (x3 + 1))]) (pc := 35) dX6_rouse_35 rfl H.1 rfl rfl ?_
          have H := H.2
          refine e_goto (pc := 38) (tgt := 2) dX6_rouse_38 (by decide) ?_
          obtain ⟨m, hm, H⟩ := H
          exact ih1 m hm _ _ H
        have J2 : ¬ (((g1 39 x3) = t) ∧ ((g1 40 x3) = v)) → Ev w Y_X6_rouse 35 [some (vR 6), some (vI t), some (vI v), some (vI x3)] [] g1 (rV K) := by
          intro hp
          have H := H.2 hp
          refine e_iinc (lv' := [some (vR 6), some (vI t), some (vI v), some (vI (x3 + 1))]) (pc := 35) dX6_rouse_35 rfl H.1 rfl rfl ?_
          have H := H.2
          refine e_goto (pc := 38) (tgt := 2) dX6_rouse_38 (by decide) ?_
          obtain ⟨m, hm, H⟩ := H
          exact ih1 m hm _ _ H
        refine e_icmp_ne (pc := 17) (tgt := 35) dX6_rouse_17 (by decide) (fun c2 => ?_) (fun c2 => ?_)
        · have Ho := Ho.1 c2
          exact J2 (fun z => c2 z.1)
        · have Ho := Ho.2 c2
          refine e_aload_n (pc := 20) dX6_rouse_20 rfl rfl ?_
          refine e_getR (q := 6) (ci := 6) (k := 3) (y := 40) (C := RX6) (T := TX6) (N := 10) (pc := 21) dX6_rouse_21 rfl rfl ev_in6 rfl ul_2_3 ⟨rfl, rfl⟩ rfl ?_
          refine e_iload_n (pc := 24) dX6_rouse_24 rfl rfl ?_
          refine e_iald (q := 40) (x := (g1 40 x3)) (pc := 25) dX6_rouse_25 rfl Ho.1 rfl ?_
          have Ho := Ho.2
          refine e_iload_n (pc := 26) dX6_rouse_26 rfl rfl ?_
          refine e_icmp_ne (pc := 27) (tgt := 35) dX6_rouse_27 (by decide) (fun c3 => ?_) (fun c3 => ?_)
          · exact J2 (fun z => c3 z.2)
          · exact J1 ⟨c2, c3⟩
  refine e_iconst (pc := 0) dX6_rouse_0 ⟨by decide, by decide⟩ ?_
  refine e_istore_n (lv' := [some (vR 6), some (vI t), some (vI v), some (vI 0)]) (pc := 1) dX6_rouse_1 rfl rfl rfl ?_
  obtain ⟨m, H⟩ := H
  exact L1 m _ _ H
set_option maxRecDepth 100000 in
set_option maxHeartbeats 4000000 in
theorem c_X6_rouse (w : WD) (t : Int) (v : Int) (h : HP) (K : HP → Prop)  (H : S_X6_rouse t v h K) : Ev w Y_X6_rouse 0 [some (vR 6), some (vI t), some (vI v), none] [] h (rV K) := by
  obtain ⟨L, ⟨h8, hl, hr, hL⟩, HK⟩ := H
  refine v_X6_rouse w t v h K (fun n x3 g => ∃ k : Nat, x3 = (k : Int) ∧ (k : Int) ≤ h 6 7 ∧ n = (8 - x3).toNat ∧ (∀ q, q ≠ 43 → q ≠ 6 → g q = h q) ∧ (∀ i : Int, i ≠ 9 → g 6 i = h 6 i) ∧ g 6 9 = ((L ++ wkP (fun s => h 39 s = t ∧ h 40 s = v) k).length : Int) ∧ rwH (g 43) (L ++ wkP (fun s => h 39 s = t ∧ h 40 s = v) k)) ⟨8, 0, rfl, by omega, rfl, fun _ _ _ => rfl, fun _ _ => rfl, by rw [hl]; simp [wkP], by simpa [wkP] using hr⟩ ?_
  rintro n x3 g ⟨k, rfl, hk, rfl, hg, h6, h9, h43⟩
  have g39 : g 39 = h 39 := hg _ (by decide) (by decide)
  have g40 : g 40 = h 40 := hg _ (by decide) (by decide)
  have hlen := wkP_l (fun s => h 39 s = t ∧ h 40 s = v) k
  have ha := List.length_append (as := L) (bs := wkP (fun s => h 39 s = t ∧ h 40 s = v) k)
  rw [h6 7 (by decide), g39, g40]
  refine ⟨fun c => ?_, fun c => ⟨by omega, ⟨fun _ => trivial, fun _ => ⟨by omega, trivial⟩⟩, fun z => ⟨fun y => ?_, fun y => ⟨by omega, ⟨by omega, by omega⟩, ⟨by omega, by omega⟩, (8 - ((k + 1 : Nat) : Int)).toNat, by omega, k + 1, by omega, by omega, by omega, fun q a b => by rw [sth_ne b, sth_ne a]; exact hg q a b, fun i a => by rw [sth_eq, us_n a, sth_ne (by decide)]; exact h6 i a, ?_, ?_⟩⟩, fun z => ⟨⟨by omega, by omega⟩, (8 - ((k + 1 : Nat) : Int)).toNat, by omega, k + 1, by omega, by omega, by omega, hg, h6, by rw [wkP_f z]; exact h9, by rw [wkP_f z]; exact h43⟩⟩⟩
  · rw [show k = (h 6 7).toNat by omega] at h9 h43
    exact HK g hg h6 h9 h43
  · omega
  · rw [sth_eq, us_s, wkP_t z, ← List.append_assoc, List.length_append, List.length_singleton]
    omega
  · rw [sth_ne (by decide), sth_eq, wkP_t z, ← List.append_assoc, h9]
    exact rwH_a h43
def mwk (h : HP) (t s : Int) : Prop := h 79 (5 * s) = 1 ∧ h 79 (5 * s + 1) = t ∧ h 79 (5 * s + 2) = h 60 t
def S_X9_wakeBy (t : Int) (h : HP) (K : HP → Prop) : Prop := ∃ L : List Int, ((0 ≤ h 55 33 ∧ h 55 33 ≤ 8) ∧ (0 ≤ t ∧ t < 10) ∧ h 55 47 = (L.length : Int) ∧ rwH (h 86) L ∧ L.length + 8 ≤ 400) ∧ ∀ h' : HP, (∀ q, q ≠ 86 → q ≠ 55 → h' q = h q) → (∀ i : Int, i ≠ 47 → h' 55 i = h 55 i) → h' 55 47 = ((L ++ wkP (mwk h t) (h 55 33).toNat).length : Int) → rwH (h' 86) (L ++ wkP (mwk h t) (h 55 33).toNat) → K h'
set_option maxRecDepth 100000 in
set_option maxHeartbeats 4000000 in
theorem v_X9_wakeBy (w : WD) (t : Int) (h : HP) (K : HP → Prop) 
    (I1 : Nat → Int → HP → Prop)
    (H : (∃ m : Nat, I1 m 0 h))
    (H1 : ∀ (n1 : Nat) (x2 : Int) (g1 : HP), I1 n1 x2 g1 → (((g1 55 33) ≤ x2 → K g1) ∧ (¬ (g1 55 33) ≤ x2 → ((iR (5 * x2)) ∧ ((0 ≤ (5 * x2) ∧ (5 * x2) < 40) ∧ ((((¬ (g1 79 (5 * x2)) = 1 → True) ∧ ((g1 79 (5 * x2)) = 1 → ((iR (5 * x2)) ∧ ((iR ((5 * x2) + 1)) ∧ ((0 ≤ ((5 * x2) + 1) ∧ ((5 * x2) + 1) < 40) ∧ ((¬ (g1 79 ((5 * x2) + 1)) = t → True) ∧ ((g1 79 ((5 * x2) + 1)) = t → ((iR (5 * x2)) ∧ ((iR ((5 * x2) + 2)) ∧ ((0 ≤ ((5 * x2) + 2) ∧ ((5 * x2) + 2) < 40) ∧ ((0 ≤ t ∧ t < 10) ∧ True)))))))))))) ∧ (((((g1 79 (5 * x2)) = 1) ∧ (((g1 79 ((5 * x2) + 1)) = t) ∧ (((g1 79 ((5 * x2) + 2)) = (g1 60 t)) ∧ (¬ 400 ≤ (g1 55 47))))) → ((0 ≤ (g1 55 47) ∧ (g1 55 47) < 400) ∧ ((iR ((g1 55 47) + 1)) ∧ ((iR (x2 + 1)) ∧ (∃ m : Nat, m < n1 ∧ I1 m (x2 + 1) (sth (sth g1 86 (g1 55 47) x2) 55 47 ((g1 55 47) + 1))))))) ∧ (¬ (((g1 79 (5 * x2)) = 1) ∧ (((g1 79 ((5 * x2) + 1)) = t) ∧ (((g1 79 ((5 * x2) + 2)) = (g1 60 t)) ∧ (¬ 400 ≤ (g1 55 47))))) → ((iR (x2 + 1)) ∧ (∃ m : Nat, m < n1 ∧ I1 m (x2 + 1) g1)))))))))) :
    Ev w Y_X9_wakeBy 0 [some (vR 55), some (vI t), none] [] h (rV K) := by
  have L1 : ∀ (n1 : Nat) (x2 : Int) (g1 : HP), I1 n1 x2 g1 → Ev w Y_X9_wakeBy 2 [some (vR 55), some (vI t), some (vI x2)] [] g1 (rV K) := by
    intro n1
    induction n1 using Nat.strongRecOn with
    | ind n1 ih1 =>
      intro x2 g1 H
      have H := H1 n1 x2 g1 H
      refine e_iload_n (pc := 2) dX9_wakeBy_2 rfl rfl ?_
      refine e_aload_n (pc := 3) dX9_wakeBy_3 rfl rfl ?_
      refine e_getI (q := 55) (ci := 9) (k := 33) (kz := 33) (C := RX9) (T := TX9) (N := 52) (x := (g1 55 33)) (pc := 4) dX9_wakeBy_4 rfl rfl rfl ev_in9 rfl ul_4_215 ⟨rfl, by decide⟩ rfl ?_
      refine e_icmp_ge (pc := 7) (tgt := 91) dX9_wakeBy_7 (by decide) (fun c1 => ?_) (fun c1 => ?_)
      · have H := H.1 c1
        exact e_ret (pc := 91) (v := none) dX9_wakeBy_91 rfl trivial ⟨rfl, H⟩
      · have H := H.2 c1
        refine e_aload_n (pc := 10) dX9_wakeBy_10 rfl rfl ?_
        refine e_getR (q := 55) (ci := 9) (k := 34) (y := 79) (C := RX9) (T := TX9) (N := 52) (pc := 11) dX9_wakeBy_11 rfl rfl ev_in9 rfl ul_4_216 ⟨rfl, rfl⟩ rfl ?_
        refine e_iconst (pc := 14) dX9_wakeBy_14 ⟨by decide, by decide⟩ ?_
        refine e_iload_n (pc := 15) dX9_wakeBy_15 rfl rfl ?_
        refine e_imul (pc := 16) dX9_wakeBy_16 H.1 ?_
        have H := H.2
        refine e_iald (q := 79) (x := (g1 79 (5 * x2))) (pc := 17) dX9_wakeBy_17 rfl H.1 rfl ?_
        have H := H.2
        refine e_iconst (pc := 18) dX9_wakeBy_18 ⟨by decide, by decide⟩ ?_
        have Ho := H.1
        have H := H.2
        have J1 : (((g1 79 (5 * x2)) = 1) ∧ (((g1 79 ((5 * x2) + 1)) = t) ∧ (((g1 79 ((5 * x2) + 2)) = (g1 60 t)) ∧ (¬ 400 ≤ (g1 55 47))))) → Ev w Y_X9_wakeBy 65 [some (vR 55), some (vI t), some (vI x2)] [] g1 (rV K) := by
          intro hp
          have H := H.1 hp
          refine e_aload_n (pc := 65) dX9_wakeBy_65 rfl rfl ?_
          refine e_getR (q := 55) (ci := 9) (k := 48) (y := 86) (C := RX9) (T := TX9) (N := 52) (pc := 66) dX9_wakeBy_66 rfl rfl ev_in9 rfl ul_4_230 ⟨rfl, rfl⟩ rfl ?_
          refine e_aload_n (pc := 69) dX9_wakeBy_69 rfl rfl ?_
          refine e_getI (q := 55) (ci := 9) (k := 47) (kz := 47) (C := RX9) (T := TX9) (N := 52) (x := (g1 55 47)) (pc := 70) dX9_wakeBy_70 rfl rfl rfl ev_in9 rfl ul_4_229 ⟨rfl, by decide⟩ rfl ?_
          refine e_iload_n (pc := 73) dX9_wakeBy_73 rfl rfl ?_
          refine e_iast (q := 86) (pc := 74) dX9_wakeBy_74 rfl H.1 ?_
          have H := H.2
          refine e_aload_n (pc := 75) dX9_wakeBy_75 rfl rfl ?_
          refine e_dup (pc := 76) dX9_wakeBy_76 rfl ?_
          refine e_getI (q := 55) (ci := 9) (k := 47) (kz := 47) (C := RX9) (T := TX9) (N := 52) (x := (g1 55 47)) (pc := 77) dX9_wakeBy_77 rfl rfl rfl ev_in9 rfl ul_4_229 ⟨rfl, by decide⟩ rfl ?_
          refine e_iconst (pc := 80) dX9_wakeBy_80 ⟨by decide, by decide⟩ ?_
          refine e_iadd (pc := 81) dX9_wakeBy_81 H.1 ?_
          have H := H.2
          refine e_put (q := 55) (ci := 9) (k := 47) (kz := 47) (C := RX9) (T := TX9) (N := 52) (ty := .int) (pc := 82) dX9_wakeBy_82 rfl rfl rfl ev_in9 tyX9 tyX9_ok nmX9 rfl ul_4_229 ⟨rfl, by decide⟩ rfl (tyX9_ok 47 (by decide)) (Or.inl rfl) ?_
          refine e_iinc (lv' := [some (vR 55), some (vI t), some (vI (x2 + 1))]) (pc := 85) dX9_wakeBy_85 rfl H.1 rfl rfl ?_
          have H := H.2
          refine e_goto (pc := 88) (tgt := 2) dX9_wakeBy_88 (by decide) ?_
          obtain ⟨m, hm, H⟩ := H
          exact ih1 m hm _ _ H
        have J2 : ¬ (((g1 79 (5 * x2)) = 1) ∧ (((g1 79 ((5 * x2) + 1)) = t) ∧ (((g1 79 ((5 * x2) + 2)) = (g1 60 t)) ∧ (¬ 400 ≤ (g1 55 47))))) → Ev w Y_X9_wakeBy 85 [some (vR 55), some (vI t), some (vI x2)] [] g1 (rV K) := by
          intro hp
          have H := H.2 hp
          refine e_iinc (lv' := [some (vR 55), some (vI t), some (vI (x2 + 1))]) (pc := 85) dX9_wakeBy_85 rfl H.1 rfl rfl ?_
          have H := H.2
          refine e_goto (pc := 88) (tgt := 2) dX9_wakeBy_88 (by decide) ?_
          obtain ⟨m, hm, H⟩ := H
          exact ih1 m hm _ _ H
        refine e_icmp_ne (pc := 19) (tgt := 85) dX9_wakeBy_19 (by decide) (fun c2 => ?_) (fun c2 => ?_)
        · have Ho := Ho.1 c2
          exact J2 (fun z => c2 z.1)
        · have Ho := Ho.2 c2
          refine e_aload_n (pc := 22) dX9_wakeBy_22 rfl rfl ?_
          refine e_getR (q := 55) (ci := 9) (k := 34) (y := 79) (C := RX9) (T := TX9) (N := 52) (pc := 23) dX9_wakeBy_23 rfl rfl ev_in9 rfl ul_4_216 ⟨rfl, rfl⟩ rfl ?_
          refine e_iconst (pc := 26) dX9_wakeBy_26 ⟨by decide, by decide⟩ ?_
          refine e_iload_n (pc := 27) dX9_wakeBy_27 rfl rfl ?_
          refine e_imul (pc := 28) dX9_wakeBy_28 Ho.1 ?_
          have Ho := Ho.2
          refine e_iconst (pc := 29) dX9_wakeBy_29 ⟨by decide, by decide⟩ ?_
          refine e_iadd (pc := 30) dX9_wakeBy_30 Ho.1 ?_
          have Ho := Ho.2
          refine e_iald (q := 79) (x := (g1 79 ((5 * x2) + 1))) (pc := 31) dX9_wakeBy_31 rfl Ho.1 rfl ?_
          have Ho := Ho.2
          refine e_iload_n (pc := 32) dX9_wakeBy_32 rfl rfl ?_
          refine e_icmp_ne (pc := 33) (tgt := 85) dX9_wakeBy_33 (by decide) (fun c3 => ?_) (fun c3 => ?_)
          · have Ho := Ho.1 c3
            exact J2 (fun z => (fun z => c3 z.1) z.2)
          · have Ho := Ho.2 c3
            refine e_aload_n (pc := 36) dX9_wakeBy_36 rfl rfl ?_
            refine e_getR (q := 55) (ci := 9) (k := 34) (y := 79) (C := RX9) (T := TX9) (N := 52) (pc := 37) dX9_wakeBy_37 rfl rfl ev_in9 rfl ul_4_216 ⟨rfl, rfl⟩ rfl ?_
            refine e_iconst (pc := 40) dX9_wakeBy_40 ⟨by decide, by decide⟩ ?_
            refine e_iload_n (pc := 41) dX9_wakeBy_41 rfl rfl ?_
            refine e_imul (pc := 42) dX9_wakeBy_42 Ho.1 ?_
            have Ho := Ho.2
            refine e_iconst (pc := 43) dX9_wakeBy_43 ⟨by decide, by decide⟩ ?_
            refine e_iadd (pc := 44) dX9_wakeBy_44 Ho.1 ?_
            have Ho := Ho.2
            refine e_iald (q := 79) (x := (g1 79 ((5 * x2) + 2))) (pc := 45) dX9_wakeBy_45 rfl Ho.1 rfl ?_
            have Ho := Ho.2
            refine e_aload_n (pc := 46) dX9_wakeBy_46 rfl rfl ?_
            refine e_getR (q := 55) (ci := 9) (k := 5) (y := 60) (C := RX9) (T := TX9) (N := 52) (pc := 47) dX9_wakeBy_47 rfl rfl ev_in9 rfl ul_4_187 ⟨rfl, rfl⟩ rfl ?_
            refine e_iload_n (pc := 50) dX9_wakeBy_50 rfl rfl ?_
            refine e_iald (q := 60) (x := (g1 60 t)) (pc := 51) dX9_wakeBy_51 rfl Ho.1 rfl ?_
            have Ho := Ho.2
            refine e_icmp_ne (pc := 52) (tgt := 85) dX9_wakeBy_52 (by decide) (fun c4 => ?_) (fun c4 => ?_)
            · exact J2 (fun z => (fun z => (fun z => c4 z.1) z.2) z.2)
            · refine e_aload_n (pc := 55) dX9_wakeBy_55 rfl rfl ?_
              refine e_getI (q := 55) (ci := 9) (k := 47) (kz := 47) (C := RX9) (T := TX9) (N := 52) (x := (g1 55 47)) (pc := 56) dX9_wakeBy_56 rfl rfl rfl ev_in9 rfl ul_4_229 ⟨rfl, by decide⟩ rfl ?_
              refine e_sipush (pc := 59) dX9_wakeBy_59 ⟨by decide, by decide⟩ (by decide) ?_
              refine e_icmp_ge (pc := 62) (tgt := 85) dX9_wakeBy_62 (by decide) (fun c5 => ?_) (fun c5 => ?_)
              · exact J2 (fun z => (fun z => (fun z => (fun z => z c5) z.2) z.2) z.2)
              · exact J1 ⟨c2, ⟨c3, ⟨c4, c5⟩⟩⟩
  refine e_iconst (pc := 0) dX9_wakeBy_0 ⟨by decide, by decide⟩ ?_
  refine e_istore_n (lv' := [some (vR 55), some (vI t), some (vI 0)]) (pc := 1) dX9_wakeBy_1 rfl rfl rfl ?_
  obtain ⟨m, H⟩ := H
  exact L1 m _ _ H
set_option maxRecDepth 100000 in
set_option maxHeartbeats 4000000 in
theorem c_X9_wakeBy (w : WD) (t : Int) (h : HP) (K : HP → Prop)  (H : S_X9_wakeBy t h K) : Ev w Y_X9_wakeBy 0 [some (vR 55), some (vI t), none] [] h (rV K) := by
  obtain ⟨L, ⟨h8, ht, hl, hr, hL⟩, HK⟩ := H
  refine v_X9_wakeBy w t h K (fun n x2 g => ∃ k : Nat, x2 = (k : Int) ∧ (k : Int) ≤ h 55 33 ∧ n = (8 - x2).toNat ∧ (∀ q, q ≠ 86 → q ≠ 55 → g q = h q) ∧ (∀ i : Int, i ≠ 47 → g 55 i = h 55 i) ∧ g 55 47 = ((L ++ wkP (mwk h t) k).length : Int) ∧ rwH (g 86) (L ++ wkP (mwk h t) k)) ⟨8, 0, rfl, by omega, rfl, fun _ _ _ => rfl, fun _ _ => rfl, by rw [hl]; simp [wkP], by simpa [wkP] using hr⟩ ?_
  rintro n x2 g ⟨k, rfl, hk, rfl, hg, h6, h9, h43⟩
  have g79 : g 79 = h 79 := hg _ (by decide) (by decide)
  have g60 : g 60 = h 60 := hg _ (by decide) (by decide)
  have hlen := wkP_l (mwk h t) k
  have ha := List.length_append (as := L) (bs := wkP (mwk h t) k)
  rw [h6 33 (by decide), g79, g60]
  refine ⟨fun c => ?_, fun c => ⟨⟨by omega, by omega⟩, by omega, ⟨fun _ => trivial, fun _ => ⟨⟨by omega, by omega⟩, ⟨by omega, by omega⟩, by omega, fun _ => trivial, fun _ => ⟨⟨by omega, by omega⟩, ⟨by omega, by omega⟩, by omega, ht, trivial⟩⟩⟩, fun z => ?_, fun z => ?_⟩⟩
  · rw [show k = (h 55 33).toNat by omega] at h9 h43
    exact HK g hg h6 h9 h43
  · have zz : mwk h t (k : Int) := ⟨z.1, z.2.1, z.2.2.1⟩
    refine ⟨by omega, ⟨by omega, by omega⟩, ⟨by omega, by omega⟩, (8 - ((k + 1 : Nat) : Int)).toNat, by omega, k + 1, by omega, by omega, by omega, fun q a b => by rw [sth_ne b, sth_ne a]; exact hg q a b, fun i a => by rw [sth_eq, us_n a, sth_ne (by decide)]; exact h6 i a, ?_, ?_⟩
    · rw [sth_eq, us_s, wkP_t zz, ← List.append_assoc, List.length_append, List.length_singleton]
      omega
    · rw [sth_ne (by decide), sth_eq, wkP_t zz, ← List.append_assoc, h9]
      exact rwH_a h43
  · have zz : ¬ mwk h t (k : Int) := fun y => z ⟨y.1, y.2.1, y.2.2, by omega⟩
    exact ⟨⟨by omega, by omega⟩, (8 - ((k + 1 : Nat) : Int)).toNat, by omega, k + 1, by omega, by omega, by omega, hg, h6, by rw [wkP_f zz]; exact h9, by rw [wkP_f zz]; exact h43⟩
