/-! who wakes whom, quarrels, rights over all that is meant -/
set_option maxRecDepth 100000 in
set_option maxHeartbeats 4000000 in
theorem v_X6_wokenAtOnceBy (w : WD) (i : Int) (h : HP) (K : Int → HP → Prop) 
    (I1 : Nat → Int → Int → HP → Prop)
    (H : (∃ m : Nat, I1 m 0 0 h))
    (H1 : ∀ (n1 : Nat) (x2 : Int) (x3 : Int) (g1 : HP), I1 n1 x2 x3 g1 → (((g1 6 7) ≤ x3 → K x2 g1) ∧ (¬ (g1 6 7) ≤ x3 → ((0 ≤ x3 ∧ x3 < 8) ∧ ((0 ≤ i ∧ i < 8) ∧ ((((¬ (g1 39 x3) = (g1 41 i) → True) ∧ ((g1 39 x3) = (g1 41 i) → ((0 ≤ x3 ∧ x3 < 8) ∧ ((0 ≤ i ∧ i < 8) ∧ True))))) ∧ (((((g1 39 x3) = (g1 41 i)) ∧ ((g1 40 x3) = (g1 42 i))) → ((iR (x3 + 1)) ∧ (∃ m : Nat, m < n1 ∧ I1 m (ior x2 (ishl 1 x3)) (x3 + 1) g1))) ∧ (¬ (((g1 39 x3) = (g1 41 i)) ∧ ((g1 40 x3) = (g1 42 i))) → ((iR (x3 + 1)) ∧ (∃ m : Nat, m < n1 ∧ I1 m x2 (x3 + 1) g1)))))))))) :
    Ev w Y_X6_wokenAtOnceBy 0 [some (vR 6), some (vI i), none, none] [] h (rI K) := by
  have L1 : ∀ (n1 : Nat) (x2 : Int) (x3 : Int) (g1 : HP), I1 n1 x2 x3 g1 → Ev w Y_X6_wokenAtOnceBy 4 [some (vR 6), some (vI i), some (vI x2), some (vI x3)] [] g1 (rI K) := by
    intro n1
    induction n1 using Nat.strongRecOn with
    | ind n1 ih1 =>
      intro x2 x3 g1 H
      have H := H1 n1 x2 x3 g1 H
      refine e_iload_n (pc := 4) dX6_wokenAtOnceBy_4 rfl rfl ?_
      refine e_aload_n (pc := 5) dX6_wokenAtOnceBy_5 rfl rfl ?_
      refine e_getI (q := 6) (ci := 6) (k := 7) (kz := 7) (C := RX6) (T := TX6) (N := 10) (x := (g1 6 7)) (pc := 6) dX6_wokenAtOnceBy_6 rfl rfl rfl ev_in6 rfl ul_2_7 ⟨rfl, by decide⟩ rfl ?_
      refine e_icmp_ge (pc := 9) (tgt := 54) dX6_wokenAtOnceBy_9 (by decide) (fun c1 => ?_) (fun c1 => ?_)
      · have H := H.1 c1
        refine e_iload_n (pc := 54) dX6_wokenAtOnceBy_54 rfl rfl ?_
        exact e_ret (pc := 55) (v := some (vI x2)) dX6_wokenAtOnceBy_55 rfl trivial ⟨_, rfl, H⟩
      · have H := H.2 c1
        refine e_aload_n (pc := 12) dX6_wokenAtOnceBy_12 rfl rfl ?_
        refine e_getR (q := 6) (ci := 6) (k := 2) (y := 39) (C := RX6) (T := TX6) (N := 10) (pc := 13) dX6_wokenAtOnceBy_13 rfl rfl ev_in6 rfl ul_2_2 ⟨rfl, rfl⟩ rfl ?_
        refine e_iload_n (pc := 16) dX6_wokenAtOnceBy_16 rfl rfl ?_
        refine e_iald (q := 39) (x := (g1 39 x3)) (pc := 17) dX6_wokenAtOnceBy_17 rfl H.1 rfl ?_
        have H := H.2
        refine e_aload_n (pc := 18) dX6_wokenAtOnceBy_18 rfl rfl ?_
        refine e_getR (q := 6) (ci := 6) (k := 4) (y := 41) (C := RX6) (T := TX6) (N := 10) (pc := 19) dX6_wokenAtOnceBy_19 rfl rfl ev_in6 rfl ul_2_4 ⟨rfl, rfl⟩ rfl ?_
        refine e_iload_n (pc := 22) dX6_wokenAtOnceBy_22 rfl rfl ?_
        refine e_iald (q := 41) (x := (g1 41 i)) (pc := 23) dX6_wokenAtOnceBy_23 rfl H.1 rfl ?_
        have H := H.2
        have Ho := H.1
        have H := H.2
        have J1 : (((g1 39 x3) = (g1 41 i)) ∧ ((g1 40 x3) = (g1 42 i))) → Ev w Y_X6_wokenAtOnceBy 42 [some (vR 6), some (vI i), some (vI x2), some (vI x3)] [] g1 (rI K) := by
          intro hp
          have H := H.1 hp
          refine e_iload_n (pc := 42) dX6_wokenAtOnceBy_42 rfl rfl ?_
          refine e_iconst (pc := 43) dX6_wokenAtOnceBy_43 ⟨by decide, by decide⟩ ?_
          refine e_iload_n (pc := 44) dX6_wokenAtOnceBy_44 rfl rfl ?_
          refine e_ishl (pc := 45) dX6_wokenAtOnceBy_45 ?_
          refine e_ior (pc := 46) dX6_wokenAtOnceBy_46 ?_
          refine e_istore_n (lv' := [some (vR 6), some (vI i), some (vI (ior x2 (ishl 1 x3))), some (vI x3)]) (pc := 47) dX6_wokenAtOnceBy_47 rfl rfl rfl ?_
          refine e_iinc (lv' := [some (vR 6), some (vI i), some (vI (ior x2 (ishl 1 x3))), some (vI (x3 + 1))]) (pc := 48) dX6_wokenAtOnceBy_48 rfl H.1 rfl rfl ?_
          have H := H.2
          refine e_goto (pc := 51) (tgt := 4) dX6_wokenAtOnceBy_51 (by decide) ?_
          obtain ⟨m, hm, H⟩ := H
          exact ih1 m hm _ _ _ H
        have J2 : ¬ (((g1 39 x3) = (g1 41 i)) ∧ ((g1 40 x3) = (g1 42 i))) → Ev w Y_X6_wokenAtOnceBy 48 [some (vR 6), some (vI i), some (vI x2), some (vI x3)] [] g1 (rI K) := by
          intro hp
          have H := H.2 hp
          refine e_iinc (lv' := [some (vR 6), some (vI i), some (vI x2), some (vI (x3 + 1))]) (pc := 48) dX6_wokenAtOnceBy_48 rfl H.1 rfl rfl ?_
          have H := H.2
          refine e_goto (pc := 51) (tgt := 4) dX6_wokenAtOnceBy_51 (by decide) ?_
          obtain ⟨m, hm, H⟩ := H
          exact ih1 m hm _ _ _ H
        refine e_icmp_ne (pc := 24) (tgt := 48) dX6_wokenAtOnceBy_24 (by decide) (fun c2 => ?_) (fun c2 => ?_)
        · have Ho := Ho.1 c2
          exact J2 (fun z => c2 z.1)
        · have Ho := Ho.2 c2
          refine e_aload_n (pc := 27) dX6_wokenAtOnceBy_27 rfl rfl ?_
          refine e_getR (q := 6) (ci := 6) (k := 3) (y := 40) (C := RX6) (T := TX6) (N := 10) (pc := 28) dX6_wokenAtOnceBy_28 rfl rfl ev_in6 rfl ul_2_3 ⟨rfl, rfl⟩ rfl ?_
          refine e_iload_n (pc := 31) dX6_wokenAtOnceBy_31 rfl rfl ?_
          refine e_iald (q := 40) (x := (g1 40 x3)) (pc := 32) dX6_wokenAtOnceBy_32 rfl Ho.1 rfl ?_
          have Ho := Ho.2
          refine e_aload_n (pc := 33) dX6_wokenAtOnceBy_33 rfl rfl ?_
          refine e_getR (q := 6) (ci := 6) (k := 5) (y := 42) (C := RX6) (T := TX6) (N := 10) (pc := 34) dX6_wokenAtOnceBy_34 rfl rfl ev_in6 rfl ul_2_5 ⟨rfl, rfl⟩ rfl ?_
          refine e_iload_n (pc := 37) dX6_wokenAtOnceBy_37 rfl rfl ?_
          refine e_iald (q := 42) (x := (g1 42 i)) (pc := 38) dX6_wokenAtOnceBy_38 rfl Ho.1 rfl ?_
          have Ho := Ho.2
          refine e_icmp_ne (pc := 39) (tgt := 48) dX6_wokenAtOnceBy_39 (by decide) (fun c3 => ?_) (fun c3 => ?_)
          · exact J2 (fun z => c3 z.2)
          · exact J1 ⟨c2, c3⟩
  refine e_iconst (pc := 0) dX6_wokenAtOnceBy_0 ⟨by decide, by decide⟩ ?_
  refine e_istore_n (lv' := [some (vR 6), some (vI i), some (vI 0), none]) (pc := 1) dX6_wokenAtOnceBy_1 rfl rfl rfl ?_
  refine e_iconst (pc := 2) dX6_wokenAtOnceBy_2 ⟨by decide, by decide⟩ ?_
  refine e_istore_n (lv' := [some (vR 6), some (vI i), some (vI 0), some (vI 0)]) (pc := 3) dX6_wokenAtOnceBy_3 rfl rfl rfl ?_
  obtain ⟨m, H⟩ := H
  exact L1 m _ _ _ H
set_option maxRecDepth 100000 in
set_option maxHeartbeats 4000000 in
theorem c_X6_wokenAtOnceBy (w : WD) (i : Int) (h : HP) (H : (0 ≤ h 6 7 ∧ h 6 7 ≤ 8) ∧ 0 ≤ i ∧ i < 8) : Ev w Y_X6_wokenAtOnceBy 0 [some (vR 6), some (vI i), none, none] [] h (rI (fun r h' => r = (bset (fun k => h 39 k = h 41 i ∧ h 40 k = h 42 i) (h 6 7).toNat) ∧ h' = h)) := by
  obtain ⟨h8, hi⟩ := H
  refine v_X6_wokenAtOnceBy w i h _ (fun n x2 x3 g => g = h ∧ (0 ≤ x3 ∧ x3 ≤ h 6 7) ∧ n = (8 - x3).toNat ∧ x2 = bset (fun k => h 39 k = h 41 i ∧ h 40 k = h 42 i) x3.toNat) ⟨8, rfl, by omega, rfl, rfl⟩ ?_
  rintro n x2 x3 g ⟨rfl, h0, rfl, rfl⟩
  refine ⟨fun c => ⟨by rw [show x3 = g 6 7 by omega], rfl⟩, fun c => ⟨by omega, by omega, ⟨fun _ => trivial, fun _ => ⟨by omega, by omega, trivial⟩⟩, fun z => ⟨⟨by omega, by omega⟩, (8 - (x3 + 1)).toNat, by omega, rfl, by omega, rfl, bset_next h0.1 (by omega) z⟩, fun z => ⟨⟨by omega, by omega⟩, (8 - (x3 + 1)).toNat, by omega, rfl, by omega, rfl, bset_skip h0.1 z⟩⟩⟩
set_option maxRecDepth 100000 in
set_option maxHeartbeats 4000000 in
theorem v_X9_wakes (w : WD) (i : Int) (h : HP) (K : Int → HP → Prop) 
    (I1 : Nat → Int → Int → HP → Prop)
    (H : (∃ m : Nat, I1 m 0 0 h))
    (H1 : ∀ (n1 : Nat) (x2 : Int) (x3 : Int) (g1 : HP), I1 n1 x2 x3 g1 → (((g1 55 33) ≤ x3 → K x2 g1) ∧ (¬ (g1 55 33) ≤ x3 → ((iR (5 * x3)) ∧ ((0 ≤ (5 * x3) ∧ (5 * x3) < 40) ∧ ((((¬ (g1 79 (5 * x3)) = 1 → True) ∧ ((g1 79 (5 * x3)) = 1 → ((iR (5 * x3)) ∧ ((iR ((5 * x3) + 1)) ∧ ((0 ≤ ((5 * x3) + 1) ∧ ((5 * x3) + 1) < 40) ∧ ((iR (5 * i)) ∧ ((iR ((5 * i) + 3)) ∧ ((0 ≤ ((5 * i) + 3) ∧ ((5 * i) + 3) < 40) ∧ ((¬ (g1 79 ((5 * x3) + 1)) = (g1 79 ((5 * i) + 3)) → True) ∧ ((g1 79 ((5 * x3) + 1)) = (g1 79 ((5 * i) + 3)) → ((iR (5 * x3)) ∧ ((iR ((5 * x3) + 2)) ∧ ((0 ≤ ((5 * x3) + 2) ∧ ((5 * x3) + 2) < 40) ∧ ((iR (5 * i)) ∧ ((iR ((5 * i) + 4)) ∧ ((0 ≤ ((5 * i) + 4) ∧ ((5 * i) + 4) < 40) ∧ True))))))))))))))))) ∧ ((iR (x3 + 1)) ∧ (∃ m : Nat, m < n1 ∧ I1 m (ior x2 (cif (¬ (((g1 79 (5 * x3)) = 1) ∧ (((g1 79 ((5 * x3) + 1)) = (g1 79 ((5 * i) + 3))) ∧ ((g1 79 ((5 * x3) + 2)) = (g1 79 ((5 * i) + 4)))))) 0 (ishl 1 x3))) (x3 + 1) g1)))))))) :
    Ev w Y_X9_wakes 0 [some (vR 55), some (vI i), none, none, none] [] h (rI K) := by
  have L1 : ∀ (n1 : Nat) (x2 : Int) (x3 : Int) (g1 : HP), I1 n1 x2 x3 g1 → Ev w Y_X9_wakes 4 [some (vR 55), some (vI i), some (vI x2), some (vI x3), none] [] g1 (rI K) := by
    intro n1
    induction n1 using Nat.strongRecOn with
    | ind n1 ih1 =>
      intro x2 x3 g1 H
      have H := H1 n1 x2 x3 g1 H
      refine e_iload_n (pc := 4) dX9_wakes_4 rfl rfl ?_
      refine e_aload_n (pc := 5) dX9_wakes_5 rfl rfl ?_
      refine e_getI (q := 55) (ci := 9) (k := 33) (kz := 33) (C := RX9) (T := TX9) (N := 52) (x := (g1 55 33)) (pc := 6) dX9_wakes_6 rfl rfl rfl ev_in9 rfl ul_4_215 ⟨rfl, by decide⟩ rfl ?_
      refine e_icmp_ge (pc := 9) (tgt := 98) dX9_wakes_9 (by decide) (fun c1 => ?_) (fun c1 => ?_)
      · have H := H.1 c1
        refine e_iload_n (pc := 98) dX9_wakes_98 rfl rfl ?_
        exact e_ret (pc := 99) (v := some (vI x2)) dX9_wakes_99 rfl trivial ⟨_, rfl, H⟩
      · have H := H.2 c1
        refine e_aload_n (pc := 12) dX9_wakes_12 rfl rfl ?_
        refine e_getR (q := 55) (ci := 9) (k := 34) (y := 79) (C := RX9) (T := TX9) (N := 52) (pc := 13) dX9_wakes_13 rfl rfl ev_in9 rfl ul_4_216 ⟨rfl, rfl⟩ rfl ?_
        refine e_iconst (pc := 16) dX9_wakes_16 ⟨by decide, by decide⟩ ?_
        refine e_iload_n (pc := 17) dX9_wakes_17 rfl rfl ?_
        refine e_imul (pc := 18) dX9_wakes_18 H.1 ?_
        have H := H.2
        refine e_iald (q := 79) (x := (g1 79 (5 * x3))) (pc := 19) dX9_wakes_19 rfl H.1 rfl ?_
        have H := H.2
        refine e_iconst (pc := 20) dX9_wakes_20 ⟨by decide, by decide⟩ ?_
        have J : Ev w Y_X9_wakes 75 [some (vR 55), some (vI i), some (vI x2), some (vI x3), none] [vI (b2i (((g1 79 (5 * x3)) = 1) ∧ (((g1 79 ((5 * x3) + 1)) = (g1 79 ((5 * i) + 3))) ∧ ((g1 79 ((5 * x3) + 2)) = (g1 79 ((5 * i) + 4))))))] g1 (rI K) := by
          have H := H.2
          refine e_istore (lv' := [some (vR 55), some (vI i), some (vI x2), some (vI x3), some (vI (b2i (((g1 79 (5 * x3)) = 1) ∧ (((g1 79 ((5 * x3) + 1)) = (g1 79 ((5 * i) + 3))) ∧ ((g1 79 ((5 * x3) + 2)) = (g1 79 ((5 * i) + 4)))))))]) (pc := 75) dX9_wakes_75 rfl rfl ?_
          refine e_iload_n (pc := 77) dX9_wakes_77 rfl rfl ?_
          refine e_iload (pc := 78) dX9_wakes_78 rfl ?_
          have J : Ev w Y_X9_wakes 90 [some (vR 55), some (vI i), some (vI x2), some (vI x3), some (vI (b2i (((g1 79 (5 * x3)) = 1) ∧ (((g1 79 ((5 * x3) + 1)) = (g1 79 ((5 * i) + 3))) ∧ ((g1 79 ((5 * x3) + 2)) = (g1 79 ((5 * i) + 4)))))))] [vI (cif (¬ (((g1 79 (5 * x3)) = 1) ∧ (((g1 79 ((5 * x3) + 1)) = (g1 79 ((5 * i) + 3))) ∧ ((g1 79 ((5 * x3) + 2)) = (g1 79 ((5 * i) + 4)))))) 0 (ishl 1 x3)), vI x2] g1 (rI K) := by
            refine e_ior (pc := 90) dX9_wakes_90 ?_
            refine e_istore_n (lv' := [some (vR 55), some (vI i), some (vI (ior x2 (cif (¬ (((g1 79 (5 * x3)) = 1) ∧ (((g1 79 ((5 * x3) + 1)) = (g1 79 ((5 * i) + 3))) ∧ ((g1 79 ((5 * x3) + 2)) = (g1 79 ((5 * i) + 4)))))) 0 (ishl 1 x3)))), some (vI x3), some (vI (b2i (((g1 79 (5 * x3)) = 1) ∧ (((g1 79 ((5 * x3) + 1)) = (g1 79 ((5 * i) + 3))) ∧ ((g1 79 ((5 * x3) + 2)) = (g1 79 ((5 * i) + 4)))))))]) (pc := 91) dX9_wakes_91 rfl rfl rfl ?_
            refine e_iinc (lv' := [some (vR 55), some (vI i), some (vI (ior x2 (cif (¬ (((g1 79 (5 * x3)) = 1) ∧ (((g1 79 ((5 * x3) + 1)) = (g1 79 ((5 * i) + 3))) ∧ ((g1 79 ((5 * x3) + 2)) = (g1 79 ((5 * i) + 4)))))) 0 (ishl 1 x3)))), some (vI (x3 + 1)), some (vI (b2i (((g1 79 (5 * x3)) = 1) ∧ (((g1 79 ((5 * x3) + 1)) = (g1 79 ((5 * i) + 3))) ∧ ((g1 79 ((5 * x3) + 2)) = (g1 79 ((5 * i) + 4)))))))]) (pc := 92) dX9_wakes_92 rfl H.1 rfl rfl ?_
            have H := H.2
            refine e_goto (pc := 95) (tgt := 4) dX9_wakes_95 (by decide) ?_
            refine e_mask [true, true, true, true, false] rfl ?_
            obtain ⟨m, hm, H⟩ := H
            exact ih1 m hm _ _ _ H
          refine e_ifb_eq (pc := 80) (tgt := 89) dX9_wakes_80 (by decide) (fun c2 => ?_) (fun c2 => ?_)
          · refine e_iconst (pc := 89) dX9_wakes_89 ⟨by decide, by decide⟩ ?_
            exact e_top (cif_t c2) J
          · refine e_iconst (pc := 83) dX9_wakes_83 ⟨by decide, by decide⟩ ?_
            refine e_iload_n (pc := 84) dX9_wakes_84 rfl rfl ?_
            refine e_ishl (pc := 85) dX9_wakes_85 ?_
            refine e_goto (pc := 86) (tgt := 90) dX9_wakes_86 (by decide) ?_
            exact e_top (cif_f (fun z => z c2)) J
        have Ho := H.1
        refine e_icmp_ne (pc := 21) (tgt := 74) dX9_wakes_21 (by decide) (fun c3 => ?_) (fun c3 => ?_)
        · have Ho := Ho.1 c3
          refine e_iconst (pc := 74) dX9_wakes_74 ⟨by decide, by decide⟩ ?_
          exact e_top (b2i_f (fun z => c3 z.1)) J
        · have Ho := Ho.2 c3
          refine e_aload_n (pc := 24) dX9_wakes_24 rfl rfl ?_
          refine e_getR (q := 55) (ci := 9) (k := 34) (y := 79) (C := RX9) (T := TX9) (N := 52) (pc := 25) dX9_wakes_25 rfl rfl ev_in9 rfl ul_4_216 ⟨rfl, rfl⟩ rfl ?_
          refine e_iconst (pc := 28) dX9_wakes_28 ⟨by decide, by decide⟩ ?_
          refine e_iload_n (pc := 29) dX9_wakes_29 rfl rfl ?_
          refine e_imul (pc := 30) dX9_wakes_30 Ho.1 ?_
          have Ho := Ho.2
          refine e_iconst (pc := 31) dX9_wakes_31 ⟨by decide, by decide⟩ ?_
          refine e_iadd (pc := 32) dX9_wakes_32 Ho.1 ?_
          have Ho := Ho.2
          refine e_iald (q := 79) (x := (g1 79 ((5 * x3) + 1))) (pc := 33) dX9_wakes_33 rfl Ho.1 rfl ?_
          have Ho := Ho.2
          refine e_aload_n (pc := 34) dX9_wakes_34 rfl rfl ?_
          refine e_getR (q := 55) (ci := 9) (k := 34) (y := 79) (C := RX9) (T := TX9) (N := 52) (pc := 35) dX9_wakes_35 rfl rfl ev_in9 rfl ul_4_216 ⟨rfl, rfl⟩ rfl ?_
          refine e_iconst (pc := 38) dX9_wakes_38 ⟨by decide, by decide⟩ ?_
          refine e_iload_n (pc := 39) dX9_wakes_39 rfl rfl ?_
          refine e_imul (pc := 40) dX9_wakes_40 Ho.1 ?_
          have Ho := Ho.2
          refine e_iconst (pc := 41) dX9_wakes_41 ⟨by decide, by decide⟩ ?_
          refine e_iadd (pc := 42) dX9_wakes_42 Ho.1 ?_
          have Ho := Ho.2
          refine e_iald (q := 79) (x := (g1 79 ((5 * i) + 3))) (pc := 43) dX9_wakes_43 rfl Ho.1 rfl ?_
          have Ho := Ho.2
          refine e_icmp_ne (pc := 44) (tgt := 74) dX9_wakes_44 (by decide) (fun c4 => ?_) (fun c4 => ?_)
          · have Ho := Ho.1 c4
            refine e_iconst (pc := 74) dX9_wakes_74 ⟨by decide, by decide⟩ ?_
            exact e_top (b2i_f (fun z => (fun z => c4 z.1) z.2)) J
          · have Ho := Ho.2 c4
            refine e_aload_n (pc := 47) dX9_wakes_47 rfl rfl ?_
            refine e_getR (q := 55) (ci := 9) (k := 34) (y := 79) (C := RX9) (T := TX9) (N := 52) (pc := 48) dX9_wakes_48 rfl rfl ev_in9 rfl ul_4_216 ⟨rfl, rfl⟩ rfl ?_
            refine e_iconst (pc := 51) dX9_wakes_51 ⟨by decide, by decide⟩ ?_
            refine e_iload_n (pc := 52) dX9_wakes_52 rfl rfl ?_
            refine e_imul (pc := 53) dX9_wakes_53 Ho.1 ?_
            have Ho := Ho.2
            refine e_iconst (pc := 54) dX9_wakes_54 ⟨by decide, by decide⟩ ?_
            refine e_iadd (pc := 55) dX9_wakes_55 Ho.1 ?_
            have Ho := Ho.2
            refine e_iald (q := 79) (x := (g1 79 ((5 * x3) + 2))) (pc := 56) dX9_wakes_56 rfl Ho.1 rfl ?_
            have Ho := Ho.2
            refine e_aload_n (pc := 57) dX9_wakes_57 rfl rfl ?_
            refine e_getR (q := 55) (ci := 9) (k := 34) (y := 79) (C := RX9) (T := TX9) (N := 52) (pc := 58) dX9_wakes_58 rfl rfl ev_in9 rfl ul_4_216 ⟨rfl, rfl⟩ rfl ?_
            refine e_iconst (pc := 61) dX9_wakes_61 ⟨by decide, by decide⟩ ?_
            refine e_iload_n (pc := 62) dX9_wakes_62 rfl rfl ?_
            refine e_imul (pc := 63) dX9_wakes_63 Ho.1 ?_
            have Ho := Ho.2
            refine e_iconst (pc := 64) dX9_wakes_64 ⟨by decide, by decide⟩ ?_
            refine e_iadd (pc := 65) dX9_wakes_65 Ho.1 ?_
            have Ho := Ho.2
            refine e_iald (q := 79) (x := (g1 79 ((5 * i) + 4))) (pc := 66) dX9_wakes_66 rfl Ho.1 rfl ?_
            have Ho := Ho.2
            refine e_icmp_ne (pc := 67) (tgt := 74) dX9_wakes_67 (by decide) (fun c5 => ?_) (fun c5 => ?_)
            · refine e_iconst (pc := 74) dX9_wakes_74 ⟨by decide, by decide⟩ ?_
              exact e_top (b2i_f (fun z => (fun z => c5 z.2) z.2)) J
            · refine e_iconst (pc := 70) dX9_wakes_70 ⟨by decide, by decide⟩ ?_
              refine e_goto (pc := 71) (tgt := 75) dX9_wakes_71 (by decide) ?_
              exact e_top (b2i_t ⟨c3, ⟨c4, c5⟩⟩) J
  refine e_iconst (pc := 0) dX9_wakes_0 ⟨by decide, by decide⟩ ?_
  refine e_istore_n (lv' := [some (vR 55), some (vI i), some (vI 0), none, none]) (pc := 1) dX9_wakes_1 rfl rfl rfl ?_
  refine e_iconst (pc := 2) dX9_wakes_2 ⟨by decide, by decide⟩ ?_
  refine e_istore_n (lv' := [some (vR 55), some (vI i), some (vI 0), some (vI 0), none]) (pc := 3) dX9_wakes_3 rfl rfl rfl ?_
  obtain ⟨m, H⟩ := H
  exact L1 m _ _ _ H
set_option maxRecDepth 100000 in
set_option maxHeartbeats 4000000 in
theorem c_X9_wakes (w : WD) (i : Int) (h : HP) (H : (0 ≤ h 55 33 ∧ h 55 33 ≤ 8) ∧ 0 ≤ i ∧ i < 8) : Ev w Y_X9_wakes 0 [some (vR 55), some (vI i), none, none, none] [] h (rI (fun r h' => r = (bset (fun k => h 79 (5 * k) = 1 ∧ h 79 (5 * k + 1) = h 79 (5 * i + 3) ∧ h 79 (5 * k + 2) = h 79 (5 * i + 4)) (h 55 33).toNat) ∧ h' = h)) := by
  obtain ⟨h8, hi⟩ := H
  refine v_X9_wakes w i h _ (fun n x2 x3 g => g = h ∧ (0 ≤ x3 ∧ x3 ≤ h 55 33) ∧ n = (8 - x3).toNat ∧ x2 = bset (fun k => h 79 (5 * k) = 1 ∧ h 79 (5 * k + 1) = h 79 (5 * i + 3) ∧ h 79 (5 * k + 2) = h 79 (5 * i + 4)) x3.toNat) ⟨8, rfl, by omega, rfl, rfl⟩ ?_
  rintro n x2 x3 g ⟨rfl, h0, rfl, rfl⟩
  refine ⟨fun c => ⟨by rw [show x3 = g 55 33 by omega], rfl⟩, fun c => ⟨⟨by omega, by omega⟩, by omega, ⟨fun _ => trivial, fun _ => ⟨⟨by omega, by omega⟩, ⟨by omega, by omega⟩, by omega, ⟨by omega, by omega⟩, ⟨by omega, by omega⟩, by omega, fun _ => trivial, fun _ => ⟨⟨by omega, by omega⟩, ⟨by omega, by omega⟩, by omega, ⟨by omega, by omega⟩, ⟨by omega, by omega⟩, by omega, trivial⟩⟩⟩, ⟨by omega, by omega⟩, (8 - (x3 + 1)).toNat, by omega, rfl, by omega, rfl, ?_⟩⟩
  rw [cif_n]
  by_cases z : g 79 (5 * x3) = 1 ∧ g 79 (5 * x3 + 1) = g 79 (5 * i + 3) ∧ g 79 (5 * x3 + 2) = g 79 (5 * i + 4)
  · rw [cif_t z]
    exact bset_next h0.1 (by omega) z
  · rw [cif_f z, ior_0 (bset_R (by omega))]
    exact bset_skip h0.1 z
set_option maxRecDepth 100000 in
set_option maxHeartbeats 4000000 in
theorem v_X8_mayTurnAll (w : WD) (fo : Int) (b : Int) (h : HP) (K : Int → HP → Prop) 
    (I1 : Nat → Int → HP → Prop)
    (H : (∃ m : Nat, I1 m 0 h))
    (H1 : ∀ (n1 : Nat) (x3 : Int) (g1 : HP), I1 n1 x3 g1 → (((g1 1 7) ≤ x3 → K 1 g1) ∧ (¬ (g1 1 7) ≤ x3 → ((inB b x3) ∧ ((((¬ (mem b x3) → True) ∧ ((mem b x3) → ((0 ≤ g1 1 9) ∧ ((fOK g1 ∧ 0 ≤ x3 ∧ x3 < 10) ∧ True))))) ∧ ((((¬ (mem b x3)) ∨ ((∃ k : Int, 0 ≤ k ∧ k < g1 2 6 ∧ cLet g1 k fo x3 (g1 1 9 % 24)))) → ((iR (x3 + 1)) ∧ (∃ m : Nat, m < n1 ∧ I1 m (x3 + 1) g1))) ∧ (¬ ((¬ (mem b x3)) ∨ ((∃ k : Int, 0 ≤ k ∧ k < g1 2 6 ∧ cLet g1 k fo x3 (g1 1 9 % 24)))) → K 0 g1))))))) :
    Ev w Y_X8_mayTurnAll 0 [some (vR 0), some (vI fo), some (vI b), none] [] h (rI K) := by
  have L1 : ∀ (n1 : Nat) (x3 : Int) (g1 : HP), I1 n1 x3 g1 → Ev w Y_X8_mayTurnAll 2 [some (vR 0), some (vI fo), some (vI b), some (vI x3)] [] g1 (rI K) := by
    intro n1
    induction n1 using Nat.strongRecOn with
    | ind n1 ih1 =>
      intro x3 g1 H
      have H := H1 n1 x3 g1 H
      refine e_iload_n (pc := 2) dX8_mayTurnAll_2 rfl rfl ?_
      refine e_aload_n (pc := 3) dX8_mayTurnAll_3 rfl rfl ?_
      refine e_getR (q := 0) (ci := 8) (k := 0) (y := 1) (C := RX8) (T := TX8) (N := 9) (pc := 4) dX8_mayTurnAll_4 rfl rfl ev_in8 rfl ul_2_98 ⟨rfl, rfl⟩ rfl ?_
      refine e_getI (q := 1) (ci := 4) (k := 7) (kz := 7) (C := RX4) (T := TX4) (N := 10) (x := (g1 1 7)) (pc := 7) dX8_mayTurnAll_7 rfl rfl rfl ev_in4 rfl ul_1_48 ⟨rfl, by decide⟩ rfl ?_
      refine e_icmp_ge (pc := 10) (tgt := 48) dX8_mayTurnAll_10 (by decide) (fun c1 => ?_) (fun c1 => ?_)
      · have H := H.1 c1
        refine e_iconst (pc := 48) dX8_mayTurnAll_48 ⟨by decide, by decide⟩ ?_
        exact e_ret (pc := 49) (v := some (vI 1)) dX8_mayTurnAll_49 rfl (Or.inr rfl) ⟨_, rfl, H⟩
      · have H := H.2 c1
        refine e_iload_n (pc := 13) dX8_mayTurnAll_13 rfl rfl ?_
        refine e_iload_n (pc := 14) dX8_mayTurnAll_14 rfl rfl ?_
        refine e_invS (pc := 15) (Y' := Y_X8_isIn) (as := [vI b, vI x3]) (st := []) (lv0 := [some (vI b), some (vI x3)]) dX8_mayTurnAll_15 m_X8_isIn ul_3_142 ul_3_102 ⟨rfl, rfl⟩ rfl rfl rfl rfl rfl (c_X8_isIn w b x3 g1 H.1) ?_
        rintro _ hz ⟨_, rfl, rfl, hh⟩
        rw [hh]
        show Ev w Y_X8_mayTurnAll 18 [some (vR 0), some (vI fo), some (vI b), some (vI x3)] [vI (b2i (mem b x3))] g1 (rI K)
        have H := H.2
        have Ho := H.1
        have H := H.2
        have J1 : ((¬ (mem b x3)) ∨ ((∃ k : Int, 0 ≤ k ∧ k < g1 2 6 ∧ cLet g1 k fo x3 (g1 1 9 % 24)))) → Ev w Y_X8_mayTurnAll 42 [some (vR 0), some (vI fo), some (vI b), some (vI x3)] [] g1 (rI K) := by
          intro hp
          have H := H.1 hp
          refine e_iinc (lv' := [some (vR 0), some (vI fo), some (vI b), some (vI (x3 + 1))]) (pc := 42) dX8_mayTurnAll_42 rfl H.1 rfl rfl ?_
          have H := H.2
          refine e_goto (pc := 45) (tgt := 2) dX8_mayTurnAll_45 (by decide) ?_
          obtain ⟨m, hm, H⟩ := H
          exact ih1 m hm _ _ H
        have J2 : ¬ ((¬ (mem b x3)) ∨ ((∃ k : Int, 0 ≤ k ∧ k < g1 2 6 ∧ cLet g1 k fo x3 (g1 1 9 % 24)))) → Ev w Y_X8_mayTurnAll 40 [some (vR 0), some (vI fo), some (vI b), some (vI x3)] [] g1 (rI K) := by
          intro hp
          have H := H.2 hp
          refine e_iconst (pc := 40) dX8_mayTurnAll_40 ⟨by decide, by decide⟩ ?_
          exact e_ret (pc := 41) (v := some (vI 0)) dX8_mayTurnAll_41 rfl (Or.inl rfl) ⟨_, rfl, H⟩
        refine e_ifb_eq (pc := 18) (tgt := 42) dX8_mayTurnAll_18 (by decide) (fun c2 => ?_) (fun c2 => ?_)
        · have Ho := Ho.1 c2
          exact J1 (Or.inl c2)
        · have Ho := Ho.2 c2
          refine e_aload_n (pc := 21) dX8_mayTurnAll_21 rfl rfl ?_
          refine e_getR (q := 0) (ci := 8) (k := 1) (y := 2) (C := RX8) (T := TX8) (N := 9) (pc := 22) dX8_mayTurnAll_22 rfl rfl ev_in8 rfl ul_2_99 ⟨rfl, rfl⟩ rfl ?_
          refine e_iload_n (pc := 25) dX8_mayTurnAll_25 rfl rfl ?_
          refine e_iload_n (pc := 26) dX8_mayTurnAll_26 rfl rfl ?_
          refine e_aload_n (pc := 27) dX8_mayTurnAll_27 rfl rfl ?_
          refine e_getR (q := 0) (ci := 8) (k := 0) (y := 1) (C := RX8) (T := TX8) (N := 9) (pc := 28) dX8_mayTurnAll_28 rfl rfl ev_in8 rfl ul_2_98 ⟨rfl, rfl⟩ rfl ?_
          refine e_invV (pc := 31) (Y' := Y_X4_hourOfDay) (as := []) (st := [vI x3, vI fo, vR 2]) (lv0 := [some (vR 1)]) (q := 1) (ci := 4) (T := TX4) (N := 10) dX8_mayTurnAll_31 m_X4_hourOfDay ul_3_190 ⟨ul_3_191, ul_3_192⟩ ⟨rfl, rfl⟩ rfl rfl rfl rfl rfl rfl rfl (c_X4_hourOfDay w g1 Ho.1) ?_
          rintro _ hz ⟨_, rfl, rfl, hh⟩
          rw [hh]
          show Ev w Y_X8_mayTurnAll 34 [some (vR 0), some (vI fo), some (vI b), some (vI x3)] [vI (g1 1 9 % 24), vI x3, vI fo, vR 2] g1 (rI K)
          have Ho := Ho.2
          refine e_invV (pc := 34) (Y' := Y_X5_lets) (as := [vI fo, vI x3, vI (g1 1 9 % 24)]) (st := []) (lv0 := [some (vR 2), some (vI fo), some (vI x3), some (vI (g1 1 9 % 24)), none]) (q := 2) (ci := 5) (T := TX5) (N := 7) dX8_mayTurnAll_34 m_X5_lets ul_3_10 ⟨ul_3_11, ul_3_12⟩ ⟨rfl, rfl⟩ rfl rfl rfl rfl rfl rfl rfl (c_X5_lets w fo x3 (g1 1 9 % 24) g1 Ho.1) ?_
          rintro _ hz ⟨_, rfl, rfl, hh⟩
          rw [hh]
          show Ev w Y_X8_mayTurnAll 37 [some (vR 0), some (vI fo), some (vI b), some (vI x3)] [vI (b2i (∃ k : Int, 0 ≤ k ∧ k < g1 2 6 ∧ cLet g1 k fo x3 (g1 1 9 % 24)))] g1 (rI K)
          have Ho := Ho.2
          refine e_ifb_ne (pc := 37) (tgt := 42) dX8_mayTurnAll_37 (by decide) (fun c3 => ?_) (fun c3 => ?_)
          · exact J1 (Or.inr c3)
          · exact J2 (fun z => z.elim (fun z => z c2) c3)
  refine e_iconst (pc := 0) dX8_mayTurnAll_0 ⟨by decide, by decide⟩ ?_
  refine e_istore_n (lv' := [some (vR 0), some (vI fo), some (vI b), some (vI 0)]) (pc := 1) dX8_mayTurnAll_1 rfl rfl rfl ?_
  obtain ⟨m, H⟩ := H
  exact L1 m _ _ H
set_option maxRecDepth 100000 in
set_option maxHeartbeats 4000000 in
theorem c_X8_mayTurnAll (w : WD) (fo : Int) (b : Int) (h : HP) (H : HOK h ∧ fOK h ∧ (0 ≤ b ∧ b < 1024) ∧ 0 ≤ h 1 9) : Ev w Y_X8_mayTurnAll 0 [some (vR 0), some (vI fo), some (vI b), none] [] h (rI (fun r h' => r = b2i (∀ t : Int, 0 ≤ t → t < h 1 7 → mem b t → ∃ k : Int, 0 ≤ k ∧ k < h 2 6 ∧ cLet h k fo t (h 1 9 % 24)) ∧ h' = h)) := by
  obtain ⟨hH, hF, hb, h9⟩ := H
  have h10 := hH.1
  refine v_X8_mayTurnAll w fo b h _ (fun n x3 g => g = h ∧ (0 ≤ x3 ∧ x3 ≤ h 1 7) ∧ n = (10 - x3).toNat ∧ ∀ t : Int, 0 ≤ t → t < x3 → mem b t → ∃ k : Int, 0 ≤ k ∧ k < h 2 6 ∧ cLet h k fo t (h 1 9 % 24)) ⟨10, rfl, by omega, rfl, fun t p q => by omega⟩ ?_
  rintro n x3 g ⟨rfl, h0, rfl, hn⟩
  refine ⟨fun c => ⟨(b2i_t (fun t p q => hn t p (by omega))).symm, rfl⟩, fun c => ⟨⟨by omega, by omega⟩, ⟨fun _ => trivial, fun _ => ⟨h9, ⟨hF, by omega⟩, trivial⟩⟩, fun z => ⟨⟨by omega, by omega⟩, (10 - (x3 + 1)).toNat, by omega, rfl, by omega, rfl, fun t p q m => ?_⟩, fun z => ⟨(b2i_f (fun y => z ?_)).symm, rfl⟩⟩⟩
  · by_cases e : t = x3
    · subst e
      rcases z with z | z
      · exact absurd m z
      · exact z
    · exact hn t p (by omega) m
  · by_cases m : mem b x3
    · exact Or.inr (y x3 h0.1 (by omega) m)
    · exact Or.inl m
/-- the first pair -/
noncomputable def qrI (p : Int → Int → Prop) (n : Nat) : Int := fsN (fun i => ∃ j : Int, i < j ∧ j < (n : Int) ∧ p i j) n
noncomputable def qrl (p : Int → Int → Prop) (n : Nat) : Int := cif (qrI p n < 0) (-4) (10 * qrI p n + fsN (fun j => qrI p n < j ∧ p (qrI p n) j) n)
theorem qrl_none {p : Int → Int → Prop} {n : Nat} (h : ∀ i j : Int, 0 ≤ i → i < j → j < (n : Int) → ¬ p i j) : qrl p n = -4 := by
  unfold qrl
  have : qrI p n = -1 := fsN_none (fun i a b => by rintro ⟨j, y1, y2, y3⟩; exact h i j a y1 y2 y3)
  rw [this, cif_t (by decide)]
theorem qrl_at {p : Int → Int → Prop} {n i j : Nat} (hij : i < j) (hj : j < n) (hp : p (i : Int) (j : Int)) (h1 : ∀ a b : Int, 0 ≤ a → a < (i : Int) → a < b → b < (n : Int) → ¬ p a b) (h2 : ∀ b : Int, (i : Int) < b → b < (j : Int) → ¬ p (i : Int) b) : qrl p n = 10 * (i : Int) + (j : Int) := by
  unfold qrl
  have e : qrI p n = (i : Int) := fsN_at (k := i) (fun a y0 y1 => by rintro ⟨b, u1, u2, u3⟩; exact h1 a b y0 y1 u1 u2 u3) ⟨(j : Int), by omega, by omega, hp⟩ (by omega)
  rw [e, cif_f (by omega), fsN_at (k := j) (fun b y0 y1 u => h2 b u.1 y1 u.2) ⟨by omega, hp⟩ hj]
set_option maxRecDepth 100000 in
set_option maxHeartbeats 4000000 in
theorem v_X6_firstQuarrel (w : WD)  (h : HP) (K : Int → HP → Prop) 
    (I1 : Nat → Int → HP → Prop)
    (I2 : Nat → Nat → Int → Int → HP → Prop)
    (H : (∃ m : Nat, I1 m 0 h))
    (H1 : ∀ (n1 : Nat) (x1 : Int) (g1 : HP), I1 n1 x1 g1 → (((g1 6 7) ≤ x1 → K (-4) g1) ∧ (¬ (g1 6 7) ≤ x1 → ((iR (x1 + 1)) ∧ (∃ m : Nat, I2 n1 m x1 (x1 + 1) g1)))))
    (H2 : ∀ (n1 : Nat) (n2 : Nat) (x1 : Int) (x2 : Int) (g2 : HP), I2 n1 n2 x1 x2 g2 → (((g2 6 7) ≤ x2 → ((iR (x1 + 1)) ∧ (∃ m : Nat, m < n1 ∧ I1 m (x1 + 1) g2))) ∧ (¬ (g2 6 7) ≤ x2 → ((0 ≤ x1 ∧ x1 < 8) ∧ ((0 ≤ x2 ∧ x2 < 8) ∧ ((((¬ (g2 39 x1) = (g2 39 x2) → True) ∧ ((g2 39 x1) = (g2 39 x2) → ((0 ≤ x1 ∧ x1 < 8) ∧ ((0 ≤ x2 ∧ x2 < 8) ∧ ((¬ (g2 40 x1) = (g2 40 x2) → True) ∧ ((g2 40 x1) = (g2 40 x2) → ((0 ≤ x1 ∧ x1 < 8) ∧ ((0 ≤ x2 ∧ x2 < 8) ∧ ((¬ (g2 41 x1) = (g2 41 x2) → True) ∧ ((g2 41 x1) = (g2 41 x2) → ((0 ≤ x1 ∧ x1 < 8) ∧ ((0 ≤ x2 ∧ x2 < 8) ∧ True))))))))))))) ∧ (((((g2 39 x1) = (g2 39 x2)) ∧ (((g2 40 x1) = (g2 40 x2)) ∧ (((g2 41 x1) = (g2 41 x2)) ∧ (¬ (g2 42 x1) = (g2 42 x2))))) → ((iR (10 * x1)) ∧ ((iR ((10 * x1) + x2)) ∧ K ((10 * x1) + x2) g2))) ∧ (¬ (((g2 39 x1) = (g2 39 x2)) ∧ (((g2 40 x1) = (g2 40 x2)) ∧ (((g2 41 x1) = (g2 41 x2)) ∧ (¬ (g2 42 x1) = (g2 42 x2))))) → ((iR (x2 + 1)) ∧ (∃ m : Nat, m < n2 ∧ I2 n1 m x1 (x2 + 1) g2)))))))))) :
    Ev w Y_X6_firstQuarrel 0 [some (vR 6), none, none] [] h (rI K) := by
  have L1 : ∀ (n1 : Nat) (x1 : Int) (g1 : HP), I1 n1 x1 g1 → Ev w Y_X6_firstQuarrel 2 [some (vR 6), some (vI x1), none] [] g1 (rI K) := by
    intro n1
    induction n1 using Nat.strongRecOn with
    | ind n1 ih1 =>
      have L2 : ∀ (n2 : Nat) (x1 : Int) (x2 : Int) (g2 : HP), I2 n1 n2 x1 x2 g2 → Ev w Y_X6_firstQuarrel 14 [some (vR 6), some (vI x1), some (vI x2)] [] g2 (rI K) := by
        intro n2
        induction n2 using Nat.strongRecOn with
        | ind n2 ih2 =>
          intro x1 x2 g2 H
          have H := H2 n1 n2 x1 x2 g2 H
          refine e_iload_n (pc := 14) dX6_firstQuarrel_14 rfl rfl ?_
          refine e_aload_n (pc := 15) dX6_firstQuarrel_15 rfl rfl ?_
          refine e_getI (q := 6) (ci := 6) (k := 7) (kz := 7) (C := RX6) (T := TX6) (N := 10) (x := (g2 6 7)) (pc := 16) dX6_firstQuarrel_16 rfl rfl rfl ev_in6 rfl ul_2_7 ⟨rfl, by decide⟩ rfl ?_
          refine e_icmp_ge (pc := 19) (tgt := 95) dX6_firstQuarrel_19 (by decide) (fun c2 => ?_) (fun c2 => ?_)
          · have H := H.1 c2
            refine e_iinc (lv' := [some (vR 6), some (vI (x1 + 1)), some (vI x2)]) (pc := 95) dX6_firstQuarrel_95 rfl H.1 rfl rfl ?_
            have H := H.2
            refine e_goto (pc := 98) (tgt := 2) dX6_firstQuarrel_98 (by decide) ?_
            refine e_mask [true, true, false] rfl ?_
            obtain ⟨m, hm, H⟩ := H
            exact ih1 m hm _ _ H
          · have H := H.2 c2
            refine e_aload_n (pc := 22) dX6_firstQuarrel_22 rfl rfl ?_
            refine e_getR (q := 6) (ci := 6) (k := 2) (y := 39) (C := RX6) (T := TX6) (N := 10) (pc := 23) dX6_firstQuarrel_23 rfl rfl ev_in6 rfl ul_2_2 ⟨rfl, rfl⟩ rfl ?_
            refine e_iload_n (pc := 26) dX6_firstQuarrel_26 rfl rfl ?_
            refine e_iald (q := 39) (x := (g2 39 x1)) (pc := 27) dX6_firstQuarrel_27 rfl H.1 rfl ?_
            have H := H.2
            refine e_aload_n (pc := 28) dX6_firstQuarrel_28 rfl rfl ?_
            refine e_getR (q := 6) (ci := 6) (k := 2) (y := 39) (C := RX6) (T := TX6) (N := 10) (pc := 29) dX6_firstQuarrel_29 rfl rfl ev_in6 rfl ul_2_2 ⟨rfl, rfl⟩ rfl ?_
            refine e_iload_n (pc := 32) dX6_firstQuarrel_32 rfl rfl ?_
            refine e_iald (q := 39) (x := (g2 39 x2)) (pc := 33) dX6_firstQuarrel_33 rfl H.1 rfl ?_
            have H := H.2
            have Ho := H.1
            have H := H.2
            have J1 : (((g2 39 x1) = (g2 39 x2)) ∧ (((g2 40 x1) = (g2 40 x2)) ∧ (((g2 41 x1) = (g2 41 x2)) ∧ (¬ (g2 42 x1) = (g2 42 x2))))) → Ev w Y_X6_firstQuarrel 82 [some (vR 6), some (vI x1), some (vI x2)] [] g2 (rI K) := by
              intro hp
              have H := H.1 hp
              refine e_bipush (pc := 82) dX6_firstQuarrel_82 ⟨by decide, by decide⟩ (by decide) ?_
              refine e_iload_n (pc := 84) dX6_firstQuarrel_84 rfl rfl ?_
              refine e_imul (pc := 85) dX6_firstQuarrel_85 H.1 ?_
              have H := H.2
              refine e_iload_n (pc := 86) dX6_firstQuarrel_86 rfl rfl ?_
              refine e_iadd (pc := 87) dX6_firstQuarrel_87 H.1 ?_
              have H := H.2
              exact e_ret (pc := 88) (v := some (vI ((10 * x1) + x2))) dX6_firstQuarrel_88 rfl trivial ⟨_, rfl, H⟩
            have J2 : ¬ (((g2 39 x1) = (g2 39 x2)) ∧ (((g2 40 x1) = (g2 40 x2)) ∧ (((g2 41 x1) = (g2 41 x2)) ∧ (¬ (g2 42 x1) = (g2 42 x2))))) → Ev w Y_X6_firstQuarrel 89 [some (vR 6), some (vI x1), some (vI x2)] [] g2 (rI K) := by
              intro hp
              have H := H.2 hp
              refine e_iinc (lv' := [some (vR 6), some (vI x1), some (vI (x2 + 1))]) (pc := 89) dX6_firstQuarrel_89 rfl H.1 rfl rfl ?_
              have H := H.2
              refine e_goto (pc := 92) (tgt := 14) dX6_firstQuarrel_92 (by decide) ?_
              obtain ⟨m, hm, H⟩ := H
              exact ih2 m hm _ _ _ H
            refine e_icmp_ne (pc := 34) (tgt := 89) dX6_firstQuarrel_34 (by decide) (fun c3 => ?_) (fun c3 => ?_)
            · have Ho := Ho.1 c3
              exact J2 (fun z => c3 z.1)
            · have Ho := Ho.2 c3
              refine e_aload_n (pc := 37) dX6_firstQuarrel_37 rfl rfl ?_
              refine e_getR (q := 6) (ci := 6) (k := 3) (y := 40) (C := RX6) (T := TX6) (N := 10) (pc := 38) dX6_firstQuarrel_38 rfl rfl ev_in6 rfl ul_2_3 ⟨rfl, rfl⟩ rfl ?_
              refine e_iload_n (pc := 41) dX6_firstQuarrel_41 rfl rfl ?_
              refine e_iald (q := 40) (x := (g2 40 x1)) (pc := 42) dX6_firstQuarrel_42 rfl Ho.1 rfl ?_
              have Ho := Ho.2
              refine e_aload_n (pc := 43) dX6_firstQuarrel_43 rfl rfl ?_
              refine e_getR (q := 6) (ci := 6) (k := 3) (y := 40) (C := RX6) (T := TX6) (N := 10) (pc := 44) dX6_firstQuarrel_44 rfl rfl ev_in6 rfl ul_2_3 ⟨rfl, rfl⟩ rfl ?_
              refine e_iload_n (pc := 47) dX6_firstQuarrel_47 rfl rfl ?_
              refine e_iald (q := 40) (x := (g2 40 x2)) (pc := 48) dX6_firstQuarrel_48 rfl Ho.1 rfl ?_
              have Ho := Ho.2
              refine e_icmp_ne (pc := 49) (tgt := 89) dX6_firstQuarrel_49 (by decide) (fun c4 => ?_) (fun c4 => ?_)
              · have Ho := Ho.1 c4
                exact J2 (fun z => (fun z => c4 z.1) z.2)
              · have Ho := Ho.2 c4
                refine e_aload_n (pc := 52) dX6_firstQuarrel_52 rfl rfl ?_
                refine e_getR (q := 6) (ci := 6) (k := 4) (y := 41) (C := RX6) (T := TX6) (N := 10) (pc := 53) dX6_firstQuarrel_53 rfl rfl ev_in6 rfl ul_2_4 ⟨rfl, rfl⟩ rfl ?_
                refine e_iload_n (pc := 56) dX6_firstQuarrel_56 rfl rfl ?_
                refine e_iald (q := 41) (x := (g2 41 x1)) (pc := 57) dX6_firstQuarrel_57 rfl Ho.1 rfl ?_
                have Ho := Ho.2
                refine e_aload_n (pc := 58) dX6_firstQuarrel_58 rfl rfl ?_
                refine e_getR (q := 6) (ci := 6) (k := 4) (y := 41) (C := RX6) (T := TX6) (N := 10) (pc := 59) dX6_firstQuarrel_59 rfl rfl ev_in6 rfl ul_2_4 ⟨rfl, rfl⟩ rfl ?_
                refine e_iload_n (pc := 62) dX6_firstQuarrel_62 rfl rfl ?_
                refine e_iald (q := 41) (x := (g2 41 x2)) (pc := 63) dX6_firstQuarrel_63 rfl Ho.1 rfl ?_
                have Ho := Ho.2
                refine e_icmp_ne (pc := 64) (tgt := 89) dX6_firstQuarrel_64 (by decide) (fun c5 => ?_) (fun c5 => ?_)
                · have Ho := Ho.1 c5
                  exact J2 (fun z => (fun z => (fun z => c5 z.1) z.2) z.2)
                · have Ho := Ho.2 c5
                  refine e_aload_n (pc := 67) dX6_firstQuarrel_67 rfl rfl ?_
                  refine e_getR (q := 6) (ci := 6) (k := 5) (y := 42) (C := RX6) (T := TX6) (N := 10) (pc := 68) dX6_firstQuarrel_68 rfl rfl ev_in6 rfl ul_2_5 ⟨rfl, rfl⟩ rfl ?_
                  refine e_iload_n (pc := 71) dX6_firstQuarrel_71 rfl rfl ?_
                  refine e_iald (q := 42) (x := (g2 42 x1)) (pc := 72) dX6_firstQuarrel_72 rfl Ho.1 rfl ?_
                  have Ho := Ho.2
                  refine e_aload_n (pc := 73) dX6_firstQuarrel_73 rfl rfl ?_
                  refine e_getR (q := 6) (ci := 6) (k := 5) (y := 42) (C := RX6) (T := TX6) (N := 10) (pc := 74) dX6_firstQuarrel_74 rfl rfl ev_in6 rfl ul_2_5 ⟨rfl, rfl⟩ rfl ?_
                  refine e_iload_n (pc := 77) dX6_firstQuarrel_77 rfl rfl ?_
                  refine e_iald (q := 42) (x := (g2 42 x2)) (pc := 78) dX6_firstQuarrel_78 rfl Ho.1 rfl ?_
                  have Ho := Ho.2
                  refine e_icmp_eq (pc := 79) (tgt := 89) dX6_firstQuarrel_79 (by decide) (fun c6 => ?_) (fun c6 => ?_)
                  · exact J2 (fun z => (fun z => (fun z => (fun z => z c6) z.2) z.2) z.2)
                  · exact J1 ⟨c3, ⟨c4, ⟨c5, c6⟩⟩⟩
      intro x1 g1 H
      have H := H1 n1 x1 g1 H
      refine e_iload_n (pc := 2) dX6_firstQuarrel_2 rfl rfl ?_
      refine e_aload_n (pc := 3) dX6_firstQuarrel_3 rfl rfl ?_
      refine e_getI (q := 6) (ci := 6) (k := 7) (kz := 7) (C := RX6) (T := TX6) (N := 10) (x := (g1 6 7)) (pc := 4) dX6_firstQuarrel_4 rfl rfl rfl ev_in6 rfl ul_2_7 ⟨rfl, by decide⟩ rfl ?_
      refine e_icmp_ge (pc := 7) (tgt := 101) dX6_firstQuarrel_7 (by decide) (fun c1 => ?_) (fun c1 => ?_)
      · have H := H.1 c1
        refine e_bipush (pc := 101) dX6_firstQuarrel_101 ⟨by decide, by decide⟩ (by decide) ?_
        exact e_ret (pc := 103) (v := some (vI (-4))) dX6_firstQuarrel_103 rfl trivial ⟨_, rfl, H⟩
      · have H := H.2 c1
        refine e_iload_n (pc := 10) dX6_firstQuarrel_10 rfl rfl ?_
        refine e_iconst (pc := 11) dX6_firstQuarrel_11 ⟨by decide, by decide⟩ ?_
        refine e_iadd (pc := 12) dX6_firstQuarrel_12 H.1 ?_
        have H := H.2
        refine e_istore_n (lv' := [some (vR 6), some (vI x1), some (vI (x1 + 1))]) (pc := 13) dX6_firstQuarrel_13 rfl rfl rfl ?_
        obtain ⟨m, H⟩ := H
        exact L2 m _ _ _ H
  refine e_iconst (pc := 0) dX6_firstQuarrel_0 ⟨by decide, by decide⟩ ?_
  refine e_istore_n (lv' := [some (vR 6), some (vI 0), none]) (pc := 1) dX6_firstQuarrel_1 rfl rfl rfl ?_
  obtain ⟨m, H⟩ := H
  exact L1 m _ _ H
set_option maxRecDepth 100000 in
set_option maxHeartbeats 4000000 in
theorem c_X6_firstQuarrel (w : WD)  (h : HP) (H : 0 ≤ h 6 7 ∧ h 6 7 ≤ 8) : Ev w Y_X6_firstQuarrel 0 [some (vR 6), none, none] [] h (rI (fun r h' => r = (qrl (fun a b => h 39 a = h 39 b ∧ h 40 a = h 40 b ∧ h 41 a = h 41 b ∧ ¬ h 42 a = h 42 b) (h 6 7).toNat) ∧ h' = h)) := by
  generalize hp : (fun a b : Int => h 39 a = h 39 b ∧ h 40 a = h 40 b ∧ h 41 a = h 41 b ∧ ¬ h 42 a = h 42 b) = p
  have hpe : ∀ a b : Int, p a b ↔ (h 39 a = h 39 b ∧ h 40 a = h 40 b ∧ h 41 a = h 41 b ∧ ¬ h 42 a = h 42 b) := fun a b => by rw [← hp]
  refine v_X6_firstQuarrel w h _ (fun n x1 g => g = h ∧ ∃ k : Nat, x1 = (k : Int) ∧ (k : Int) ≤ h 6 7 ∧ n = (8 - x1).toNat ∧ ∀ a b : Int, 0 ≤ a → a < (k : Int) → a < b → b < h 6 7 → ¬ p a b)
    (fun n1 n2 x1 x2 g => g = h ∧ ∃ k m : Nat, x1 = (k : Int) ∧ (k : Int) < h 6 7 ∧ n1 = (8 - x1).toNat ∧ x2 = (m : Int) ∧ k < m ∧ (m : Int) ≤ h 6 7 ∧ n2 = (8 - x2).toNat ∧ (∀ a b : Int, 0 ≤ a → a < (k : Int) → a < b → b < h 6 7 → ¬ p a b) ∧ ∀ b : Int, (k : Int) < b → b < (m : Int) → ¬ p (k : Int) b) ⟨8, rfl, 0, rfl, by omega, rfl, fun a b y0 y1 => by omega⟩ ?_ ?_
  · rintro n x1 g ⟨rfl, k, rfl, hk, rfl, hn⟩
    refine ⟨fun c => ⟨(qrl_none (fun i j a b d => hn i j a (by omega) b (by omega))).symm, rfl⟩, fun c => ⟨⟨by omega, by omega⟩, 8 - (k + 1), rfl, k, k + 1, rfl, by omega, rfl, by omega, by omega, by omega, by omega, hn, fun b y0 y1 => by omega⟩⟩
  · rintro n1 n2 x1 x2 g ⟨rfl, k, m, rfl, hk, rfl, rfl, hkm, hm, rfl, hn, hn2⟩
    refine ⟨fun c => ⟨⟨by omega, by omega⟩, (8 - ((k + 1 : Nat) : Int)).toNat, by omega, rfl, k + 1, by omega, by omega, by omega, fun a b y0 y1 y2 y3 => ?_⟩, fun c => ⟨by omega, by omega, ⟨fun _ => trivial, fun _ => ⟨by omega, by omega, fun _ => trivial, fun _ => ⟨by omega, by omega, fun _ => trivial, fun _ => ⟨by omega, by omega, trivial⟩⟩⟩⟩, fun z => ⟨⟨by omega, by omega⟩, ⟨by omega, by omega⟩, ?_, rfl⟩, fun z => ⟨⟨by omega, by omega⟩, (8 - ((m + 1 : Nat) : Int)).toNat, by omega, rfl, k, m + 1, rfl, hk, rfl, by omega, by omega, by omega, by omega, hn, fun b y0 y1 => ?_⟩⟩⟩
    · by_cases e : a = (k : Int)
      · subst e; exact hn2 b y2 (by omega)
      · exact hn a b y0 (by omega) y2 y3
    · exact (qrl_at hkm (by omega) ((hpe _ _).mpr z) (fun a b y0 y1 y2 y3 => hn a b y0 y1 y2 (by omega)) hn2).symm
    · by_cases e : b = (m : Int)
      · subst e; exact fun y => z ((hpe _ _).mp y)
      · exact hn2 b y0 (by omega)
