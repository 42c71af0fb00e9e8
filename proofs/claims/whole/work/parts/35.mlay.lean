/-! all readings, as the reference lays them -/
def R0 : RD := (0, fun _ => 0, fun _ => 0, fun _ => 0, fun _ => 0)
def aft (KD : Int → Int) (pr : Int → Int → Int → Int) (lim a b : Int) (R : RD) : RD := if (KD b = 1 ∨ KD b = 3) ∧ pr a b (-1) ≤ lim then ofr R (pr a b (-1)) a b (-1) else R
theorem rl2_s (KD : Int → Int) (pr : Int → Int → Int → Int) (lim a : Int) (N k : Nat) (R : RD) : rl2 KD pr lim a N (k + 1) R = if KD (k : Int) = 1 then rl3 KD pr lim a (k : Int) N (aft KD pr lim a (k : Int) (rl2 KD pr lim a N k R)) else aft KD pr lim a (k : Int) (rl2 KD pr lim a N k R) := by
  simp only [rl2, aft]
  by_cases c1 : KD (k : Int) = 1
  · rw [if_pos c1, if_pos c1]
    by_cases c2 : pr a (k : Int) (-1) ≤ lim
    · rw [if_pos c2, if_pos ⟨Or.inl c1, c2⟩]
    · rw [if_neg c2, if_neg (fun z => c2 z.2)]
  · rw [if_neg c1, if_neg c1]
    by_cases c2 : KD (k : Int) = 3 ∧ pr a (k : Int) (-1) ≤ lim
    · rw [if_pos c2, if_pos ⟨Or.inr c2.1, c2.2⟩]
    · rw [if_neg c2, if_neg (fun z => c2 ⟨by rcases z.1 with y | y; exact absurd y c1; exact y, z.2⟩)]
def S_X9_layReadings (h : HP) (K : HP → Prop) : Prop := (mVOK h ∧ mHRD h) ∧ ∀ h' : HP, frT h h' → rpM h' (rl1 (h 64) (prM h) (h 68 0) (h 55 10).toNat (h 55 10).toNat R0) → K h'
set_option maxRecDepth 100000 in
set_option maxHeartbeats 4000000 in
theorem v_X9_layReadings (w : WD)  (h : HP) (K : HP → Prop) 
    (I1 : Nat → Int → HP → Prop)
    (I2 : Nat → Nat → Int → Int → HP → Prop)
    (I3 : Nat → Nat → Nat → Int → Int → Int → HP → Prop)
    (H : (∃ m : Nat, I1 m 0 (sth h 55 23 0)))
    (H1 : ∀ (n1 : Nat) (x1 : Int) (g1 : HP), I1 n1 x1 g1 → (((g1 55 10) ≤ x1 → K g1) ∧ (¬ (g1 55 10) ≤ x1 → (∃ m : Nat, I2 n1 m x1 0 g1))))
    (H2 : ∀ (n1 : Nat) (n2 : Nat) (x1 : Int) (x2 : Int) (g2 : HP), I2 n1 n2 x1 x2 g2 → (((((g2 55 10) ≤ x2 → True) ∧ (¬ (g2 55 10) ≤ x2 → ((0 ≤ x1 ∧ x1 < 16) ∧ True)))) ∧ (((((g2 55 10) ≤ x2) ∨ (¬ (g2 64 x1) = 0)) → ((iR (x1 + 1)) ∧ (∃ m : Nat, m < n1 ∧ I1 m (x1 + 1) g2))) ∧ (¬ (((g2 55 10) ≤ x2) ∨ (¬ (g2 64 x1) = 0)) → ((0 ≤ x2 ∧ x2 < 16) ∧ (((((g2 64 x2) = 1 → True) ∧ (¬ (g2 64 x2) = 1 → ((0 ≤ x2 ∧ x2 < 16) ∧ True)))) ∧ (((((g2 64 x2) = 1) ∨ ((g2 64 x2) = 3)) → (S_X9_take x1 x2 (-4) g2 (fun h21 => (∃ m : Nat, I3 n1 n2 m x1 x2 0 h21)))) ∧ (¬ (((g2 64 x2) = 1) ∨ ((g2 64 x2) = 3)) → (∃ m : Nat, I3 n1 n2 m x1 x2 0 g2)))))))))
    (H3 : ∀ (n1 : Nat) (n2 : Nat) (n3 : Nat) (x1 : Int) (x2 : Int) (x3 : Int) (g3 : HP), I3 n1 n2 n3 x1 x2 x3 g3 → (((((g3 55 10) ≤ x3 → True) ∧ (¬ (g3 55 10) ≤ x3 → ((0 ≤ x2 ∧ x2 < 16) ∧ True)))) ∧ (((((g3 55 10) ≤ x3) ∨ (¬ (g3 64 x2) = 1)) → ((iR (x2 + 1)) ∧ (∃ m : Nat, m < n2 ∧ I2 n1 m x1 (x2 + 1) g3))) ∧ (¬ (((g3 55 10) ≤ x3) ∨ (¬ (g3 64 x2) = 1)) → ((0 ≤ x3 ∧ x3 < 16) ∧ ((¬ (g3 64 x3) = 2 → ((iR (x3 + 1)) ∧ (∃ m : Nat, m < n3 ∧ I3 n1 n2 m x1 x2 (x3 + 1) g3))) ∧ ((g3 64 x3) = 2 → (S_X9_take x1 x2 x3 g3 (fun h22 => ((iR (x3 + 1)) ∧ (∃ m : Nat, m < n3 ∧ I3 n1 n2 m x1 x2 (x3 + 1) h22))))))))))) :
    Ev w Y_X9_layReadings 0 [some (vR 55), none, none, none] [] h (rV K) := by
  have L1 : ∀ (n1 : Nat) (x1 : Int) (g1 : HP), I1 n1 x1 g1 → Ev w Y_X9_layReadings 7 [some (vR 55), some (vI x1), none, none] [] g1 (rV K) := by
    intro n1
    induction n1 using Nat.strongRecOn with
    | ind n1 ih1 =>
      have L2 : ∀ (n2 : Nat) (x1 : Int) (x2 : Int) (g2 : HP), I2 n1 n2 x1 x2 g2 → Ev w Y_X9_layReadings 17 [some (vR 55), some (vI x1), some (vI x2), none] [] g2 (rV K) := by
        intro n2
        induction n2 using Nat.strongRecOn with
        | ind n2 ih2 =>
          have L3 : ∀ (n3 : Nat) (x1 : Int) (x2 : Int) (x3 : Int) (g3 : HP), I3 n1 n2 n3 x1 x2 x3 g3 → Ev w Y_X9_layReadings 64 [some (vR 55), some (vI x1), some (vI x2), some (vI x3)] [] g3 (rV K) := by
            intro n3
            induction n3 using Nat.strongRecOn with
            | ind n3 ih3 =>
              intro x1 x2 x3 g3 H
              have H := H3 n1 n2 n3 x1 x2 x3 g3 H
              refine e_iload_n (pc := 64) dX9_layReadings_64 rfl rfl ?_
              refine e_aload_n (pc := 65) dX9_layReadings_65 rfl rfl ?_
              refine e_getI (q := 55) (ci := 9) (k := 10) (kz := 10) (C := RX9) (T := TX9) (N := 52) (x := (g3 55 10)) (pc := 66) dX9_layReadings_66 rfl rfl rfl ev_in9 rfl ul_4_192 ⟨rfl, by decide⟩ rfl ?_
              have Ho := H.1
              have H := H.2
              have J1 : (((g3 55 10) ≤ x3) ∨ (¬ (g3 64 x2) = 1)) → Ev w Y_X9_layReadings 105 [some (vR 55), some (vI x1), some (vI x2), some (vI x3)] [] g3 (rV K) := by
                intro hp
                have H := H.1 hp
                refine e_iinc (lv' := [some (vR 55), some (vI x1), some (vI (x2 + 1)), some (vI x3)]) (pc := 105) dX9_layReadings_105 rfl H.1 rfl rfl ?_
                have H := H.2
                refine e_goto (pc := 108) (tgt := 17) dX9_layReadings_108 (by decide) ?_
                refine e_mask [true, true, true, false] rfl ?_
                obtain ⟨m, hm, H⟩ := H
                exact ih2 m hm _ _ _ H
              have J2 : ¬ (((g3 55 10) ≤ x3) ∨ (¬ (g3 64 x2) = 1)) → Ev w Y_X9_layReadings 82 [some (vR 55), some (vI x1), some (vI x2), some (vI x3)] [] g3 (rV K) := by
                intro hp
                have H := H.2 hp
                refine e_aload_n (pc := 82) dX9_layReadings_82 rfl rfl ?_
                refine e_getR (q := 55) (ci := 9) (k := 11) (y := 64) (C := RX9) (T := TX9) (N := 52) (pc := 83) dX9_layReadings_83 rfl rfl ev_in9 rfl ul_4_193 ⟨rfl, rfl⟩ rfl ?_
                refine e_iload_n (pc := 86) dX9_layReadings_86 rfl rfl ?_
                refine e_iald (q := 64) (x := (g3 64 x3)) (pc := 87) dX9_layReadings_87 rfl H.1 rfl ?_
                have H := H.2
                refine e_iconst (pc := 88) dX9_layReadings_88 ⟨by decide, by decide⟩ ?_
                refine e_icmp_ne (pc := 89) (tgt := 99) dX9_layReadings_89 (by decide) (fun c6 => ?_) (fun c6 => ?_)
                · have H := H.1 c6
                  refine e_iinc (lv' := [some (vR 55), some (vI x1), some (vI x2), some (vI (x3 + 1))]) (pc := 99) dX9_layReadings_99 rfl H.1 rfl rfl ?_
                  have H := H.2
                  refine e_goto (pc := 102) (tgt := 64) dX9_layReadings_102 (by decide) ?_
                  obtain ⟨m, hm, H⟩ := H
                  exact ih3 m hm _ _ _ _ H
                · have H := H.2 c6
                  refine e_aload_n (pc := 92) dX9_layReadings_92 rfl rfl ?_
                  refine e_iload_n (pc := 93) dX9_layReadings_93 rfl rfl ?_
                  refine e_iload_n (pc := 94) dX9_layReadings_94 rfl rfl ?_
                  refine e_iload_n (pc := 95) dX9_layReadings_95 rfl rfl ?_
                  refine e_invV (pc := 96) (Y' := Y_X9_take) (as := [vI x1, vI x2, vI x3]) (st := []) (lv0 := [some (vR 55), some (vI x1), some (vI x2), some (vI x3), none, none, none, none, none]) (q := 55) (ci := 9) (T := TX9) (N := 52) dX9_layReadings_96 m_X9_take ul_5_202 ⟨ul_5_204, us_X9_take⟩ ⟨rfl, rfl⟩ rfl rfl rfl rfl rfl rfl rfl (c_X9_take w x1 x2 x3 g3 _ H) ?_
                  rintro _ h22 ⟨rfl, H⟩
                  show Ev w Y_X9_layReadings 99 [some (vR 55), some (vI x1), some (vI x2), some (vI x3)] [] h22 (rV K)
                  refine e_iinc (lv' := [some (vR 55), some (vI x1), some (vI x2), some (vI (x3 + 1))]) (pc := 99) dX9_layReadings_99 rfl H.1 rfl rfl ?_
                  have H := H.2
                  refine e_goto (pc := 102) (tgt := 64) dX9_layReadings_102 (by decide) ?_
                  obtain ⟨m, hm, H⟩ := H
                  exact ih3 m hm _ _ _ _ H
              refine e_icmp_ge (pc := 69) (tgt := 105) dX9_layReadings_69 (by decide) (fun c7 => ?_) (fun c7 => ?_)
              · have Ho := Ho.1 c7
                exact J1 (Or.inl c7)
              · have Ho := Ho.2 c7
                refine e_aload_n (pc := 72) dX9_layReadings_72 rfl rfl ?_
                refine e_getR (q := 55) (ci := 9) (k := 11) (y := 64) (C := RX9) (T := TX9) (N := 52) (pc := 73) dX9_layReadings_73 rfl rfl ev_in9 rfl ul_4_193 ⟨rfl, rfl⟩ rfl ?_
                refine e_iload_n (pc := 76) dX9_layReadings_76 rfl rfl ?_
                refine e_iald (q := 64) (x := (g3 64 x2)) (pc := 77) dX9_layReadings_77 rfl Ho.1 rfl ?_
                have Ho := Ho.2
                refine e_iconst (pc := 78) dX9_layReadings_78 ⟨by decide, by decide⟩ ?_
                refine e_icmp_ne (pc := 79) (tgt := 105) dX9_layReadings_79 (by decide) (fun c8 => ?_) (fun c8 => ?_)
                · exact J1 (Or.inr c8)
                · exact J2 (fun z => z.elim c7 (fun z => z c8))
          intro x1 x2 g2 H
          have H := H2 n1 n2 x1 x2 g2 H
          refine e_iload_n (pc := 17) dX9_layReadings_17 rfl rfl ?_
          refine e_aload_n (pc := 18) dX9_layReadings_18 rfl rfl ?_
          refine e_getI (q := 55) (ci := 9) (k := 10) (kz := 10) (C := RX9) (T := TX9) (N := 52) (x := (g2 55 10)) (pc := 19) dX9_layReadings_19 rfl rfl rfl ev_in9 rfl ul_4_192 ⟨rfl, by decide⟩ rfl ?_
          have Ho := H.1
          have H := H.2
          have J1 : (((g2 55 10) ≤ x2) ∨ (¬ (g2 64 x1) = 0)) → Ev w Y_X9_layReadings 111 [some (vR 55), some (vI x1), some (vI x2), none] [] g2 (rV K) := by
            intro hp
            have H := H.1 hp
            refine e_iinc (lv' := [some (vR 55), some (vI (x1 + 1)), some (vI x2), none]) (pc := 111) dX9_layReadings_111 rfl H.1 rfl rfl ?_
            have H := H.2
            refine e_goto (pc := 114) (tgt := 7) dX9_layReadings_114 (by decide) ?_
            refine e_mask [true, true, false, false] rfl ?_
            obtain ⟨m, hm, H⟩ := H
            exact ih1 m hm _ _ H
          have J2 : ¬ (((g2 55 10) ≤ x2) ∨ (¬ (g2 64 x1) = 0)) → Ev w Y_X9_layReadings 34 [some (vR 55), some (vI x1), some (vI x2), none] [] g2 (rV K) := by
            intro hp
            have H := H.2 hp
            refine e_aload_n (pc := 34) dX9_layReadings_34 rfl rfl ?_
            refine e_getR (q := 55) (ci := 9) (k := 11) (y := 64) (C := RX9) (T := TX9) (N := 52) (pc := 35) dX9_layReadings_35 rfl rfl ev_in9 rfl ul_4_193 ⟨rfl, rfl⟩ rfl ?_
            refine e_iload_n (pc := 38) dX9_layReadings_38 rfl rfl ?_
            refine e_iald (q := 64) (x := (g2 64 x2)) (pc := 39) dX9_layReadings_39 rfl H.1 rfl ?_
            have H := H.2
            refine e_iconst (pc := 40) dX9_layReadings_40 ⟨by decide, by decide⟩ ?_
            have Ho := H.1
            have H := H.2
            have J1 : (((g2 64 x2) = 1) ∨ ((g2 64 x2) = 3)) → Ev w Y_X9_layReadings 54 [some (vR 55), some (vI x1), some (vI x2), none] [] g2 (rV K) := by
              intro hp
              have H := H.1 hp
              refine e_aload_n (pc := 54) dX9_layReadings_54 rfl rfl ?_
              refine e_iload_n (pc := 55) dX9_layReadings_55 rfl rfl ?_
              refine e_iload_n (pc := 56) dX9_layReadings_56 rfl rfl ?_
              refine e_bipush (pc := 57) dX9_layReadings_57 ⟨by decide, by decide⟩ (by decide) ?_
              refine e_invV (pc := 59) (Y' := Y_X9_take) (as := [vI x1, vI x2, vI (-4)]) (st := []) (lv0 := [some (vR 55), some (vI x1), some (vI x2), some (vI (-4)), none, none, none, none, none]) (q := 55) (ci := 9) (T := TX9) (N := 52) dX9_layReadings_59 m_X9_take ul_5_202 ⟨ul_5_204, us_X9_take⟩ ⟨rfl, rfl⟩ rfl rfl rfl rfl rfl rfl rfl (c_X9_take w x1 x2 (-4) g2 _ H) ?_
              rintro _ h21 ⟨rfl, H⟩
              show Ev w Y_X9_layReadings 62 [some (vR 55), some (vI x1), some (vI x2), none] [] h21 (rV K)
              refine e_iconst (pc := 62) dX9_layReadings_62 ⟨by decide, by decide⟩ ?_
              refine e_istore_n (lv' := [some (vR 55), some (vI x1), some (vI x2), some (vI 0)]) (pc := 63) dX9_layReadings_63 rfl rfl rfl ?_
              obtain ⟨m, H⟩ := H
              exact L3 m _ _ _ _ H
            have J2 : ¬ (((g2 64 x2) = 1) ∨ ((g2 64 x2) = 3)) → Ev w Y_X9_layReadings 62 [some (vR 55), some (vI x1), some (vI x2), none] [] g2 (rV K) := by
              intro hp
              have H := H.2 hp
              refine e_iconst (pc := 62) dX9_layReadings_62 ⟨by decide, by decide⟩ ?_
              refine e_istore_n (lv' := [some (vR 55), some (vI x1), some (vI x2), some (vI 0)]) (pc := 63) dX9_layReadings_63 rfl rfl rfl ?_
              obtain ⟨m, H⟩ := H
              exact L3 m _ _ _ _ H
            refine e_icmp_eq (pc := 41) (tgt := 54) dX9_layReadings_41 (by decide) (fun c2 => ?_) (fun c2 => ?_)
            · have Ho := Ho.1 c2
              exact J1 (Or.inl c2)
            · have Ho := Ho.2 c2
              refine e_aload_n (pc := 44) dX9_layReadings_44 rfl rfl ?_
              refine e_getR (q := 55) (ci := 9) (k := 11) (y := 64) (C := RX9) (T := TX9) (N := 52) (pc := 45) dX9_layReadings_45 rfl rfl ev_in9 rfl ul_4_193 ⟨rfl, rfl⟩ rfl ?_
              refine e_iload_n (pc := 48) dX9_layReadings_48 rfl rfl ?_
              refine e_iald (q := 64) (x := (g2 64 x2)) (pc := 49) dX9_layReadings_49 rfl Ho.1 rfl ?_
              have Ho := Ho.2
              refine e_iconst (pc := 50) dX9_layReadings_50 ⟨by decide, by decide⟩ ?_
              refine e_icmp_ne (pc := 51) (tgt := 62) dX9_layReadings_51 (by decide) (fun c3 => ?_) (fun c3 => ?_)
              · exact J2 (fun z => z.elim c2 c3)
              · exact J1 (Or.inr c3)
          refine e_icmp_ge (pc := 22) (tgt := 111) dX9_layReadings_22 (by decide) (fun c4 => ?_) (fun c4 => ?_)
          · have Ho := Ho.1 c4
            exact J1 (Or.inl c4)
          · have Ho := Ho.2 c4
            refine e_aload_n (pc := 25) dX9_layReadings_25 rfl rfl ?_
            refine e_getR (q := 55) (ci := 9) (k := 11) (y := 64) (C := RX9) (T := TX9) (N := 52) (pc := 26) dX9_layReadings_26 rfl rfl ev_in9 rfl ul_4_193 ⟨rfl, rfl⟩ rfl ?_
            refine e_iload_n (pc := 29) dX9_layReadings_29 rfl rfl ?_
            refine e_iald (q := 64) (x := (g2 64 x1)) (pc := 30) dX9_layReadings_30 rfl Ho.1 rfl ?_
            have Ho := Ho.2
            refine e_if_ne (pc := 31) (tgt := 111) dX9_layReadings_31 (by decide) (fun c5 => ?_) (fun c5 => ?_)
            · exact J1 (Or.inr c5)
            · exact J2 (fun z => z.elim c4 (fun z => z c5))
      intro x1 g1 H
      have H := H1 n1 x1 g1 H
      refine e_iload_n (pc := 7) dX9_layReadings_7 rfl rfl ?_
      refine e_aload_n (pc := 8) dX9_layReadings_8 rfl rfl ?_
      refine e_getI (q := 55) (ci := 9) (k := 10) (kz := 10) (C := RX9) (T := TX9) (N := 52) (x := (g1 55 10)) (pc := 9) dX9_layReadings_9 rfl rfl rfl ev_in9 rfl ul_4_192 ⟨rfl, by decide⟩ rfl ?_
      refine e_icmp_ge (pc := 12) (tgt := 117) dX9_layReadings_12 (by decide) (fun c1 => ?_) (fun c1 => ?_)
      · have H := H.1 c1
        exact e_ret (pc := 117) (v := none) dX9_layReadings_117 rfl trivial ⟨rfl, H⟩
      · have H := H.2 c1
        refine e_iconst (pc := 15) dX9_layReadings_15 ⟨by decide, by decide⟩ ?_
        refine e_istore_n (lv' := [some (vR 55), some (vI x1), some (vI 0), none]) (pc := 16) dX9_layReadings_16 rfl rfl rfl ?_
        obtain ⟨m, H⟩ := H
        exact L2 m _ _ _ H
  refine e_aload_n (pc := 0) dX9_layReadings_0 rfl rfl ?_
  refine e_iconst (pc := 1) dX9_layReadings_1 ⟨by decide, by decide⟩ ?_
  refine e_put (q := 55) (ci := 9) (k := 23) (kz := 23) (C := RX9) (T := TX9) (N := 52) (ty := .int) (pc := 2) dX9_layReadings_2 rfl rfl rfl ev_in9 tyX9 tyX9_ok nmX9 rfl ul_4_205 ⟨rfl, by decide⟩ rfl (tyX9_ok 23 (by decide)) (Or.inl rfl) ?_
  refine e_iconst (pc := 5) dX9_layReadings_5 ⟨by decide, by decide⟩ ?_
  refine e_istore_n (lv' := [some (vR 55), some (vI 0), none, none]) (pc := 6) dX9_layReadings_6 rfl rfl rfl ?_
  obtain ⟨m, H⟩ := H
  exact L1 m _ _ H
set_option maxRecDepth 100000 in
set_option maxHeartbeats 4000000 in
theorem c_X9_layReadings (w : WD)  (h : HP) (K : HP → Prop)  (H : S_X9_layReadings  h K) : Ev w Y_X9_layReadings 0 [some (vR 55), none, none, none] [] h (rV K) := by
  obtain ⟨⟨hV, hH⟩, HK⟩ := H
  have h16 := hV.1
  refine v_X9_layReadings w h K (fun n x1 g => ∃ ka : Nat, x1 = (ka : Int) ∧ (ka : Int) ≤ h 55 10 ∧ n = (h 55 10 - (ka : Int)).toNat ∧ frT h g ∧ rpM g (rl1 (h 64) (prM h) (h 68 0) (h 55 10).toNat ka R0))
    (fun n1 n2 x1 x2 g => ∃ ka kb : Nat, x1 = (ka : Int) ∧ (ka : Int) < h 55 10 ∧ n1 = (h 55 10 - (ka : Int)).toNat ∧ x2 = (kb : Int) ∧ (kb : Int) ≤ h 55 10 ∧ n2 = (h 55 10 - (kb : Int)).toNat ∧ frT h g ∧ ∃ R : RD, rpM g R ∧ (h 64 (ka : Int) = 0 → R = rl2 (h 64) (prM h) (h 68 0) (ka : Int) (h 55 10).toNat kb (rl1 (h 64) (prM h) (h 68 0) (h 55 10).toNat ka R0)) ∧ (¬ h 64 (ka : Int) = 0 → R = rl1 (h 64) (prM h) (h 68 0) (h 55 10).toNat ka R0))
    (fun n1 n2 n3 x1 x2 x3 g => ∃ ka kb kc : Nat, x1 = (ka : Int) ∧ (ka : Int) < h 55 10 ∧ n1 = (h 55 10 - (ka : Int)).toNat ∧ x2 = (kb : Int) ∧ (kb : Int) < h 55 10 ∧ n2 = (h 55 10 - (kb : Int)).toNat ∧ x3 = (kc : Int) ∧ (kc : Int) ≤ h 55 10 ∧ n3 = (h 55 10 - (kc : Int)).toNat ∧ frT h g ∧ h 64 (ka : Int) = 0 ∧ ∃ R : RD, rpM g R ∧ (h 64 (kb : Int) = 1 → R = rl3 (h 64) (prM h) (h 68 0) (ka : Int) (kb : Int) kc (aft (h 64) (prM h) (h 68 0) (ka : Int) (kb : Int) (rl2 (h 64) (prM h) (h 68 0) (ka : Int) (h 55 10).toNat kb (rl1 (h 64) (prM h) (h 68 0) (h 55 10).toNat ka R0)))) ∧ (¬ h 64 (kb : Int) = 1 → R = aft (h 64) (prM h) (h 68 0) (ka : Int) (kb : Int) (rl2 (h 64) (prM h) (h 68 0) (ka : Int) (h 55 10).toNat kb (rl1 (h 64) (prM h) (h 68 0) (h 55 10).toNat ka R0))))
    ⟨(h 55 10).toNat, 0, rfl, by omega, by omega, ⟨fun q _ _ _ _ a5 => sth_ne a5, fun i a1 _ => by rw [sth_eq, us_n a1]⟩, by rw [sth_eq, us_s]; rfl, (show (0 : Nat) ≤ 12 by decide), fun i i0 i1 => absurd i1 (by simp only [rl1, R0]; omega)⟩ ?_ ?_ ?_
  · rintro n x1 g ⟨ka, rfl, hka, rfl, hf, hr⟩
    rw [hf.2 10 (by decide) (by decide)]
    refine ⟨fun z => HK g hf (by rw [show ka = (h 55 10).toNat by omega] at hr; exact hr), fun z => ⟨(h 55 10).toNat, ka, 0, rfl, by omega, rfl, rfl, by omega, by omega, hf, _, hr, fun _ => rfl, fun _ => rfl⟩⟩
  · rintro n1 n2 x1 x2 g ⟨ka, kb, rfl, hka, rfl, rfl, hkb, rfl, hf, R, hr, r1, r2⟩
    have g10 : g 55 10 = h 55 10 := hf.2 10 (by decide) (by decide)
    have g64 : g 64 = h 64 := frT_q hf 64 (by decide)
    rw [g10, g64]
    refine ⟨⟨fun _ => trivial, fun _ => ⟨by omega, trivial⟩⟩, fun z => ⟨⟨by omega, by omega⟩, (h 55 10 - ((ka + 1 : Nat) : Int)).toNat, by omega, ka + 1, by omega, by omega, rfl, hf, ?_⟩, fun z => ⟨by omega, ⟨fun _ => trivial, fun _ => ⟨by omega, trivial⟩⟩, fun c => ?_, fun c => ?_⟩⟩
    · simp only [rl1]
      by_cases c : h 64 (ka : Int) = 0
      · rw [if_pos c]
        rcases z with z | z
        · rw [r1 c, show kb = (h 55 10).toNat by omega] at hr
          exact hr
        · exact absurd c z
      · rw [if_neg c]
        rw [r2 c] at hr
        exact hr
    · have c0 : h 64 (ka : Int) = 0 := by by_cases c : h 64 (ka : Int) = 0; exact c; exact absurd (Or.inr c) z
      have c9 : (kb : Int) < h 55 10 := by by_cases c9 : (kb : Int) < h 55 10; exact c9; exact absurd (Or.inl (by omega)) z
      refine ⟨R, -1, ⟨frT_V hf hV, frT_H hf hH, hr, by rw [g10]; omega, by rw [g10]; omega, by rw [g10]; omega, by decide⟩, fun h1 q1 q2 => ?_⟩
      rw [frT_p hf, frT_q hf 68 (by decide)] at q2
      refine ⟨(h 55 10).toNat, ka, kb, 0, rfl, hka, rfl, rfl, c9, rfl, rfl, by omega, by omega, frT_t hf q1, c0, _, q2, fun _ => ?_, fun _ => ?_⟩
      · simp only [rl3, aft]
        rw [← r1 c0]
        by_cases c2 : prM h (ka : Int) (kb : Int) (-1) ≤ h 68 0
        · rw [if_pos c2, if_pos ⟨c, c2⟩]
        · rw [if_neg c2, if_neg (fun y => c2 y.2)]
      · simp only [aft]
        rw [← r1 c0]
        by_cases c2 : prM h (ka : Int) (kb : Int) (-1) ≤ h 68 0
        · rw [if_pos c2, if_pos ⟨c, c2⟩]
        · rw [if_neg c2, if_neg (fun y => c2 y.2)]
    · have c0 : h 64 (ka : Int) = 0 := by by_cases c : h 64 (ka : Int) = 0; exact c; exact absurd (Or.inr c) z
      have c9 : (kb : Int) < h 55 10 := by by_cases c9 : (kb : Int) < h 55 10; exact c9; exact absurd (Or.inl (by omega)) z
      refine ⟨(h 55 10).toNat, ka, kb, 0, rfl, hka, rfl, rfl, c9, rfl, rfl, by omega, by omega, hf, c0, R, hr, fun y => absurd (Or.inl y) c, fun _ => ?_⟩
      simp only [aft]
      rw [if_neg (fun y => c y.1)]
      exact r1 c0
  · rintro n1 n2 n3 x1 x2 x3 g ⟨ka, kb, kc, rfl, hka, rfl, rfl, hkb, rfl, rfl, hkc, rfl, hf, c0, R, hr, r1, r2⟩
    have g10 : g 55 10 = h 55 10 := hf.2 10 (by decide) (by decide)
    have g64 : g 64 = h 64 := frT_q hf 64 (by decide)
    rw [g10, g64]
    refine ⟨⟨fun _ => trivial, fun _ => ⟨by omega, trivial⟩⟩, fun z => ⟨⟨by omega, by omega⟩, (h 55 10 - ((kb + 1 : Nat) : Int)).toNat, by omega, ka, kb + 1, rfl, hka, rfl, by omega, by omega, rfl, hf, R, hr, fun _ => ?_, fun y => absurd c0 y⟩, fun z => ⟨by omega, fun c => ⟨⟨by omega, by omega⟩, (h 55 10 - ((kc + 1 : Nat) : Int)).toNat, by omega, ka, kb, kc + 1, rfl, hka, rfl, rfl, hkb, rfl, by omega, by omega, rfl, hf, c0, R, hr, fun y => ?_, r2⟩, fun c => ?_⟩⟩
    · rw [rl2_s]
      by_cases c : h 64 (kb : Int) = 1
      · rw [if_pos c]
        rcases z with z | z
        · rw [r1 c, show kc = (h 55 10).toNat by omega]
        · exact absurd c z
      · rw [if_neg c]
        exact r2 c
    · simp only [rl3]
      rw [if_neg (fun x => c x.1)]
      exact r1 y
    · have c1 : h 64 (kb : Int) = 1 := by by_cases c : h 64 (kb : Int) = 1; exact c; exact absurd (Or.inr c) z
      have c9 : (kc : Int) < h 55 10 := by by_cases c9 : (kc : Int) < h 55 10; exact c9; exact absurd (Or.inl (by omega)) z
      refine ⟨R, (kc : Int), ⟨frT_V hf hV, frT_H hf hH, hr, by rw [g10]; omega, by rw [g10]; omega, by rw [g10]; omega, by unfold nc; rw [if_neg (by omega)]⟩, fun h1 q1 q2 => ?_⟩
      rw [frT_p hf, frT_q hf 68 (by decide)] at q2
      refine ⟨⟨by omega, by omega⟩, (h 55 10 - ((kc + 1 : Nat) : Int)).toNat, by omega, ka, kb, kc + 1, rfl, hka, rfl, rfl, hkb, rfl, by omega, by omega, rfl, frT_t hf q1, c0, _, q2, fun _ => ?_, fun y => absurd c1 y⟩
      simp only [rl3]
      rw [← r1 c1]
      by_cases c2 : prM h (ka : Int) (kb : Int) (kc : Int) ≤ h 68 0
      · rw [if_pos c2, if_pos ⟨c, c2⟩]
      · rw [if_neg c2, if_neg (fun y => c2 y.2)]
