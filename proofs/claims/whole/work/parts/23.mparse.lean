/-! the reference: text, items -/
def mtOK (h : HP) : Prop := 0 ≤ h 55 16 ∧ h 55 16 ≤ 200 ∧ ∀ j : Int, 0 ≤ j → j < h 55 16 → 0 ≤ h 69 j ∧ h 69 j ≤ 255
def dlN (m : Int) (j : Nat) : Int := if (j : Int) = m - 1 then 59 else 44
def S_X9_figures (mny : Int) (h : HP) (K : Int → HP → Prop) : Prop := (mtOK h ∧ (0 ≤ mny ∧ mny ≤ 5) ∧ 0 ≤ h 55 39 ∧ h 55 39 ≤ h 55 16) ∧ ∀ (r : Int) (h' : HP), (∀ q, q ≠ 55 → q ≠ 81 → h' q = h q) → (∀ i : Int, i ≠ 39 → h' 55 i = h 55 i) → (((∀ j : Nat, (j : Int) < mny → nok (h 69) (h 55 16) (np (h 69) (h 55 16) (h 55 39 - 1) j) (dlN mny j)) ∧ r = 1 ∧ h' 55 39 = np (h 69) (h 55 16) (h 55 39 - 1) mny.toNat ∧ ∀ j : Nat, (j : Int) < mny → h' 81 (j : Int) = nvl (h 69) (h 55 16) (np (h 69) (h 55 16) (h 55 39 - 1) j)) ∨ ((¬ ∀ j : Nat, (j : Int) < mny → nok (h 69) (h 55 16) (np (h 69) (h 55 16) (h 55 39 - 1) j) (dlN mny j)) ∧ r = 0)) → K r h'
/-- the value of the first n figures from q on -/
def fv (T : Int → Int) (q : Int) : Nat → Int
  | 0 => 0
  | n + 1 => 10 * fv T q n + T (q + n) - 48
theorem dlN_2 (m : Int) (j : Nat) : dlN m j = 59 ∨ dlN m j = 44 := by unfold dlN; split <;> simp
set_option maxRecDepth 100000 in
set_option maxHeartbeats 4000000 in
theorem v_X9_figures (w : WD) (mny : Int) (h : HP) (K : Int → HP → Prop) 
    (I1 : Nat → Int → HP → Prop)
    (I2 : Nat → Nat → Int → Int → Int → HP → Prop)
    (H : (∃ m : Nat, I1 m 0 h))
    (H1 : ∀ (n1 : Nat) (x2 : Int) (g1 : HP), I1 n1 x2 g1 → ((mny ≤ x2 → K 1 g1) ∧ (¬ mny ≤ x2 → (∃ m : Nat, I2 n1 m x2 0 0 g1))))
    (H2 : ∀ (n1 : Nat) (n2 : Nat) (x2 : Int) (x3 : Int) (x4 : Int) (g2 : HP), I2 n1 n2 x2 x3 x4 g2 → (((((g2 55 16) ≤ (g2 55 39) → True) ∧ (¬ (g2 55 16) ≤ (g2 55 39) → ((0 ≤ (g2 55 39) ∧ (g2 55 39) < 200) ∧ True)))) ∧ (((((g2 55 16) ≤ (g2 55 39)) ∨ ((¬ (48 ≤ (g2 69 (g2 55 39)) ∧ (g2 69 (g2 55 39)) ≤ 57)) ∨ (3 ≤ x3))) → ((((¬ (1 ≤ x3 ∧ x3 ≤ 2)) ∨ ((g2 55 39) = (g2 55 16))) → K 0 g2) ∧ (¬ ((¬ (1 ≤ x3 ∧ x3 ≤ 2)) ∨ ((g2 55 39) = (g2 55 16))) → ((0 ≤ (g2 55 39) ∧ (g2 55 39) < 200) ∧ ((iR (mny - 1)) ∧ (((g2 69 (g2 55 39)) = (cif ((mny - 1) ≤ x2) 59 44) → ((0 ≤ x2 ∧ x2 < 5) ∧ ((iR ((g2 55 39) + 1)) ∧ ((iR (x2 + 1)) ∧ (∃ m : Nat, m < n1 ∧ I1 m (x2 + 1) (sth (sth g2 81 x2 x4) 55 39 ((g2 55 39) + 1))))))) ∧ (¬ (g2 69 (g2 55 39)) = (cif ((mny - 1) ≤ x2) 59 44) → K 0 g2))))))) ∧ (¬ (((g2 55 16) ≤ (g2 55 39)) ∨ ((¬ (48 ≤ (g2 69 (g2 55 39)) ∧ (g2 69 (g2 55 39)) ≤ 57)) ∨ (3 ≤ x3))) → ((iR (10 * x4)) ∧ ((0 ≤ (g2 55 39) ∧ (g2 55 39) < 200) ∧ ((iR ((10 * x4) + (g2 69 (g2 55 39)))) ∧ ((iR (((10 * x4) + (g2 69 (g2 55 39))) - 48)) ∧ ((iR (x3 + 1)) ∧ ((iR ((g2 55 39) + 1)) ∧ (∃ m : Nat, m < n2 ∧ I2 n1 m x2 (x3 + 1) (((10 * x4) + (g2 69 (g2 55 39))) - 48) (sth g2 55 39 ((g2 55 39) + 1))))))))))))) :
    Ev w Y_X9_figures 0 [some (vR 55), some (vI mny), none, none, none] [] h (rI K) := by
  have L1 : ∀ (n1 : Nat) (x2 : Int) (g1 : HP), I1 n1 x2 g1 → Ev w Y_X9_figures 2 [some (vR 55), some (vI mny), some (vI x2), none, none] [] g1 (rI K) := by
    intro n1
    induction n1 using Nat.strongRecOn with
    | ind n1 ih1 =>
      have L2 : ∀ (n2 : Nat) (x2 : Int) (x3 : Int) (x4 : Int) (g2 : HP), I2 n1 n2 x2 x3 x4 g2 → Ev w Y_X9_figures 12 [some (vR 55), some (vI mny), some (vI x2), some (vI x3), some (vI x4)] [] g2 (rI K) := by
        intro n2
        induction n2 using Nat.strongRecOn with
        | ind n2 ih2 =>
          intro x2 x3 x4 g2 H
          have H := H2 n1 n2 x2 x3 x4 g2 H
          refine e_aload_n (pc := 12) dX9_figures_12 rfl rfl ?_
          refine e_getI (q := 55) (ci := 9) (k := 39) (kz := 39) (C := RX9) (T := TX9) (N := 52) (x := (g2 55 39)) (pc := 13) dX9_figures_13 rfl rfl rfl ev_in9 rfl ul_4_221 ⟨rfl, by decide⟩ rfl ?_
          refine e_aload_n (pc := 16) dX9_figures_16 rfl rfl ?_
          refine e_getI (q := 55) (ci := 9) (k := 16) (kz := 16) (C := RX9) (T := TX9) (N := 52) (x := (g2 55 16)) (pc := 17) dX9_figures_17 rfl rfl rfl ev_in9 rfl ul_4_198 ⟨rfl, by decide⟩ rfl ?_
          have Ho := H.1
          have H := H.2
          have J1 : (((g2 55 16) ≤ (g2 55 39)) ∨ ((¬ (48 ≤ (g2 69 (g2 55 39)) ∧ (g2 69 (g2 55 39)) ≤ 57)) ∨ (3 ≤ x3))) → Ev w Y_X9_figures 86 [some (vR 55), some (vI mny), some (vI x2), some (vI x3), some (vI x4)] [] g2 (rI K) := by
            intro hp
            have H := H.1 hp
            refine e_iload_n (pc := 86) dX9_figures_86 rfl rfl ?_
            refine e_i2l (pc := 87) dX9_figures_87 ?_
            refine e_lconst (x := 1) (pc := 88) dX9_figures_88 ⟨by decide, by decide⟩ (by decide) ?_
            refine e_ldc2 (x := 2) (pc := 89) dX9_figures_89 ul_5_137 ⟨by decide, by decide⟩ ?_
            refine e_invS (pc := 92) (Y' := Y_X9_in) (as := [vL x3, vL 1, vL 2]) (st := []) (lv0 := [some (vL x3), none, some (vL 1), none, some (vL 2), none]) dX9_figures_92 m_X9_in ul_5_104 ul_5_105 ⟨rfl, rfl⟩ rfl rfl rfl rfl rfl (c_X9_in w x3 1 2 g2) ?_
            rintro _ hz ⟨_, rfl, rfl, hh⟩
            rw [hh]
            show Ev w Y_X9_figures 95 [some (vR 55), some (vI mny), some (vI x2), some (vI x3), some (vI x4)] [vI (b2i (1 ≤ x3 ∧ x3 ≤ 2))] g2 (rI K)
            have J1 : ((¬ (1 ≤ x3 ∧ x3 ≤ 2)) ∨ ((g2 55 39) = (g2 55 16))) → Ev w Y_X9_figures 135 [some (vR 55), some (vI mny), some (vI x2), some (vI x3), some (vI x4)] [] g2 (rI K) := by
              intro hp
              have H := H.1 hp
              refine e_iconst (pc := 135) dX9_figures_135 ⟨by decide, by decide⟩ ?_
              exact e_ret (pc := 136) (v := some (vI 0)) dX9_figures_136 rfl (Or.inl rfl) ⟨_, rfl, H⟩
            have J2 : ¬ ((¬ (1 ≤ x3 ∧ x3 ≤ 2)) ∨ ((g2 55 39) = (g2 55 16))) → Ev w Y_X9_figures 109 [some (vR 55), some (vI mny), some (vI x2), some (vI x3), some (vI x4)] [] g2 (rI K) := by
              intro hp
              have H := H.2 hp
              refine e_aload_n (pc := 109) dX9_figures_109 rfl rfl ?_
              refine e_getR (q := 55) (ci := 9) (k := 17) (y := 69) (C := RX9) (T := TX9) (N := 52) (pc := 110) dX9_figures_110 rfl rfl ev_in9 rfl ul_4_199 ⟨rfl, rfl⟩ rfl ?_
              refine e_aload_n (pc := 113) dX9_figures_113 rfl rfl ?_
              refine e_getI (q := 55) (ci := 9) (k := 39) (kz := 39) (C := RX9) (T := TX9) (N := 52) (x := (g2 55 39)) (pc := 114) dX9_figures_114 rfl rfl rfl ev_in9 rfl ul_4_221 ⟨rfl, by decide⟩ rfl ?_
              refine e_iald (q := 69) (x := (g2 69 (g2 55 39))) (pc := 117) dX9_figures_117 rfl H.1 rfl ?_
              have H := H.2
              refine e_iload_n (pc := 118) dX9_figures_118 rfl rfl ?_
              refine e_iload_n (pc := 119) dX9_figures_119 rfl rfl ?_
              refine e_iconst (pc := 120) dX9_figures_120 ⟨by decide, by decide⟩ ?_
              refine e_isub (pc := 121) dX9_figures_121 H.1 ?_
              have H := H.2
              have J : Ev w Y_X9_figures 132 [some (vR 55), some (vI mny), some (vI x2), some (vI x3), some (vI x4)] [vI (cif ((mny - 1) ≤ x2) 59 44), vI (g2 69 (g2 55 39))] g2 (rI K) := by
                refine e_icmp_eq (pc := 132) (tgt := 137) dX9_figures_132 (by decide) (fun c2 => ?_) (fun c2 => ?_)
                · have H := H.1 c2
                  refine e_aload_n (pc := 137) dX9_figures_137 rfl rfl ?_
                  refine e_getR (q := 55) (ci := 9) (k := 40) (y := 81) (C := RX9) (T := TX9) (N := 52) (pc := 138) dX9_figures_138 rfl rfl ev_in9 rfl ul_4_222 ⟨rfl, rfl⟩ rfl ?_
                  refine e_iload_n (pc := 141) dX9_figures_141 rfl rfl ?_
                  refine e_iload (pc := 142) dX9_figures_142 rfl ?_
                  refine e_iast (q := 81) (pc := 144) dX9_figures_144 rfl H.1 ?_
                  have H := H.2
                  refine e_aload_n (pc := 145) dX9_figures_145 rfl rfl ?_
                  refine e_dup (pc := 146) dX9_figures_146 rfl ?_
                  refine e_getI (q := 55) (ci := 9) (k := 39) (kz := 39) (C := RX9) (T := TX9) (N := 52) (x := (g2 55 39)) (pc := 147) dX9_figures_147 rfl rfl rfl ev_in9 rfl ul_4_221 ⟨rfl, by decide⟩ rfl ?_
                  refine e_iconst (pc := 150) dX9_figures_150 ⟨by decide, by decide⟩ ?_
                  refine e_iadd (pc := 151) dX9_figures_151 H.1 ?_
                  have H := H.2
                  refine e_put (q := 55) (ci := 9) (k := 39) (kz := 39) (C := RX9) (T := TX9) (N := 52) (ty := .int) (pc := 152) dX9_figures_152 rfl rfl rfl ev_in9 tyX9 tyX9_ok nmX9 rfl ul_4_221 ⟨rfl, by decide⟩ rfl (tyX9_ok 39 (by decide)) (Or.inl rfl) ?_
                  refine e_iinc (lv' := [some (vR 55), some (vI mny), some (vI (x2 + 1)), some (vI x3), some (vI x4)]) (pc := 155) dX9_figures_155 rfl H.1 rfl rfl ?_
                  have H := H.2
                  refine e_goto (pc := 158) (tgt := 2) dX9_figures_158 (by decide) ?_
                  refine e_mask [true, true, true, false, false] rfl ?_
                  obtain ⟨m, hm, H⟩ := H
                  exact ih1 m hm _ _ H
                · have H := H.2 c2
                  refine e_iconst (pc := 135) dX9_figures_135 ⟨by decide, by decide⟩ ?_
                  exact e_ret (pc := 136) (v := some (vI 0)) dX9_figures_136 rfl (Or.inl rfl) ⟨_, rfl, H⟩
              refine e_icmp_ge (pc := 122) (tgt := 130) dX9_figures_122 (by decide) (fun c3 => ?_) (fun c3 => ?_)
              · refine e_bipush (pc := 130) dX9_figures_130 ⟨by decide, by decide⟩ (by decide) ?_
                exact e_top (cif_t c3) J
              · refine e_bipush (pc := 125) dX9_figures_125 ⟨by decide, by decide⟩ (by decide) ?_
                refine e_goto (pc := 127) (tgt := 132) dX9_figures_127 (by decide) ?_
                exact e_top (cif_f c3) J
            refine e_ifb_eq (pc := 95) (tgt := 135) dX9_figures_95 (by decide) (fun c4 => ?_) (fun c4 => ?_)
            · exact J1 (Or.inl c4)
            · refine e_aload_n (pc := 98) dX9_figures_98 rfl rfl ?_
              refine e_getI (q := 55) (ci := 9) (k := 39) (kz := 39) (C := RX9) (T := TX9) (N := 52) (x := (g2 55 39)) (pc := 99) dX9_figures_99 rfl rfl rfl ev_in9 rfl ul_4_221 ⟨rfl, by decide⟩ rfl ?_
              refine e_aload_n (pc := 102) dX9_figures_102 rfl rfl ?_
              refine e_getI (q := 55) (ci := 9) (k := 16) (kz := 16) (C := RX9) (T := TX9) (N := 52) (x := (g2 55 16)) (pc := 103) dX9_figures_103 rfl rfl rfl ev_in9 rfl ul_4_198 ⟨rfl, by decide⟩ rfl ?_
              refine e_icmp_eq (pc := 106) (tgt := 135) dX9_figures_106 (by decide) (fun c5 => ?_) (fun c5 => ?_)
              · exact J1 (Or.inr c5)
              · exact J2 (fun z => z.elim (fun z => z c4) c5)
          have J2 : ¬ (((g2 55 16) ≤ (g2 55 39)) ∨ ((¬ (48 ≤ (g2 69 (g2 55 39)) ∧ (g2 69 (g2 55 39)) ≤ 57)) ∨ (3 ≤ x3))) → Ev w Y_X9_figures 50 [some (vR 55), some (vI mny), some (vI x2), some (vI x3), some (vI x4)] [] g2 (rI K) := by
            intro hp
            have H := H.2 hp
            refine e_bipush (pc := 50) dX9_figures_50 ⟨by decide, by decide⟩ (by decide) ?_
            refine e_iload (pc := 52) dX9_figures_52 rfl ?_
            refine e_imul (pc := 54) dX9_figures_54 H.1 ?_
            have H := H.2
            refine e_aload_n (pc := 55) dX9_figures_55 rfl rfl ?_
            refine e_getR (q := 55) (ci := 9) (k := 17) (y := 69) (C := RX9) (T := TX9) (N := 52) (pc := 56) dX9_figures_56 rfl rfl ev_in9 rfl ul_4_199 ⟨rfl, rfl⟩ rfl ?_
            refine e_aload_n (pc := 59) dX9_figures_59 rfl rfl ?_
            refine e_getI (q := 55) (ci := 9) (k := 39) (kz := 39) (C := RX9) (T := TX9) (N := 52) (x := (g2 55 39)) (pc := 60) dX9_figures_60 rfl rfl rfl ev_in9 rfl ul_4_221 ⟨rfl, by decide⟩ rfl ?_
            refine e_iald (q := 69) (x := (g2 69 (g2 55 39))) (pc := 63) dX9_figures_63 rfl H.1 rfl ?_
            have H := H.2
            refine e_iadd (pc := 64) dX9_figures_64 H.1 ?_
            have H := H.2
            refine e_bipush (pc := 65) dX9_figures_65 ⟨by decide, by decide⟩ (by decide) ?_
            refine e_isub (pc := 67) dX9_figures_67 H.1 ?_
            have H := H.2
            refine e_istore (lv' := [some (vR 55), some (vI mny), some (vI x2), some (vI x3), some (vI (((10 * x4) + (g2 69 (g2 55 39))) - 48))]) (pc := 68) dX9_figures_68 rfl rfl ?_
            refine e_iinc (lv' := [some (vR 55), some (vI mny), some (vI x2), some (vI (x3 + 1)), some (vI (((10 * x4) + (g2 69 (g2 55 39))) - 48))]) (pc := 70) dX9_figures_70 rfl H.1 rfl rfl ?_
            have H := H.2
            refine e_aload_n (pc := 73) dX9_figures_73 rfl rfl ?_
            refine e_dup (pc := 74) dX9_figures_74 rfl ?_
            refine e_getI (q := 55) (ci := 9) (k := 39) (kz := 39) (C := RX9) (T := TX9) (N := 52) (x := (g2 55 39)) (pc := 75) dX9_figures_75 rfl rfl rfl ev_in9 rfl ul_4_221 ⟨rfl, by decide⟩ rfl ?_
            refine e_iconst (pc := 78) dX9_figures_78 ⟨by decide, by decide⟩ ?_
            refine e_iadd (pc := 79) dX9_figures_79 H.1 ?_
            have H := H.2
            refine e_put (q := 55) (ci := 9) (k := 39) (kz := 39) (C := RX9) (T := TX9) (N := 52) (ty := .int) (pc := 80) dX9_figures_80 rfl rfl rfl ev_in9 tyX9 tyX9_ok nmX9 rfl ul_4_221 ⟨rfl, by decide⟩ rfl (tyX9_ok 39 (by decide)) (Or.inl rfl) ?_
            refine e_goto (pc := 83) (tgt := 12) dX9_figures_83 (by decide) ?_
            obtain ⟨m, hm, H⟩ := H
            exact ih2 m hm _ _ _ _ H
          refine e_icmp_ge (pc := 20) (tgt := 86) dX9_figures_20 (by decide) (fun c6 => ?_) (fun c6 => ?_)
          · have Ho := Ho.1 c6
            exact J1 (Or.inl c6)
          · have Ho := Ho.2 c6
            refine e_aload_n (pc := 23) dX9_figures_23 rfl rfl ?_
            refine e_getR (q := 55) (ci := 9) (k := 17) (y := 69) (C := RX9) (T := TX9) (N := 52) (pc := 24) dX9_figures_24 rfl rfl ev_in9 rfl ul_4_199 ⟨rfl, rfl⟩ rfl ?_
            refine e_aload_n (pc := 27) dX9_figures_27 rfl rfl ?_
            refine e_getI (q := 55) (ci := 9) (k := 39) (kz := 39) (C := RX9) (T := TX9) (N := 52) (x := (g2 55 39)) (pc := 28) dX9_figures_28 rfl rfl rfl ev_in9 rfl ul_4_221 ⟨rfl, by decide⟩ rfl ?_
            refine e_iald (q := 69) (x := (g2 69 (g2 55 39))) (pc := 31) dX9_figures_31 rfl Ho.1 rfl ?_
            have Ho := Ho.2
            refine e_i2l (pc := 32) dX9_figures_32 ?_
            refine e_ldc2 (x := 48) (pc := 33) dX9_figures_33 ul_5_166 ⟨by decide, by decide⟩ ?_
            refine e_ldc2 (x := 57) (pc := 36) dX9_figures_36 ul_5_167 ⟨by decide, by decide⟩ ?_
            refine e_invS (pc := 39) (Y' := Y_X9_in) (as := [vL (g2 69 (g2 55 39)), vL 48, vL 57]) (st := []) (lv0 := [some (vL (g2 69 (g2 55 39))), none, some (vL 48), none, some (vL 57), none]) dX9_figures_39 m_X9_in ul_5_104 ul_5_105 ⟨rfl, rfl⟩ rfl rfl rfl rfl rfl (c_X9_in w (g2 69 (g2 55 39)) 48 57 g2) ?_
            rintro _ hz ⟨_, rfl, rfl, hh⟩
            rw [hh]
            show Ev w Y_X9_figures 42 [some (vR 55), some (vI mny), some (vI x2), some (vI x3), some (vI x4)] [vI (b2i (48 ≤ (g2 69 (g2 55 39)) ∧ (g2 69 (g2 55 39)) ≤ 57))] g2 (rI K)
            refine e_ifb_eq (pc := 42) (tgt := 86) dX9_figures_42 (by decide) (fun c7 => ?_) (fun c7 => ?_)
            · exact J1 (Or.inr (Or.inl c7))
            · refine e_iload_n (pc := 45) dX9_figures_45 rfl rfl ?_
              refine e_iconst (pc := 46) dX9_figures_46 ⟨by decide, by decide⟩ ?_
              refine e_icmp_ge (pc := 47) (tgt := 86) dX9_figures_47 (by decide) (fun c8 => ?_) (fun c8 => ?_)
              · exact J1 (Or.inr (Or.inr c8))
              · exact J2 (fun z => z.elim c6 (fun z => z.elim (fun z => z c7) c8))
      intro x2 g1 H
      have H := H1 n1 x2 g1 H
      refine e_iload_n (pc := 2) dX9_figures_2 rfl rfl ?_
      refine e_iload_n (pc := 3) dX9_figures_3 rfl rfl ?_
      refine e_icmp_ge (pc := 4) (tgt := 161) dX9_figures_4 (by decide) (fun c1 => ?_) (fun c1 => ?_)
      · have H := H.1 c1
        refine e_iconst (pc := 161) dX9_figures_161 ⟨by decide, by decide⟩ ?_
        exact e_ret (pc := 162) (v := some (vI 1)) dX9_figures_162 rfl (Or.inr rfl) ⟨_, rfl, H⟩
      · have H := H.2 c1
        refine e_iconst (pc := 7) dX9_figures_7 ⟨by decide, by decide⟩ ?_
        refine e_istore_n (lv' := [some (vR 55), some (vI mny), some (vI x2), some (vI 0), none]) (pc := 8) dX9_figures_8 rfl rfl rfl ?_
        refine e_iconst (pc := 9) dX9_figures_9 ⟨by decide, by decide⟩ ?_
        refine e_istore (lv' := [some (vR 55), some (vI mny), some (vI x2), some (vI 0), some (vI 0)]) (pc := 10) dX9_figures_10 rfl rfl ?_
        obtain ⟨m, H⟩ := H
        exact L2 m _ _ _ _ H
  refine e_iconst (pc := 0) dX9_figures_0 ⟨by decide, by decide⟩ ?_
  refine e_istore_n (lv' := [some (vR 55), some (vI mny), some (vI 0), none, none]) (pc := 1) dX9_figures_1 rfl rfl rfl ?_
  obtain ⟨m, H⟩ := H
  exact L1 m _ _ H
set_option maxRecDepth 100000 in
set_option maxHeartbeats 4000000 in
theorem c_X9_figures (w : WD) (mny : Int) (h : HP) (K : Int → HP → Prop)  (H : S_X9_figures mny h K) : Ev w Y_X9_figures 0 [some (vR 55), some (vI mny), none, none, none] [] h (rI K) := by
  obtain ⟨⟨ht, hm, ha0, ha1⟩, HK⟩ := H
  obtain ⟨t1, t2, t3⟩ := id ht
  refine v_X9_figures w mny h K (fun n x2 g => ∃ j : Nat, x2 = (j : Int) ∧ (j : Int) ≤ mny ∧ n = 5 - j ∧ (∀ q, q ≠ 55 → q ≠ 81 → g q = h q) ∧ (∀ i : Int, i ≠ 39 → g 55 i = h 55 i) ∧ g 55 39 = np (h 69) (h 55 16) (h 55 39 - 1) j ∧ (0 ≤ g 55 39 ∧ g 55 39 ≤ h 55 16) ∧ (∀ i : Nat, i < j → nok (h 69) (h 55 16) (np (h 69) (h 55 16) (h 55 39 - 1) i) (dlN mny i)) ∧ (∀ i : Nat, i < j → g 81 (i : Int) = nvl (h 69) (h 55 16) (np (h 69) (h 55 16) (h 55 39 - 1) i)))
    (fun n n2 x2 x3 x4 g => ∃ j k : Nat, x2 = (j : Int) ∧ (j : Int) < mny ∧ n = 5 - j ∧ x3 = (k : Int) ∧ k ≤ 3 ∧ n2 = 3 - k ∧ (∀ q, q ≠ 55 → q ≠ 81 → g q = h q) ∧ (∀ i : Int, i ≠ 39 → g 55 i = h 55 i) ∧ g 55 39 = np (h 69) (h 55 16) (h 55 39 - 1) j + k ∧ (0 ≤ np (h 69) (h 55 16) (h 55 39 - 1) j ∧ g 55 39 ≤ h 55 16) ∧ (∀ i : Nat, i < k → fig (h 69) (h 55 16) (np (h 69) (h 55 16) (h 55 39 - 1) j + i)) ∧ x4 = fv (h 69) (np (h 69) (h 55 16) (h 55 39 - 1) j) k ∧ (0 ≤ x4 ∧ x4 < 1000) ∧ (k ≤ 2 → x4 < 100) ∧ (k ≤ 1 → x4 < 10) ∧ (k = 0 → x4 = 0) ∧ (∀ i : Nat, i < j → nok (h 69) (h 55 16) (np (h 69) (h 55 16) (h 55 39 - 1) i) (dlN mny i)) ∧ (∀ i : Nat, i < j → g 81 (i : Int) = nvl (h 69) (h 55 16) (np (h 69) (h 55 16) (h 55 39 - 1) i)))
    ⟨5, 0, rfl, by omega, rfl, fun _ _ _ => rfl, fun _ _ => rfl, by simp only [np]; omega, by omega, fun i hi => by omega, fun i hi => by omega⟩ ?_ ?_
  · rintro n x2 g ⟨j, rfl, hj, rfl, hg, hg5, hat, hb, hn, hv⟩
    refine ⟨fun c => ?_, fun c => ⟨3, j, 0, rfl, by omega, rfl, rfl, by omega, rfl, hg, hg5, by rw [hat]; simp, by rw [← hat]; exact hb, fun i hi => by omega, rfl, by omega, fun _ => by omega, fun _ => by omega, fun _ => rfl, hn, hv⟩⟩
    have e : mny.toNat = j := by omega
    exact HK 1 g hg hg5 (Or.inl ⟨fun i hi => hn i (by omega), rfl, by rw [e]; exact hat, fun i hi => hv i (by omega)⟩)
  · rintro n n2 x2 x3 x4 g ⟨j, k, rfl, hj, rfl, rfl, hk, rfl, hg, hg5, hat, hb, hfg, hx4, hx5, hx6, hx7, hx8, hn, hv⟩
    have g16 : g 55 16 = h 55 16 := hg5 16 (by decide)
    have g69 : g 69 = h 69 := hg 69 (by decide) (by decide)
    rw [g16, g69, hat]
    rw [hat] at hb
    generalize hq : np (h 69) (h 55 16) (h 55 39 - 1) j = q at hb hfg hx4 hat
    have tb : q + (k : Int) < h 55 16 → 0 ≤ h 69 (q + (k : Int)) ∧ h 69 (q + (k : Int)) ≤ 255 := fun z => t3 _ (by omega) z
    refine ⟨⟨fun _ => trivial, fun _ => ⟨by omega, trivial⟩⟩, fun c => ?_, fun c => ?_⟩
    · have key : nok (h 69) (h 55 16) q (dlN mny j) ↔ (1 ≤ k ∧ k ≤ 2 ∧ q + (k : Int) < h 55 16 ∧ h 69 (q + (k : Int)) = dlN mny j) := by
        have hd := dlN_2 mny j
        unfold nok nln
        rcases (show k = 0 ∨ k = 1 ∨ k = 2 ∨ k = 3 by omega) with rfl | rfl | rfl | rfl
        · constructor
          · rintro ⟨a, _⟩
            have a1 := a.1
            have a2 := a.2
            simp at c
            omega
          · omega
        · have f0 := hfg 0 (by omega)
          simp only [Int.natCast_zero, Int.add_zero, Int.ofNat_eq_natCast] at f0
          have nf : ¬ fig (h 69) (h 55 16) (q + 1) := fun z => by
            have a1 := z.1
            have a2 := z.2
            simp at c
            omega
          rw [cif_f nf]
          constructor
          · rintro ⟨_, a, b⟩; exact ⟨by omega, by omega, a, b⟩
          · rintro ⟨_, _, a, b⟩; exact ⟨by simpa using f0, a, b⟩
        · have f0 := hfg 0 (by omega)
          have f1 := hfg 1 (by omega)
          have f1' : fig (h 69) (h 55 16) (q + 1) := f1
          rw [cif_t f1']
          constructor
          · rintro ⟨_, a, b⟩; exact ⟨by omega, by omega, a, b⟩
          · rintro ⟨_, _, a, b⟩; exact ⟨by simpa using f0, a, b⟩
        · have f1 := hfg 1 (by omega)
          have f2 := hfg 2 (by omega)
          have f1' : fig (h 69) (h 55 16) (q + 1) := f1
          have f2' : fig (h 69) (h 55 16) (q + 2) := f2
          rw [cif_t f1']
          constructor
          · rintro ⟨_, a, b⟩
            have := f2'.2
            omega
          · omega
      have e1 : dlN mny j = cif ((mny - 1) ≤ (j : Int)) 59 44 := by
        unfold dlN
        by_cases z : (j : Int) = mny - 1
        · rw [if_pos z, cif_t (by omega)]
        · rw [if_neg z, cif_f (by omega)]
      have bad : ¬ nok (h 69) (h 55 16) q (dlN mny j) → K 0 g := fun z => HK 0 g hg hg5 (Or.inr ⟨fun y => z (by have := y j hj; rw [hq] at this; exact this), rfl⟩)
      refine ⟨fun c2 => bad (fun z => ?_), fun c2 => ⟨by omega, ⟨by omega, by omega⟩, fun c3 => ?_, fun c3 => bad (fun z => ?_)⟩⟩
      · have := key.mp z
        omega
      · have hok : nok (h 69) (h 55 16) q (dlN mny j) := key.mpr ⟨by omega, by omega, by omega, by rw [e1]; exact c3⟩
        have hln : nln (h 69) (h 55 16) q = (k : Int) ∧ nvl (h 69) (h 55 16) q = x4 := by
          unfold nln nvl
          rcases (show k = 1 ∨ k = 2 by omega) with rfl | rfl
          · have nf : ¬ fig (h 69) (h 55 16) (q + 1) := fun z => by
              have a1 := z.1
              have a2 := z.2
              simp at c
              omega
            rw [cif_f nf, cif_f nf, hx4]
            refine ⟨rfl, ?_⟩
            simp only [fv]
            simp
          · have f1 := hfg 1 (by omega)
            have f1' : fig (h 69) (h 55 16) (q + 1) := f1
            rw [cif_t f1', cif_t f1', hx4]
            refine ⟨rfl, ?_⟩
            simp only [fv]
            simp
            omega
        refine ⟨by omega, ⟨by omega, by omega⟩, ⟨by omega, by omega⟩, 5 - (j + 1), by omega, j + 1, by omega, by omega, rfl, fun q' z1 z2 => by rw [sth_ne z1, sth_ne z2]; exact hg q' z1 z2, fun i z => by rw [sth_eq, us_n z, sth_ne (by decide)]; exact hg5 i z, ?_, ?_, fun i hi => ?_, fun i hi => ?_⟩
        · rw [sth_eq, us_s]
          simp only [np]
          rw [hq, hln.1]
        · rw [sth_eq, us_s]; omega
        · by_cases e : i = j
          · subst e; rw [hq]; exact hok
          · exact hn i (by omega)
        · rw [sth_ne (by decide), sth_eq]
          by_cases e : i = j
          · subst e; rw [us_s, hq, hln.2]
          · rw [us_n (by omega)]; exact hv i (by omega)
      · have := (key.mp z).2.2.2
        rw [e1] at this
        exact c3 this
    · have c1 : ¬ h 55 16 ≤ q + (k : Int) := fun z => c (Or.inl z)
      have c2 : 48 ≤ h 69 (q + (k : Int)) ∧ h 69 (q + (k : Int)) ≤ 57 := Classical.not_not.mp (fun z => c (Or.inr (Or.inl z)))
      have c3 : ¬ 3 ≤ (k : Int) := fun z => c (Or.inr (Or.inr z))
      refine ⟨⟨by omega, by omega⟩, by omega, ⟨by omega, by omega⟩, ⟨by omega, by omega⟩, ⟨by omega, by omega⟩, ⟨by omega, by omega⟩, 3 - (k + 1), by omega, j, k + 1, rfl, hj, rfl, by omega, by omega, rfl, fun q' z1 z2 => by rw [sth_ne z1]; exact hg q' z1 z2, fun i z => by rw [sth_eq, us_n z]; exact hg5 i z, by rw [sth_eq, us_s, hq]; omega, by rw [sth_eq, us_s, hq]; omega, fun i hi => ?_, ?_, by omega, fun _ => by omega, fun _ => by omega, fun z => by omega, hn, fun i hi => by rw [sth_ne (by decide)]; exact hv i hi⟩
      · rw [hq]
        by_cases e : i = k
        · subst e; exact ⟨by omega, c2⟩
        · exact hfg i (by omega)
      · rw [hq, hx4]
        simp only [fv]
def S_X9_item (h : HP) (K : Int → HP → Prop) : Prop := (mtOK h ∧ 0 ≤ h 55 39 ∧ h 55 39 < h 55 16) ∧ ∀ (r : Int) (h' : HP), (∀ q, q ≠ 55 → q ≠ 81 → h' q = h q) → (∀ i : Int, i ≠ 39 → h' 55 i = h 55 i) → ((iv (h 69) (h 55 16) (h 55 39) ∧ r = 1 ∧ h' 55 39 = nxt (h 69) (h 55 16) (h 55 39) ∧ ∀ j : Nat, (j : Int) < nW (h 69 (h 55 39)) → h' 81 (j : Int) = nvl (h 69) (h 55 16) (np (h 69) (h 55 16) (h 55 39) j)) ∨ (¬ iv (h 69) (h 55 16) (h 55 39) ∧ r = 0)) → K r h'
theorem mtOK_c {h h' : HP} (h2 : h' 55 16 = h 55 16) (h16 : h' 69 = h 69) (ht : mtOK h) : mtOK h' := by unfold mtOK; rw [h2, h16]; exact ht
theorem b2i_case {p : Prop} {r : Int} {A : Prop} (h : r = b2i p) (h1 : p → r = 1 → A) (h0 : ¬ p → r = 0 → A) : A := by
  by_cases c : p
  · exact h1 c (by rw [h, b2i_t c])
  · exact h0 c (by rw [h, b2i_f c])
set_option maxHeartbeats 4000000 in
/-- the end of an item, for each letter -/
theorem item_end {h g h1 : HP} {K : Int → HP → Prop} {l m r rr : Int} {P : Prop} (hl : h 69 (h 55 39) = l) (hm : nW l = m)
    (HK : ∀ (r : Int) (h' : HP), (∀ q, q ≠ 55 → q ≠ 81 → h' q = h q) → (∀ i : Int, i ≠ 39 → h' 55 i = h 55 i) → ((iv (h 69) (h 55 16) (h 55 39) ∧ r = 1 ∧ h' 55 39 = nxt (h 69) (h 55 16) (h 55 39) ∧ ∀ j : Nat, (j : Int) < nW (h 69 (h 55 39)) → h' 81 (j : Int) = nvl (h 69) (h 55 16) (np (h 69) (h 55 16) (h 55 39) j)) ∨ (¬ iv (h 69) (h 55 16) (h 55 39) ∧ r = 0)) → K r h')
    (hg : ∀ q, q ≠ 55 → q ≠ 81 → g q = h q) (hg5 : ∀ i : Int, i ≠ 39 → g 55 i = h 55 i) (ga : g 55 39 = h 55 39 + 1)
    (hf : ∀ q, q ≠ 55 → q ≠ 81 → h1 q = g q) (hf5 : ∀ i : Int, i ≠ 39 → h1 55 i = g 55 i)
    (hr : ((∀ j : Nat, (j : Int) < m → nok (g 69) (g 55 16) (np (g 69) (g 55 16) (g 55 39 - 1) j) (dlN m j)) ∧ r = 1 ∧ h1 55 39 = np (g 69) (g 55 16) (g 55 39 - 1) m.toNat ∧ ∀ j : Nat, (j : Int) < m → h1 81 (j : Int) = nvl (g 69) (g 55 16) (np (g 69) (g 55 16) (g 55 39 - 1) j)) ∨ ((¬ ∀ j : Nat, (j : Int) < m → nok (g 69) (g 55 16) (np (g 69) (g 55 16) (g 55 39 - 1) j) (dlN m j)) ∧ r = 0))
    (hp : (∀ j : Int, 0 ≤ j → j < m → 0 ≤ h1 81 j) → (P ↔ (¬ r = 0 ∧ fitI l (h1 81)))) (hP2 : P → ¬ r = 0) (hrr : rr = b2i P) : K rr h1 := by
  have g16 : g 55 16 = h 55 16 := hg5 16 (by decide)
  have g69 : g 69 = h 69 := hg 69 (by decide) (by decide)
  rw [g16, g69, show g 55 39 - 1 = h 55 39 by omega] at hr
  have hd : ∀ j : Nat, dlm (h 69 (h 55 39)) j = dlN m j := fun j => by unfold dlm dlN; rw [hl, hm]
  have fr1 : ∀ q, q ≠ 55 → q ≠ 81 → h1 q = h q := fun q a b => (hf q a b).trans (hg q a b)
  have fr2 : ∀ i : Int, i ≠ 39 → h1 55 i = h 55 i := fun i a => (hf5 i a).trans (hg5 i a)
  have no : ¬ iv (h 69) (h 55 16) (h 55 39) → ¬ P → K rr h1 := fun a b => HK rr h1 fr1 fr2 (Or.inr ⟨a, by rw [hrr, b2i_f b]⟩)
  rcases hr with ⟨a, b, d, f⟩ | ⟨a, b⟩
  · have nn : ∀ j : Int, 0 ≤ j → j < m → 0 ≤ h1 81 j := fun j j0 j1 => by
      have := f j.toNat (by omega)
      rw [Int.toNat_of_nonneg j0] at this
      rw [this]
      exact (nvl_b (a j.toNat (by omega)).1).1
    have hfit : fitI l (h1 81) ↔ fitI (h 69 (h 55 39)) (fun i => nvl (h 69) (h 55 16) (np (h 69) (h 55 16) (h 55 39) i.toNat)) := by
      rw [hl]
      refine fit_c (fun i i0 i1 => ?_)
      have := f i.toNat (by omega)
      rw [Int.toNat_of_nonneg i0] at this
      exact this
    by_cases c : P
    · refine HK rr h1 fr1 fr2 (Or.inl ⟨⟨fun j hj => by rw [hd]; exact a j (by rw [hl, hm] at hj; exact hj), hfit.mp ((hp nn).mp c).2⟩, by rw [hrr, b2i_t c], ?_, fun j hj => f j (by rw [hl, hm] at hj; exact hj)⟩)
      unfold nxt
      rw [hl, hm]
      exact d
    · refine no (fun z => c ((hp nn).mpr ⟨by omega, hfit.mpr z.2⟩)) c
  · refine no (fun z => a (fun j hj => by rw [← hd]; exact z.1 j (by rw [hl, hm]; exact hj))) (fun z => hP2 z b)
set_option maxRecDepth 100000 in
set_option maxHeartbeats 4000000 in
theorem v_X9_item (w : WD)  (h : HP) (K : Int → HP → Prop) 
    (I1 : Nat → Int → Int → HP → Prop)
    (H : ((0 ≤ (h 55 39) ∧ (h 55 39) < 200) ∧ ((iR ((h 55 39) + 1)) ∧ (∃ m : Nat, I1 m (h 69 (h 55 39)) 0 (sth h 55 39 ((h 55 39) + 1))))))
    (H1 : ∀ (n1 : Nat) (x1 : Int) (x2 : Int) (g1 : HP), I1 n1 x1 x2 g1 → ((5 ≤ x2 → ((x1 = 110 → (S_X9_figures 2 g1 (fun r21 h21 => K (b2i ((¬ r21 = 0) ∧ (((0 ≤ (h21 81 0) ∧ (h21 81 0) ≤ 9)) ∧ ((1 ≤ (h21 81 1) ∧ (h21 81 1) ≤ 3))))) h21))) ∧ ((x1 = 114 → (S_X9_figures 5 g1 (fun r22 h22 => ((((¬ r22 = 0) ∧ (((0 ≤ (h22 81 0) ∧ (h22 81 0) ≤ 6)) ∧ (((0 ≤ (h22 81 1) ∧ (h22 81 1) ≤ 4)) ∧ (((0 ≤ (h22 81 2) ∧ (h22 81 2) ≤ 5)) ∧ (((0 ≤ (h22 81 3) ∧ (h22 81 3) ≤ (h22 81 4))) ∧ ((0 ≤ (h22 81 4) ∧ (h22 81 4) ≤ 23))))))) → K 1 h22) ∧ (¬ ((¬ r22 = 0) ∧ (((0 ≤ (h22 81 0) ∧ (h22 81 0) ≤ 6)) ∧ (((0 ≤ (h22 81 1) ∧ (h22 81 1) ≤ 4)) ∧ (((0 ≤ (h22 81 2) ∧ (h22 81 2) ≤ 5)) ∧ (((0 ≤ (h22 81 3) ∧ (h22 81 3) ≤ (h22 81 4))) ∧ ((0 ≤ (h22 81 4) ∧ (h22 81 4) ≤ 23))))))) → K 0 h22))))) ∧ ((x1 = 120 → (S_X9_figures 4 g1 (fun r23 h23 => K (b2i ((¬ r23 = 0) ∧ (((0 ≤ (h23 81 0) ∧ (h23 81 0) ≤ 9)) ∧ (((1 ≤ (h23 81 1) ∧ (h23 81 1) ≤ 3)) ∧ (((0 ≤ (h23 81 2) ∧ (h23 81 2) ≤ 9)) ∧ ((0 ≤ (h23 81 3) ∧ (h23 81 3) ≤ 3))))))) h23))) ∧ ((¬ x1 = 110 ∧ ¬ x1 = 114 ∧ ¬ x1 = 120 → K 0 g1)))))) ∧ (¬ 5 ≤ x2 → ((0 ≤ x2 ∧ x2 < 5) ∧ ((iR (x2 + 1)) ∧ (∃ m : Nat, m < n1 ∧ I1 m x1 (x2 + 1) (sth g1 81 x2 0))))))) :
    Ev w Y_X9_item 0 [some (vR 55), none, none] [] h (rI K) := by
  have L1 : ∀ (n1 : Nat) (x1 : Int) (x2 : Int) (g1 : HP), I1 n1 x1 x2 g1 → Ev w Y_X9_item 22 [some (vR 55), some (vI x1), some (vI x2)] [] g1 (rI K) := by
    intro n1
    induction n1 using Nat.strongRecOn with
    | ind n1 ih1 =>
      intro x1 x2 g1 H
      have H := H1 n1 x1 x2 g1 H
      refine e_iload_n (pc := 22) dX9_item_22 rfl rfl ?_
      refine e_iconst (pc := 23) dX9_item_23 ⟨by decide, by decide⟩ ?_
      refine e_icmp_ge (pc := 24) (tgt := 40) dX9_item_24 (by decide) (fun c1 => ?_) (fun c1 => ?_)
      · have H := H.1 c1
        refine e_iload_n (pc := 40) dX9_item_40 rfl rfl ?_
        refine e_lookup (pc := 41) dX9_item_41 (by decide) ?_
        by_cases c16 : x1 = 110
        · have H := H.1 c16
          refine ⟨220, 261, by rw [c16]; rfl, by decide, ?_⟩
          refine e_aload_n (pc := 261) dX9_item_261 rfl rfl ?_
          refine e_iconst (pc := 262) dX9_item_262 ⟨by decide, by decide⟩ ?_
          refine e_invV (pc := 263) (Y' := Y_X9_figures) (as := [vI 2]) (st := []) (lv0 := [some (vR 55), some (vI 2), none, none, none]) (q := 55) (ci := 9) (T := TX9) (N := 52) dX9_item_263 m_X9_figures ul_5_162 ⟨ul_5_164, us_X9_figures⟩ ⟨rfl, rfl⟩ rfl rfl rfl rfl rfl rfl rfl (c_X9_figures w 2 g1 _ H) ?_
          rintro _ h21 ⟨r21, rfl, H⟩
          show Ev w Y_X9_item 266 [some (vR 55), some (vI x1), some (vI x2)] [vI r21] h21 (rI K)
          have J : Ev w Y_X9_item 308 [some (vR 55), some (vI x1), some (vI x2)] [vI (b2i ((¬ r21 = 0) ∧ (((0 ≤ (h21 81 0) ∧ (h21 81 0) ≤ 9)) ∧ ((1 ≤ (h21 81 1) ∧ (h21 81 1) ≤ 3)))))] h21 (rI K) := by
            exact e_ret (pc := 308) (v := some (vI (b2i ((¬ r21 = 0) ∧ (((0 ≤ (h21 81 0) ∧ (h21 81 0) ≤ 9)) ∧ ((1 ≤ (h21 81 1) ∧ (h21 81 1) ≤ 3))))))) dX9_item_308 rfl (b2i_01 _) ⟨_, rfl, H⟩
          refine e_if_eq (pc := 266) (tgt := 307) dX9_item_266 (by decide) (fun c2 => ?_) (fun c2 => ?_)
          · refine e_iconst (pc := 307) dX9_item_307 ⟨by decide, by decide⟩ ?_
            exact e_top (b2i_f (fun z => (fun z => z c2) z.1)) J
          · refine e_aload_n (pc := 269) dX9_item_269 rfl rfl ?_
            refine e_getR (q := 55) (ci := 9) (k := 40) (y := 81) (C := RX9) (T := TX9) (N := 52) (pc := 270) dX9_item_270 rfl rfl ev_in9 rfl ul_4_222 ⟨rfl, rfl⟩ rfl ?_
            refine e_iconst (pc := 273) dX9_item_273 ⟨by decide, by decide⟩ ?_
            refine e_iald (q := 81) (x := (h21 81 0)) (pc := 274) dX9_item_274 rfl ⟨by decide, by decide⟩ rfl ?_
            refine e_i2l (pc := 275) dX9_item_275 ?_
            refine e_lconst (x := 0) (pc := 276) dX9_item_276 ⟨by decide, by decide⟩ (by decide) ?_
            refine e_ldc2 (x := 9) (pc := 277) dX9_item_277 ul_5_128 ⟨by decide, by decide⟩ ?_
            refine e_invS (pc := 280) (Y' := Y_X9_in) (as := [vL (h21 81 0), vL 0, vL 9]) (st := []) (lv0 := [some (vL (h21 81 0)), none, some (vL 0), none, some (vL 9), none]) dX9_item_280 m_X9_in ul_5_104 ul_5_105 ⟨rfl, rfl⟩ rfl rfl rfl rfl rfl (c_X9_in w (h21 81 0) 0 9 h21) ?_
            rintro _ hz ⟨_, rfl, rfl, hh⟩
            rw [hh]
            show Ev w Y_X9_item 283 [some (vR 55), some (vI x1), some (vI x2)] [vI (b2i (0 ≤ (h21 81 0) ∧ (h21 81 0) ≤ 9))] h21 (rI K)
            refine e_ifb_eq (pc := 283) (tgt := 307) dX9_item_283 (by decide) (fun c3 => ?_) (fun c3 => ?_)
            · refine e_iconst (pc := 307) dX9_item_307 ⟨by decide, by decide⟩ ?_
              exact e_top (b2i_f (fun z => (fun z => c3 z.1) z.2)) J
            · refine e_aload_n (pc := 286) dX9_item_286 rfl rfl ?_
              refine e_getR (q := 55) (ci := 9) (k := 40) (y := 81) (C := RX9) (T := TX9) (N := 52) (pc := 287) dX9_item_287 rfl rfl ev_in9 rfl ul_4_222 ⟨rfl, rfl⟩ rfl ?_
              refine e_iconst (pc := 290) dX9_item_290 ⟨by decide, by decide⟩ ?_
              refine e_iald (q := 81) (x := (h21 81 1)) (pc := 291) dX9_item_291 rfl ⟨by decide, by decide⟩ rfl ?_
              refine e_i2l (pc := 292) dX9_item_292 ?_
              refine e_lconst (x := 1) (pc := 293) dX9_item_293 ⟨by decide, by decide⟩ (by decide) ?_
              refine e_ldc2 (x := 3) (pc := 294) dX9_item_294 ul_5_107 ⟨by decide, by decide⟩ ?_
              refine e_invS (pc := 297) (Y' := Y_X9_in) (as := [vL (h21 81 1), vL 1, vL 3]) (st := []) (lv0 := [some (vL (h21 81 1)), none, some (vL 1), none, some (vL 3), none]) dX9_item_297 m_X9_in ul_5_104 ul_5_105 ⟨rfl, rfl⟩ rfl rfl rfl rfl rfl (c_X9_in w (h21 81 1) 1 3 h21) ?_
              rintro _ hz ⟨_, rfl, rfl, hh⟩
              rw [hh]
              show Ev w Y_X9_item 300 [some (vR 55), some (vI x1), some (vI x2)] [vI (b2i (1 ≤ (h21 81 1) ∧ (h21 81 1) ≤ 3))] h21 (rI K)
              refine e_ifb_eq (pc := 300) (tgt := 307) dX9_item_300 (by decide) (fun c4 => ?_) (fun c4 => ?_)
              · refine e_iconst (pc := 307) dX9_item_307 ⟨by decide, by decide⟩ ?_
                exact e_top (b2i_f (fun z => (fun z => c4 z.2) z.2)) J
              · refine e_iconst (pc := 303) dX9_item_303 ⟨by decide, by decide⟩ ?_
                refine e_goto (pc := 304) (tgt := 308) dX9_item_304 (by decide) ?_
                exact e_top (b2i_t ⟨c2, ⟨c3, c4⟩⟩) J
        · skip
          by_cases c17 : x1 = 114
          · have H := H.2.1 c17
            refine ⟨35, 76, by rw [c17]; rfl, by decide, ?_⟩
            refine e_aload_n (pc := 76) dX9_item_76 rfl rfl ?_
            refine e_iconst (pc := 77) dX9_item_77 ⟨by decide, by decide⟩ ?_
            refine e_invV (pc := 78) (Y' := Y_X9_figures) (as := [vI 5]) (st := []) (lv0 := [some (vR 55), some (vI 5), none, none, none]) (q := 55) (ci := 9) (T := TX9) (N := 52) dX9_item_78 m_X9_figures ul_5_162 ⟨ul_5_164, us_X9_figures⟩ ⟨rfl, rfl⟩ rfl rfl rfl rfl rfl rfl rfl (c_X9_figures w 5 g1 _ H) ?_
            rintro _ h22 ⟨r22, rfl, H⟩
            show Ev w Y_X9_item 81 [some (vR 55), some (vI x1), some (vI x2)] [vI r22] h22 (rI K)
            have J1 : ((¬ r22 = 0) ∧ (((0 ≤ (h22 81 0) ∧ (h22 81 0) ≤ 6)) ∧ (((0 ≤ (h22 81 1) ∧ (h22 81 1) ≤ 4)) ∧ (((0 ≤ (h22 81 2) ∧ (h22 81 2) ≤ 5)) ∧ (((0 ≤ (h22 81 3) ∧ (h22 81 3) ≤ (h22 81 4))) ∧ ((0 ≤ (h22 81 4) ∧ (h22 81 4) ≤ 23))))))) → Ev w Y_X9_item 173 [some (vR 55), some (vI x1), some (vI x2)] [] h22 (rI K) := by
              intro hp
              have H := H.1 hp
              refine e_iconst (pc := 173) dX9_item_173 ⟨by decide, by decide⟩ ?_
              refine e_goto (pc := 174) (tgt := 178) dX9_item_174 (by decide) ?_
              exact e_ret (pc := 178) (v := some (vI 1)) dX9_item_178 rfl (Or.inr rfl) ⟨_, rfl, H⟩
            have J2 : ¬ ((¬ r22 = 0) ∧ (((0 ≤ (h22 81 0) ∧ (h22 81 0) ≤ 6)) ∧ (((0 ≤ (h22 81 1) ∧ (h22 81 1) ≤ 4)) ∧ (((0 ≤ (h22 81 2) ∧ (h22 81 2) ≤ 5)) ∧ (((0 ≤ (h22 81 3) ∧ (h22 81 3) ≤ (h22 81 4))) ∧ ((0 ≤ (h22 81 4) ∧ (h22 81 4) ≤ 23))))))) → Ev w Y_X9_item 177 [some (vR 55), some (vI x1), some (vI x2)] [] h22 (rI K) := by
              intro hp
              have H := H.2 hp
              refine e_iconst (pc := 177) dX9_item_177 ⟨by decide, by decide⟩ ?_
              exact e_ret (pc := 178) (v := some (vI 0)) dX9_item_178 rfl (Or.inl rfl) ⟨_, rfl, H⟩
            refine e_if_eq (pc := 81) (tgt := 177) dX9_item_81 (by decide) (fun c5 => ?_) (fun c5 => ?_)
            · exact J2 (fun z => (fun z => z c5) z.1)
            · refine e_aload_n (pc := 84) dX9_item_84 rfl rfl ?_
              refine e_getR (q := 55) (ci := 9) (k := 40) (y := 81) (C := RX9) (T := TX9) (N := 52) (pc := 85) dX9_item_85 rfl rfl ev_in9 rfl ul_4_222 ⟨rfl, rfl⟩ rfl ?_
              refine e_iconst (pc := 88) dX9_item_88 ⟨by decide, by decide⟩ ?_
              refine e_iald (q := 81) (x := (h22 81 0)) (pc := 89) dX9_item_89 rfl ⟨by decide, by decide⟩ rfl ?_
              refine e_i2l (pc := 90) dX9_item_90 ?_
              refine e_lconst (x := 0) (pc := 91) dX9_item_91 ⟨by decide, by decide⟩ (by decide) ?_
              refine e_ldc2 (x := 6) (pc := 92) dX9_item_92 ul_5_168 ⟨by decide, by decide⟩ ?_
              refine e_invS (pc := 95) (Y' := Y_X9_in) (as := [vL (h22 81 0), vL 0, vL 6]) (st := []) (lv0 := [some (vL (h22 81 0)), none, some (vL 0), none, some (vL 6), none]) dX9_item_95 m_X9_in ul_5_104 ul_5_105 ⟨rfl, rfl⟩ rfl rfl rfl rfl rfl (c_X9_in w (h22 81 0) 0 6 h22) ?_
              rintro _ hz ⟨_, rfl, rfl, hh⟩
              rw [hh]
              show Ev w Y_X9_item 98 [some (vR 55), some (vI x1), some (vI x2)] [vI (b2i (0 ≤ (h22 81 0) ∧ (h22 81 0) ≤ 6))] h22 (rI K)
              refine e_ifb_eq (pc := 98) (tgt := 177) dX9_item_98 (by decide) (fun c6 => ?_) (fun c6 => ?_)
              · exact J2 (fun z => (fun z => c6 z.1) z.2)
              · refine e_aload_n (pc := 101) dX9_item_101 rfl rfl ?_
                refine e_getR (q := 55) (ci := 9) (k := 40) (y := 81) (C := RX9) (T := TX9) (N := 52) (pc := 102) dX9_item_102 rfl rfl ev_in9 rfl ul_4_222 ⟨rfl, rfl⟩ rfl ?_
                refine e_iconst (pc := 105) dX9_item_105 ⟨by decide, by decide⟩ ?_
                refine e_iald (q := 81) (x := (h22 81 1)) (pc := 106) dX9_item_106 rfl ⟨by decide, by decide⟩ rfl ?_
                refine e_i2l (pc := 107) dX9_item_107 ?_
                refine e_lconst (x := 0) (pc := 108) dX9_item_108 ⟨by decide, by decide⟩ (by decide) ?_
                refine e_ldc2 (x := 4) (pc := 109) dX9_item_109 ul_5_103 ⟨by decide, by decide⟩ ?_
                refine e_invS (pc := 112) (Y' := Y_X9_in) (as := [vL (h22 81 1), vL 0, vL 4]) (st := []) (lv0 := [some (vL (h22 81 1)), none, some (vL 0), none, some (vL 4), none]) dX9_item_112 m_X9_in ul_5_104 ul_5_105 ⟨rfl, rfl⟩ rfl rfl rfl rfl rfl (c_X9_in w (h22 81 1) 0 4 h22) ?_
                rintro _ hz ⟨_, rfl, rfl, hh⟩
                rw [hh]
                show Ev w Y_X9_item 115 [some (vR 55), some (vI x1), some (vI x2)] [vI (b2i (0 ≤ (h22 81 1) ∧ (h22 81 1) ≤ 4))] h22 (rI K)
                refine e_ifb_eq (pc := 115) (tgt := 177) dX9_item_115 (by decide) (fun c7 => ?_) (fun c7 => ?_)
                · exact J2 (fun z => (fun z => (fun z => c7 z.1) z.2) z.2)
                · refine e_aload_n (pc := 118) dX9_item_118 rfl rfl ?_
                  refine e_getR (q := 55) (ci := 9) (k := 40) (y := 81) (C := RX9) (T := TX9) (N := 52) (pc := 119) dX9_item_119 rfl rfl ev_in9 rfl ul_4_222 ⟨rfl, rfl⟩ rfl ?_
                  refine e_iconst (pc := 122) dX9_item_122 ⟨by decide, by decide⟩ ?_
                  refine e_iald (q := 81) (x := (h22 81 2)) (pc := 123) dX9_item_123 rfl ⟨by decide, by decide⟩ rfl ?_
                  refine e_i2l (pc := 124) dX9_item_124 ?_
                  refine e_lconst (x := 0) (pc := 125) dX9_item_125 ⟨by decide, by decide⟩ (by decide) ?_
                  refine e_ldc2 (x := 5) (pc := 126) dX9_item_126 ul_5_113 ⟨by decide, by decide⟩ ?_
                  refine e_invS (pc := 129) (Y' := Y_X9_in) (as := [vL (h22 81 2), vL 0, vL 5]) (st := []) (lv0 := [some (vL (h22 81 2)), none, some (vL 0), none, some (vL 5), none]) dX9_item_129 m_X9_in ul_5_104 ul_5_105 ⟨rfl, rfl⟩ rfl rfl rfl rfl rfl (c_X9_in w (h22 81 2) 0 5 h22) ?_
                  rintro _ hz ⟨_, rfl, rfl, hh⟩
                  rw [hh]
                  show Ev w Y_X9_item 132 [some (vR 55), some (vI x1), some (vI x2)] [vI (b2i (0 ≤ (h22 81 2) ∧ (h22 81 2) ≤ 5))] h22 (rI K)
                  refine e_ifb_eq (pc := 132) (tgt := 177) dX9_item_132 (by decide) (fun c8 => ?_) (fun c8 => ?_)
                  · exact J2 (fun z => (fun z => (fun z => (fun z => c8 z.1) z.2) z.2) z.2)
                  · refine e_aload_n (pc := 135) dX9_item_135 rfl rfl ?_
                    refine e_getR (q := 55) (ci := 9) (k := 40) (y := 81) (C := RX9) (T := TX9) (N := 52) (pc := 136) dX9_item_136 rfl rfl ev_in9 rfl ul_4_222 ⟨rfl, rfl⟩ rfl ?_
                    refine e_iconst (pc := 139) dX9_item_139 ⟨by decide, by decide⟩ ?_
                    refine e_iald (q := 81) (x := (h22 81 3)) (pc := 140) dX9_item_140 rfl ⟨by decide, by decide⟩ rfl ?_
                    refine e_i2l (pc := 141) dX9_item_141 ?_
                    refine e_lconst (x := 0) (pc := 142) dX9_item_142 ⟨by decide, by decide⟩ (by decide) ?_
                    refine e_aload_n (pc := 143) dX9_item_143 rfl rfl ?_
                    refine e_getR (q := 55) (ci := 9) (k := 40) (y := 81) (C := RX9) (T := TX9) (N := 52) (pc := 144) dX9_item_144 rfl rfl ev_in9 rfl ul_4_222 ⟨rfl, rfl⟩ rfl ?_
                    refine e_iconst (pc := 147) dX9_item_147 ⟨by decide, by decide⟩ ?_
                    refine e_iald (q := 81) (x := (h22 81 4)) (pc := 148) dX9_item_148 rfl ⟨by decide, by decide⟩ rfl ?_
                    refine e_i2l (pc := 149) dX9_item_149 ?_
                    refine e_invS (pc := 150) (Y' := Y_X9_in) (as := [vL (h22 81 3), vL 0, vL (h22 81 4)]) (st := []) (lv0 := [some (vL (h22 81 3)), none, some (vL 0), none, some (vL (h22 81 4)), none]) dX9_item_150 m_X9_in ul_5_104 ul_5_105 ⟨rfl, rfl⟩ rfl rfl rfl rfl rfl (c_X9_in w (h22 81 3) 0 (h22 81 4) h22) ?_
                    rintro _ hz ⟨_, rfl, rfl, hh⟩
                    rw [hh]
                    show Ev w Y_X9_item 153 [some (vR 55), some (vI x1), some (vI x2)] [vI (b2i (0 ≤ (h22 81 3) ∧ (h22 81 3) ≤ (h22 81 4)))] h22 (rI K)
                    refine e_ifb_eq (pc := 153) (tgt := 177) dX9_item_153 (by decide) (fun c9 => ?_) (fun c9 => ?_)
                    · exact J2 (fun z => (fun z => (fun z => (fun z => (fun z => c9 z.1) z.2) z.2) z.2) z.2)
                    · refine e_aload_n (pc := 156) dX9_item_156 rfl rfl ?_
                      refine e_getR (q := 55) (ci := 9) (k := 40) (y := 81) (C := RX9) (T := TX9) (N := 52) (pc := 157) dX9_item_157 rfl rfl ev_in9 rfl ul_4_222 ⟨rfl, rfl⟩ rfl ?_
                      refine e_iconst (pc := 160) dX9_item_160 ⟨by decide, by decide⟩ ?_
                      refine e_iald (q := 81) (x := (h22 81 4)) (pc := 161) dX9_item_161 rfl ⟨by decide, by decide⟩ rfl ?_
                      refine e_i2l (pc := 162) dX9_item_162 ?_
                      refine e_lconst (x := 0) (pc := 163) dX9_item_163 ⟨by decide, by decide⟩ (by decide) ?_
                      refine e_ldc2 (x := 23) (pc := 164) dX9_item_164 ul_5_169 ⟨by decide, by decide⟩ ?_
                      refine e_invS (pc := 167) (Y' := Y_X9_in) (as := [vL (h22 81 4), vL 0, vL 23]) (st := []) (lv0 := [some (vL (h22 81 4)), none, some (vL 0), none, some (vL 23), none]) dX9_item_167 m_X9_in ul_5_104 ul_5_105 ⟨rfl, rfl⟩ rfl rfl rfl rfl rfl (c_X9_in w (h22 81 4) 0 23 h22) ?_
                      rintro _ hz ⟨_, rfl, rfl, hh⟩
                      rw [hh]
                      show Ev w Y_X9_item 170 [some (vR 55), some (vI x1), some (vI x2)] [vI (b2i (0 ≤ (h22 81 4) ∧ (h22 81 4) ≤ 23))] h22 (rI K)
                      refine e_ifb_eq (pc := 170) (tgt := 177) dX9_item_170 (by decide) (fun c10 => ?_) (fun c10 => ?_)
                      · exact J2 (fun z => (fun z => (fun z => (fun z => (fun z => c10 z.2) z.2) z.2) z.2) z.2)
                      · exact J1 ⟨c5, ⟨c6, ⟨c7, ⟨c8, ⟨c9, c10⟩⟩⟩⟩⟩
          · skip
            by_cases c18 : x1 = 120
            · have H := H.2.2.1 c18
              refine ⟨138, 179, by rw [c18]; rfl, by decide, ?_⟩
              refine e_aload_n (pc := 179) dX9_item_179 rfl rfl ?_
              refine e_iconst (pc := 180) dX9_item_180 ⟨by decide, by decide⟩ ?_
              refine e_invV (pc := 181) (Y' := Y_X9_figures) (as := [vI 4]) (st := []) (lv0 := [some (vR 55), some (vI 4), none, none, none]) (q := 55) (ci := 9) (T := TX9) (N := 52) dX9_item_181 m_X9_figures ul_5_162 ⟨ul_5_164, us_X9_figures⟩ ⟨rfl, rfl⟩ rfl rfl rfl rfl rfl rfl rfl (c_X9_figures w 4 g1 _ H) ?_
              rintro _ h23 ⟨r23, rfl, H⟩
              show Ev w Y_X9_item 184 [some (vR 55), some (vI x1), some (vI x2)] [vI r23] h23 (rI K)
              have J : Ev w Y_X9_item 260 [some (vR 55), some (vI x1), some (vI x2)] [vI (b2i ((¬ r23 = 0) ∧ (((0 ≤ (h23 81 0) ∧ (h23 81 0) ≤ 9)) ∧ (((1 ≤ (h23 81 1) ∧ (h23 81 1) ≤ 3)) ∧ (((0 ≤ (h23 81 2) ∧ (h23 81 2) ≤ 9)) ∧ ((0 ≤ (h23 81 3) ∧ (h23 81 3) ≤ 3)))))))] h23 (rI K) := by
                exact e_ret (pc := 260) (v := some (vI (b2i ((¬ r23 = 0) ∧ (((0 ≤ (h23 81 0) ∧ (h23 81 0) ≤ 9)) ∧ (((1 ≤ (h23 81 1) ∧ (h23 81 1) ≤ 3)) ∧ (((0 ≤ (h23 81 2) ∧ (h23 81 2) ≤ 9)) ∧ ((0 ≤ (h23 81 3) ∧ (h23 81 3) ≤ 3))))))))) dX9_item_260 rfl (b2i_01 _) ⟨_, rfl, H⟩
              refine e_if_eq (pc := 184) (tgt := 259) dX9_item_184 (by decide) (fun c11 => ?_) (fun c11 => ?_)
              · refine e_iconst (pc := 259) dX9_item_259 ⟨by decide, by decide⟩ ?_
                exact e_top (b2i_f (fun z => (fun z => z c11) z.1)) J
              · refine e_aload_n (pc := 187) dX9_item_187 rfl rfl ?_
                refine e_getR (q := 55) (ci := 9) (k := 40) (y := 81) (C := RX9) (T := TX9) (N := 52) (pc := 188) dX9_item_188 rfl rfl ev_in9 rfl ul_4_222 ⟨rfl, rfl⟩ rfl ?_
                refine e_iconst (pc := 191) dX9_item_191 ⟨by decide, by decide⟩ ?_
                refine e_iald (q := 81) (x := (h23 81 0)) (pc := 192) dX9_item_192 rfl ⟨by decide, by decide⟩ rfl ?_
                refine e_i2l (pc := 193) dX9_item_193 ?_
                refine e_lconst (x := 0) (pc := 194) dX9_item_194 ⟨by decide, by decide⟩ (by decide) ?_
                refine e_ldc2 (x := 9) (pc := 195) dX9_item_195 ul_5_128 ⟨by decide, by decide⟩ ?_
                refine e_invS (pc := 198) (Y' := Y_X9_in) (as := [vL (h23 81 0), vL 0, vL 9]) (st := []) (lv0 := [some (vL (h23 81 0)), none, some (vL 0), none, some (vL 9), none]) dX9_item_198 m_X9_in ul_5_104 ul_5_105 ⟨rfl, rfl⟩ rfl rfl rfl rfl rfl (c_X9_in w (h23 81 0) 0 9 h23) ?_
                rintro _ hz ⟨_, rfl, rfl, hh⟩
                rw [hh]
                show Ev w Y_X9_item 201 [some (vR 55), some (vI x1), some (vI x2)] [vI (b2i (0 ≤ (h23 81 0) ∧ (h23 81 0) ≤ 9))] h23 (rI K)
                refine e_ifb_eq (pc := 201) (tgt := 259) dX9_item_201 (by decide) (fun c12 => ?_) (fun c12 => ?_)
                · refine e_iconst (pc := 259) dX9_item_259 ⟨by decide, by decide⟩ ?_
                  exact e_top (b2i_f (fun z => (fun z => c12 z.1) z.2)) J
                · refine e_aload_n (pc := 204) dX9_item_204 rfl rfl ?_
                  refine e_getR (q := 55) (ci := 9) (k := 40) (y := 81) (C := RX9) (T := TX9) (N := 52) (pc := 205) dX9_item_205 rfl rfl ev_in9 rfl ul_4_222 ⟨rfl, rfl⟩ rfl ?_
                  refine e_iconst (pc := 208) dX9_item_208 ⟨by decide, by decide⟩ ?_
                  refine e_iald (q := 81) (x := (h23 81 1)) (pc := 209) dX9_item_209 rfl ⟨by decide, by decide⟩ rfl ?_
                  refine e_i2l (pc := 210) dX9_item_210 ?_
                  refine e_lconst (x := 1) (pc := 211) dX9_item_211 ⟨by decide, by decide⟩ (by decide) ?_
                  refine e_ldc2 (x := 3) (pc := 212) dX9_item_212 ul_5_107 ⟨by decide, by decide⟩ ?_
                  refine e_invS (pc := 215) (Y' := Y_X9_in) (as := [vL (h23 81 1), vL 1, vL 3]) (st := []) (lv0 := [some (vL (h23 81 1)), none, some (vL 1), none, some (vL 3), none]) dX9_item_215 m_X9_in ul_5_104 ul_5_105 ⟨rfl, rfl⟩ rfl rfl rfl rfl rfl (c_X9_in w (h23 81 1) 1 3 h23) ?_
                  rintro _ hz ⟨_, rfl, rfl, hh⟩
                  rw [hh]
                  show Ev w Y_X9_item 218 [some (vR 55), some (vI x1), some (vI x2)] [vI (b2i (1 ≤ (h23 81 1) ∧ (h23 81 1) ≤ 3))] h23 (rI K)
                  refine e_ifb_eq (pc := 218) (tgt := 259) dX9_item_218 (by decide) (fun c13 => ?_) (fun c13 => ?_)
                  · refine e_iconst (pc := 259) dX9_item_259 ⟨by decide, by decide⟩ ?_
                    exact e_top (b2i_f (fun z => (fun z => (fun z => c13 z.1) z.2) z.2)) J
                  · refine e_aload_n (pc := 221) dX9_item_221 rfl rfl ?_
                    refine e_getR (q := 55) (ci := 9) (k := 40) (y := 81) (C := RX9) (T := TX9) (N := 52) (pc := 222) dX9_item_222 rfl rfl ev_in9 rfl ul_4_222 ⟨rfl, rfl⟩ rfl ?_
                    refine e_iconst (pc := 225) dX9_item_225 ⟨by decide, by decide⟩ ?_
                    refine e_iald (q := 81) (x := (h23 81 2)) (pc := 226) dX9_item_226 rfl ⟨by decide, by decide⟩ rfl ?_
                    refine e_i2l (pc := 227) dX9_item_227 ?_
                    refine e_lconst (x := 0) (pc := 228) dX9_item_228 ⟨by decide, by decide⟩ (by decide) ?_
                    refine e_ldc2 (x := 9) (pc := 229) dX9_item_229 ul_5_128 ⟨by decide, by decide⟩ ?_
                    refine e_invS (pc := 232) (Y' := Y_X9_in) (as := [vL (h23 81 2), vL 0, vL 9]) (st := []) (lv0 := [some (vL (h23 81 2)), none, some (vL 0), none, some (vL 9), none]) dX9_item_232 m_X9_in ul_5_104 ul_5_105 ⟨rfl, rfl⟩ rfl rfl rfl rfl rfl (c_X9_in w (h23 81 2) 0 9 h23) ?_
                    rintro _ hz ⟨_, rfl, rfl, hh⟩
                    rw [hh]
                    show Ev w Y_X9_item 235 [some (vR 55), some (vI x1), some (vI x2)] [vI (b2i (0 ≤ (h23 81 2) ∧ (h23 81 2) ≤ 9))] h23 (rI K)
                    refine e_ifb_eq (pc := 235) (tgt := 259) dX9_item_235 (by decide) (fun c14 => ?_) (fun c14 => ?_)
                    · refine e_iconst (pc := 259) dX9_item_259 ⟨by decide, by decide⟩ ?_
                      exact e_top (b2i_f (fun z => (fun z => (fun z => (fun z => c14 z.1) z.2) z.2) z.2)) J
                    · refine e_aload_n (pc := 238) dX9_item_238 rfl rfl ?_
                      refine e_getR (q := 55) (ci := 9) (k := 40) (y := 81) (C := RX9) (T := TX9) (N := 52) (pc := 239) dX9_item_239 rfl rfl ev_in9 rfl ul_4_222 ⟨rfl, rfl⟩ rfl ?_
                      refine e_iconst (pc := 242) dX9_item_242 ⟨by decide, by decide⟩ ?_
                      refine e_iald (q := 81) (x := (h23 81 3)) (pc := 243) dX9_item_243 rfl ⟨by decide, by decide⟩ rfl ?_
                      refine e_i2l (pc := 244) dX9_item_244 ?_
                      refine e_lconst (x := 0) (pc := 245) dX9_item_245 ⟨by decide, by decide⟩ (by decide) ?_
                      refine e_ldc2 (x := 3) (pc := 246) dX9_item_246 ul_5_107 ⟨by decide, by decide⟩ ?_
                      refine e_invS (pc := 249) (Y' := Y_X9_in) (as := [vL (h23 81 3), vL 0, vL 3]) (st := []) (lv0 := [some (vL (h23 81 3)), none, some (vL 0), none, some (vL 3), none]) dX9_item_249 m_X9_in ul_5_104 ul_5_105 ⟨rfl, rfl⟩ rfl rfl rfl rfl rfl (c_X9_in w (h23 81 3) 0 3 h23) ?_
                      rintro _ hz ⟨_, rfl, rfl, hh⟩
                      rw [hh]
                      show Ev w Y_X9_item 252 [some (vR 55), some (vI x1), some (vI x2)] [vI (b2i (0 ≤ (h23 81 3) ∧ (h23 81 3) ≤ 3))] h23 (rI K)
                      refine e_ifb_eq (pc := 252) (tgt := 259) dX9_item_252 (by decide) (fun c15 => ?_) (fun c15 => ?_)
                      · refine e_iconst (pc := 259) dX9_item_259 ⟨by decide, by decide⟩ ?_
                        exact e_top (b2i_f (fun z => (fun z => (fun z => (fun z => c15 z.2) z.2) z.2) z.2)) J
                      · refine e_iconst (pc := 255) dX9_item_255 ⟨by decide, by decide⟩ ?_
                        refine e_goto (pc := 256) (tgt := 260) dX9_item_256 (by decide) ?_
                        exact e_top (b2i_t ⟨c11, ⟨c12, ⟨c13, ⟨c14, c15⟩⟩⟩⟩) J
            · skip
              have H := H.2.2.2 ⟨c16, c17, c18⟩
              refine ⟨268, 309, by simp [Op.lookupswitch.offset] <;> (repeat' split) <;> omega, by decide, ?_⟩
              refine e_iconst (pc := 309) dX9_item_309 ⟨by decide, by decide⟩ ?_
              exact e_ret (pc := 310) (v := some (vI 0)) dX9_item_310 rfl (Or.inl rfl) ⟨_, rfl, H⟩
      · have H := H.2 c1
        refine e_aload_n (pc := 27) dX9_item_27 rfl rfl ?_
        refine e_getR (q := 55) (ci := 9) (k := 40) (y := 81) (C := RX9) (T := TX9) (N := 52) (pc := 28) dX9_item_28 rfl rfl ev_in9 rfl ul_4_222 ⟨rfl, rfl⟩ rfl ?_
        refine e_iload_n (pc := 31) dX9_item_31 rfl rfl ?_
        refine e_iconst (pc := 32) dX9_item_32 ⟨by decide, by decide⟩ ?_
        refine e_iast (q := 81) (pc := 33) dX9_item_33 rfl H.1 ?_
        have H := H.2
        refine e_iinc (lv' := [some (vR 55), some (vI x1), some (vI (x2 + 1))]) (pc := 34) dX9_item_34 rfl H.1 rfl rfl ?_
        have H := H.2
        refine e_goto (pc := 37) (tgt := 22) dX9_item_37 (by decide) ?_
        obtain ⟨m, hm, H⟩ := H
        exact ih1 m hm _ _ _ H
  refine e_aload_n (pc := 0) dX9_item_0 rfl rfl ?_
  refine e_getR (q := 55) (ci := 9) (k := 17) (y := 69) (C := RX9) (T := TX9) (N := 52) (pc := 1) dX9_item_1 rfl rfl ev_in9 rfl ul_4_199 ⟨rfl, rfl⟩ rfl ?_
  refine e_aload_n (pc := 4) dX9_item_4 rfl rfl ?_
  refine e_getI (q := 55) (ci := 9) (k := 39) (kz := 39) (C := RX9) (T := TX9) (N := 52) (x := (h 55 39)) (pc := 5) dX9_item_5 rfl rfl rfl ev_in9 rfl ul_4_221 ⟨rfl, by decide⟩ rfl ?_
  refine e_iald (q := 69) (x := (h 69 (h 55 39))) (pc := 8) dX9_item_8 rfl H.1 rfl ?_
  have H := H.2
  refine e_istore_n (lv' := [some (vR 55), some (vI (h 69 (h 55 39))), none]) (pc := 9) dX9_item_9 rfl rfl rfl ?_
  refine e_aload_n (pc := 10) dX9_item_10 rfl rfl ?_
  refine e_dup (pc := 11) dX9_item_11 rfl ?_
  refine e_getI (q := 55) (ci := 9) (k := 39) (kz := 39) (C := RX9) (T := TX9) (N := 52) (x := (h 55 39)) (pc := 12) dX9_item_12 rfl rfl rfl ev_in9 rfl ul_4_221 ⟨rfl, by decide⟩ rfl ?_
  refine e_iconst (pc := 15) dX9_item_15 ⟨by decide, by decide⟩ ?_
  refine e_iadd (pc := 16) dX9_item_16 H.1 ?_
  have H := H.2
  refine e_put (q := 55) (ci := 9) (k := 39) (kz := 39) (C := RX9) (T := TX9) (N := 52) (ty := .int) (pc := 17) dX9_item_17 rfl rfl rfl ev_in9 tyX9 tyX9_ok nmX9 rfl ul_4_221 ⟨rfl, by decide⟩ rfl (tyX9_ok 39 (by decide)) (Or.inl rfl) ?_
  refine e_iconst (pc := 20) dX9_item_20 ⟨by decide, by decide⟩ ?_
  refine e_istore_n (lv' := [some (vR 55), some (vI (h 69 (h 55 39))), some (vI 0)]) (pc := 21) dX9_item_21 rfl rfl rfl ?_
  obtain ⟨m, H⟩ := H
  exact L1 m _ _ _ H
set_option maxRecDepth 100000 in
set_option maxHeartbeats 4000000 in
theorem c_X9_item (w : WD)  (h : HP) (K : Int → HP → Prop)  (H : S_X9_item  h K) : Ev w Y_X9_item 0 [some (vR 55), none, none] [] h (rI K) := by
  obtain ⟨⟨ht, ha0, ha1⟩, HK⟩ := H
  obtain ⟨t1, t2, t3⟩ := id ht
  refine v_X9_item w h K (fun n x1 x2 g => x1 = h 69 (h 55 39) ∧ (0 ≤ x2 ∧ x2 ≤ 5) ∧ n = (5 - x2).toNat ∧ (∀ q, q ≠ 55 → q ≠ 81 → g q = h q) ∧ (∀ i : Int, i ≠ 39 → g 55 i = h 55 i) ∧ g 55 39 = h 55 39 + 1) ⟨by omega, ⟨by omega, by omega⟩, 5, rfl, by omega, rfl, fun q a b => by rw [sth_ne a], fun i a => by rw [sth_eq, us_n a], by rw [sth_eq, us_s]⟩ ?_
  rintro n x1 x2 g ⟨rfl, h0, rfl, hg, hg5, hga⟩
  have g16 : g 55 16 = h 55 16 := hg5 16 (by decide)
  have g69 : g 69 = h 69 := hg 69 (by decide) (by decide)
  have htg : mtOK g := mtOK_c g16 g69 ht
  have hpre : ∀ m : Int, 0 ≤ m → m ≤ 5 → (mtOK g ∧ (0 ≤ m ∧ m ≤ 5) ∧ 0 ≤ g 55 39 ∧ g 55 39 ≤ g 55 16) := fun m a b => ⟨htg, ⟨a, b⟩, by omega, by omega⟩
  refine ⟨fun c => ⟨fun e => ⟨hpre 2 (by decide) (by decide), fun r h1 hf hf5 hr => ?_⟩, fun e => ⟨hpre 5 (by decide) (by decide), fun r h1 hf hf5 hr => ?_⟩, fun e => ⟨hpre 4 (by decide) (by decide), fun r h1 hf hf5 hr => ?_⟩, fun e => ?_⟩, fun c => ⟨by omega, ⟨by omega, by omega⟩, (5 - (x2 + 1)).toNat, by omega, rfl, by omega, rfl, fun q a b => by rw [sth_ne b]; exact hg q a b, fun i a => by rw [sth_ne (by decide)]; exact hg5 i a, by rw [sth_ne (by decide)]; exact hga⟩⟩
  · refine item_end (l := 110) (m := 2) e (by decide) HK hg hg5 hga hf hf5 hr (fun nn => ?_) (fun z => z.1) rfl
    have := nn 0 (by decide) (by decide)
    unfold fitI
    simp
    omega
  · refine ⟨fun c2 => item_end (l := 114) (m := 5) e (by decide) HK hg hg5 hga hf hf5 hr (fun nn => ?_) (fun z => z.1) (b2i_t c2).symm, fun c2 => item_end (l := 114) (m := 5) e (by decide) HK hg hg5 hga hf hf5 hr (fun nn => ?_) (fun z => z.1) (b2i_f c2).symm⟩
    · have := nn 0 (by decide) (by decide)
      have := nn 1 (by decide) (by decide)
      have := nn 2 (by decide) (by decide)
      have := nn 3 (by decide) (by decide)
      have := nn 4 (by decide) (by decide)
      unfold fitI
      simp
      omega
    · have := nn 0 (by decide) (by decide)
      have := nn 1 (by decide) (by decide)
      have := nn 2 (by decide) (by decide)
      have := nn 3 (by decide) (by decide)
      have := nn 4 (by decide) (by decide)
      unfold fitI
      simp
      omega
  · refine item_end (l := 120) (m := 4) e (by decide) HK hg hg5 hga hf hf5 hr (fun nn => ?_) (fun z => z.1) rfl
    have := nn 0 (by decide) (by decide)
    have := nn 1 (by decide) (by decide)
    have := nn 2 (by decide) (by decide)
    have := nn 3 (by decide) (by decide)
    unfold fitI
    simp
    omega
  · refine HK 0 g hg hg5 (Or.inr ⟨fun z => ?_, rfl⟩)
    have := z.2
    unfold fitI at this
    omega
