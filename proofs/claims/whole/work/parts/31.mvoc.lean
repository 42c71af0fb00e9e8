/-! the reference: words, prices -/
set_option maxRecDepth 100000 in
set_option maxHeartbeats 4000000 in
theorem v_X9_less (w : WD) (a : Int) (b : Int) (h : HP) (K : Int → HP → Prop) 
    (H : K (cif (b ≤ a) b a) h) :
    Ev w Y_X9_less 0 [some (vI a), some (vI b)] [] h (rI K) := by
  refine e_iload_n (pc := 0) dX9_less_0 rfl rfl ?_
  refine e_iload_n (pc := 1) dX9_less_1 rfl rfl ?_
  have J : Ev w Y_X9_less 10 [some (vI a), some (vI b)] [vI (cif (b ≤ a) b a)] h (rI K) := by
    exact e_ret (pc := 10) (v := some (vI (cif (b ≤ a) b a))) dX9_less_10 rfl trivial ⟨_, rfl, H⟩
  refine e_icmp_ge (pc := 2) (tgt := 9) dX9_less_2 (by decide) (fun c1 => ?_) (fun c1 => ?_)
  · refine e_iload_n (pc := 9) dX9_less_9 rfl rfl ?_
    exact e_top (cif_t c1) J
  · refine e_iload_n (pc := 5) dX9_less_5 rfl rfl ?_
    refine e_goto (pc := 6) (tgt := 10) dX9_less_6 (by decide) ?_
    exact e_top (cif_f c1) J
set_option maxRecDepth 100000 in
set_option maxHeartbeats 4000000 in
theorem c_X9_less (w : WD) (a : Int) (b : Int) (h : HP) : Ev w Y_X9_less 0 [some (vI a), some (vI b)] [] h (rI (fun r h' => r = (min a b) ∧ h' = h)) := by
  refine v_X9_less w a b h _ ⟨?_, rfl⟩
  by_cases c : b ≤ a
  · rw [cif_t c]; omega
  · rw [cif_f c]; omega
theorem ishl16 {n : Int} (h : 1 ≤ n ∧ n ≤ 4) : ishl 1 (4 * n) = 16 ^ n.toNat := by
  rcases (show n = 1 ∨ n = 2 ∨ n = 3 ∨ n = 4 by omega) with rfl | rfl | rfl | rfl <;> decide
theorem p16_b {n : Int} (h : 1 ≤ n ∧ n ≤ 4) : (16 : Int) ^ n.toNat ≤ 65536 ∧ 16 ≤ (16 : Int) ^ n.toNat := by
  rcases (show n = 1 ∨ n = 2 ∨ n = 3 ∨ n = 4 by omega) with rfl | rfl | rfl | rfl <;> decide
def topN (kd : Int) : Int := if kd = 2 then 4 else if kd = 3 then 0 else 3
def okW (kd nb n v : Int) : Prop := (0 ≤ kd ∧ kd ≤ 3) ∧ (0 ≤ nb ∧ nb ≤ topN kd) ∧ (1 ≤ n ∧ n ≤ 4) ∧ (0 ≤ v ∧ v < 16 ^ n.toNat)
def S_X9_word (kd nb n v : Int) (h : HP) (K : Int → HP → Prop) : Prop := (0 ≤ h 55 10 ∧ h 55 10 ≤ 16) ∧ (¬ okW kd nb n v → K (-1) h) ∧ (okW kd nb n v → (h 55 10 = 16 → K (-3) h) ∧ (h 55 10 < 16 → ∀ h' : HP, (∀ q, q ≠ 64 → q ≠ 65 → q ≠ 66 → q ≠ 67 → q ≠ 55 → h' q = h q) → (∀ i : Int, i ≠ 10 → h' 55 i = h 55 i) → h' 55 10 = h 55 10 + 1 → h' 64 = us (h 64) (h 55 10) kd → h' 65 = us (h 65) (h 55 10) nb → h' 66 = us (h 66) (h 55 10) n → h' 67 = sndW (h 67) (h 55 10) n v → K (h 55 10) h'))
set_option maxRecDepth 100000 in
set_option maxHeartbeats 4000000 in
theorem v_X9_word (w : WD) (kd : Int) (nb : Int) (n : Int) (v : Int) (h : HP) (K : Int → HP → Prop) 
    (I1 : Nat → Int → HP → Prop)
    (H : ((¬ (0 ≤ kd ∧ kd ≤ 3) → K (-1) h) ∧ ((0 ≤ kd ∧ kd ≤ 3) → ((¬ kd = 2 → ((¬ kd = 3 → ((((¬ (0 ≤ nb ∧ nb ≤ 3) → True) ∧ ((0 ≤ nb ∧ nb ≤ 3) → ((¬ (1 ≤ n ∧ n ≤ 4) → True) ∧ ((1 ≤ n ∧ n ≤ 4) → ((iR (4 * n)) ∧ ((iR ((ishl 1 (4 * n)) - 1)) ∧ True))))))) ∧ (((((0 ≤ nb ∧ nb ≤ 3)) ∧ (((1 ≤ n ∧ n ≤ 4)) ∧ ((0 ≤ v ∧ v ≤ ((ishl 1 (4 * n)) - 1))))) → ((¬ (h 55 10) = 16 → ((0 ≤ (h 55 10) ∧ (h 55 10) < 16) ∧ ((0 ≤ (h 55 10) ∧ (h 55 10) < 16) ∧ ((0 ≤ (h 55 10) ∧ (h 55 10) < 16) ∧ (∃ m : Nat, I1 m 0 (sth (sth (sth h 64 (h 55 10) kd) 65 (h 55 10) nb) 66 (h 55 10) n)))))) ∧ ((h 55 10) = 16 → K (-3) h))) ∧ (¬ (((0 ≤ nb ∧ nb ≤ 3)) ∧ (((1 ≤ n ∧ n ≤ 4)) ∧ ((0 ≤ v ∧ v ≤ ((ishl 1 (4 * n)) - 1))))) → K (-1) h)))) ∧ (kd = 3 → ((((¬ (0 ≤ nb ∧ nb ≤ 0) → True) ∧ ((0 ≤ nb ∧ nb ≤ 0) → ((¬ (1 ≤ n ∧ n ≤ 4) → True) ∧ ((1 ≤ n ∧ n ≤ 4) → ((iR (4 * n)) ∧ ((iR ((ishl 1 (4 * n)) - 1)) ∧ True))))))) ∧ (((((0 ≤ nb ∧ nb ≤ 0)) ∧ (((1 ≤ n ∧ n ≤ 4)) ∧ ((0 ≤ v ∧ v ≤ ((ishl 1 (4 * n)) - 1))))) → ((¬ (h 55 10) = 16 → ((0 ≤ (h 55 10) ∧ (h 55 10) < 16) ∧ ((0 ≤ (h 55 10) ∧ (h 55 10) < 16) ∧ ((0 ≤ (h 55 10) ∧ (h 55 10) < 16) ∧ (∃ m : Nat, I1 m 0 (sth (sth (sth h 64 (h 55 10) kd) 65 (h 55 10) nb) 66 (h 55 10) n)))))) ∧ ((h 55 10) = 16 → K (-3) h))) ∧ (¬ (((0 ≤ nb ∧ nb ≤ 0)) ∧ (((1 ≤ n ∧ n ≤ 4)) ∧ ((0 ≤ v ∧ v ≤ ((ishl 1 (4 * n)) - 1))))) → K (-1) h)))))) ∧ (kd = 2 → ((((¬ (0 ≤ nb ∧ nb ≤ 4) → True) ∧ ((0 ≤ nb ∧ nb ≤ 4) → ((¬ (1 ≤ n ∧ n ≤ 4) → True) ∧ ((1 ≤ n ∧ n ≤ 4) → ((iR (4 * n)) ∧ ((iR ((ishl 1 (4 * n)) - 1)) ∧ True))))))) ∧ (((((0 ≤ nb ∧ nb ≤ 4)) ∧ (((1 ≤ n ∧ n ≤ 4)) ∧ ((0 ≤ v ∧ v ≤ ((ishl 1 (4 * n)) - 1))))) → ((¬ (h 55 10) = 16 → ((0 ≤ (h 55 10) ∧ (h 55 10) < 16) ∧ ((0 ≤ (h 55 10) ∧ (h 55 10) < 16) ∧ ((0 ≤ (h 55 10) ∧ (h 55 10) < 16) ∧ (∃ m : Nat, I1 m 0 (sth (sth (sth h 64 (h 55 10) kd) 65 (h 55 10) nb) 66 (h 55 10) n)))))) ∧ ((h 55 10) = 16 → K (-3) h))) ∧ (¬ (((0 ≤ nb ∧ nb ≤ 4)) ∧ (((1 ≤ n ∧ n ≤ 4)) ∧ ((0 ≤ v ∧ v ≤ ((ishl 1 (4 * n)) - 1))))) → K (-1) h))))))))
    (H1 : ∀ (n1 : Nat) (x5 : Int) (g1 : HP), I1 n1 x5 g1 → ((n ≤ x5 → ((iR ((g1 55 10) + 1)) ∧ ((iR (((g1 55 10) + 1) - 1)) ∧ K (((g1 55 10) + 1) - 1) (sth g1 55 10 ((g1 55 10) + 1))))) ∧ (¬ n ≤ x5 → ((iR (4 * (g1 55 10))) ∧ ((iR ((4 * (g1 55 10)) + x5)) ∧ ((iR (n - 1)) ∧ ((iR ((n - 1) - x5)) ∧ ((iR (4 * ((n - 1) - x5))) ∧ ((0 ≤ ((4 * (g1 55 10)) + x5) ∧ ((4 * (g1 55 10)) + x5) < 64) ∧ ((iR (x5 + 1)) ∧ (∃ m : Nat, m < n1 ∧ I1 m (x5 + 1) (sth g1 67 ((4 * (g1 55 10)) + x5) (iand (ishr v (4 * ((n - 1) - x5))) 15))))))))))))) :
    Ev w Y_X9_word 0 [some (vR 55), some (vI kd), some (vI nb), some (vI n), some (vI v), none] [] h (rI K) := by
  have L1 : ∀ (n1 : Nat) (x5 : Int) (g1 : HP), I1 n1 x5 g1 → Ev w Y_X9_word 121 [some (vR 55), none, none, some (vI n), some (vI v), some (vI x5)] [] g1 (rI K) := by
    intro n1
    induction n1 using Nat.strongRecOn with
    | ind n1 ih1 =>
      intro x5 g1 H
      have H := H1 n1 x5 g1 H
      refine e_iload (pc := 121) dX9_word_121 rfl ?_
      refine e_iload_n (pc := 123) dX9_word_123 rfl rfl ?_
      refine e_icmp_ge (pc := 124) (tgt := 161) dX9_word_124 (by decide) (fun c16 => ?_) (fun c16 => ?_)
      · have H := H.1 c16
        refine e_aload_n (pc := 161) dX9_word_161 rfl rfl ?_
        refine e_dup (pc := 162) dX9_word_162 rfl ?_
        refine e_getI (q := 55) (ci := 9) (k := 10) (kz := 10) (C := RX9) (T := TX9) (N := 52) (x := (g1 55 10)) (pc := 163) dX9_word_163 rfl rfl rfl ev_in9 rfl ul_4_192 ⟨rfl, by decide⟩ rfl ?_
        refine e_iconst (pc := 166) dX9_word_166 ⟨by decide, by decide⟩ ?_
        refine e_iadd (pc := 167) dX9_word_167 H.1 ?_
        have H := H.2
        refine e_put (q := 55) (ci := 9) (k := 10) (kz := 10) (C := RX9) (T := TX9) (N := 52) (ty := .int) (pc := 168) dX9_word_168 rfl rfl rfl ev_in9 tyX9 tyX9_ok nmX9 rfl ul_4_192 ⟨rfl, by decide⟩ rfl (tyX9_ok 10 (by decide)) (Or.inl rfl) ?_
        refine e_aload_n (pc := 171) dX9_word_171 rfl rfl ?_
        refine e_getI (q := 55) (ci := 9) (k := 10) (kz := 10) (C := RX9) (T := TX9) (N := 52) (x := ((g1 55 10) + 1)) (pc := 172) dX9_word_172 rfl rfl rfl ev_in9 rfl ul_4_192 ⟨rfl, by decide⟩ rfl ?_
        refine e_iconst (pc := 175) dX9_word_175 ⟨by decide, by decide⟩ ?_
        refine e_isub (pc := 176) dX9_word_176 H.1 ?_
        have H := H.2
        exact e_ret (pc := 177) (v := some (vI (((g1 55 10) + 1) - 1))) dX9_word_177 rfl trivial ⟨_, rfl, H⟩
      · have H := H.2 c16
        refine e_aload_n (pc := 127) dX9_word_127 rfl rfl ?_
        refine e_getR (q := 55) (ci := 9) (k := 14) (y := 67) (C := RX9) (T := TX9) (N := 52) (pc := 128) dX9_word_128 rfl rfl ev_in9 rfl ul_4_196 ⟨rfl, rfl⟩ rfl ?_
        refine e_iconst (pc := 131) dX9_word_131 ⟨by decide, by decide⟩ ?_
        refine e_aload_n (pc := 132) dX9_word_132 rfl rfl ?_
        refine e_getI (q := 55) (ci := 9) (k := 10) (kz := 10) (C := RX9) (T := TX9) (N := 52) (x := (g1 55 10)) (pc := 133) dX9_word_133 rfl rfl rfl ev_in9 rfl ul_4_192 ⟨rfl, by decide⟩ rfl ?_
        refine e_imul (pc := 136) dX9_word_136 H.1 ?_
        have H := H.2
        refine e_iload (pc := 137) dX9_word_137 rfl ?_
        refine e_iadd (pc := 139) dX9_word_139 H.1 ?_
        have H := H.2
        refine e_iload (pc := 140) dX9_word_140 rfl ?_
        refine e_iconst (pc := 142) dX9_word_142 ⟨by decide, by decide⟩ ?_
        refine e_iload_n (pc := 143) dX9_word_143 rfl rfl ?_
        refine e_iconst (pc := 144) dX9_word_144 ⟨by decide, by decide⟩ ?_
        refine e_isub (pc := 145) dX9_word_145 H.1 ?_
        have H := H.2
        refine e_iload (pc := 146) dX9_word_146 rfl ?_
        refine e_isub (pc := 148) dX9_word_148 H.1 ?_
        have H := H.2
        refine e_imul (pc := 149) dX9_word_149 H.1 ?_
        have H := H.2
        refine e_ishr (pc := 150) dX9_word_150 ?_
        refine e_bipush (pc := 151) dX9_word_151 ⟨by decide, by decide⟩ (by decide) ?_
        refine e_iand (pc := 153) dX9_word_153 ?_
        refine e_iast (q := 67) (pc := 154) dX9_word_154 rfl H.1 ?_
        have H := H.2
        refine e_iinc (lv' := [some (vR 55), none, none, some (vI n), some (vI v), some (vI (x5 + 1))]) (pc := 155) dX9_word_155 rfl H.1 rfl rfl ?_
        have H := H.2
        refine e_goto (pc := 158) (tgt := 121) dX9_word_158 (by decide) ?_
        obtain ⟨m, hm, H⟩ := H
        exact ih1 m hm _ _ H
  refine e_iload_n (pc := 0) dX9_word_0 rfl rfl ?_
  refine e_i2l (pc := 1) dX9_word_1 ?_
  refine e_lconst (x := 0) (pc := 2) dX9_word_2 ⟨by decide, by decide⟩ (by decide) ?_
  refine e_ldc2 (x := 3) (pc := 3) dX9_word_3 ul_5_107 ⟨by decide, by decide⟩ ?_
  refine e_invS (pc := 6) (Y' := Y_X9_in) (as := [vL kd, vL 0, vL 3]) (st := []) (lv0 := [some (vL kd), none, some (vL 0), none, some (vL 3), none]) dX9_word_6 m_X9_in ul_5_104 ul_5_105 ⟨rfl, rfl⟩ rfl rfl rfl rfl rfl (c_X9_in w kd 0 3 h) ?_
  rintro _ hz ⟨_, rfl, rfl, hh⟩
  rw [hh]
  show Ev w Y_X9_word 9 [some (vR 55), some (vI kd), some (vI nb), some (vI n), some (vI v), none] [vI (b2i (0 ≤ kd ∧ kd ≤ 3))] h (rI K)
  refine e_ifb_eq (pc := 9) (tgt := 74) dX9_word_9 (by decide) (fun c1 => ?_) (fun c1 => ?_)
  · have H := H.1 c1
    refine e_iconst (pc := 74) dX9_word_74 ⟨by decide, by decide⟩ ?_
    exact e_ret (pc := 75) (v := some (vI (-1))) dX9_word_75 rfl trivial ⟨_, rfl, H⟩
  · have H := H.2 c1
    refine e_iload_n (pc := 12) dX9_word_12 rfl rfl ?_
    refine e_i2l (pc := 13) dX9_word_13 ?_
    refine e_lconst (x := 0) (pc := 14) dX9_word_14 ⟨by decide, by decide⟩ (by decide) ?_
    refine e_iload_n (pc := 15) dX9_word_15 rfl rfl ?_
    refine e_iconst (pc := 16) dX9_word_16 ⟨by decide, by decide⟩ ?_
    refine e_icmp_ne (pc := 17) (tgt := 26) dX9_word_17 (by decide) (fun c2 => ?_) (fun c2 => ?_)
    · have H := H.1 c2
      refine e_iload_n (pc := 26) dX9_word_26 rfl rfl ?_
      refine e_iconst (pc := 27) dX9_word_27 ⟨by decide, by decide⟩ ?_
      refine e_icmp_ne (pc := 28) (tgt := 35) dX9_word_28 (by decide) (fun c3 => ?_) (fun c3 => ?_)
      · have H := H.1 c3
        refine e_ldc2 (x := 3) (pc := 35) dX9_word_35 ul_5_107 ⟨by decide, by decide⟩ ?_
        refine e_invS (pc := 38) (Y' := Y_X9_in) (as := [vL nb, vL 0, vL 3]) (st := []) (lv0 := [some (vL nb), none, some (vL 0), none, some (vL 3), none]) dX9_word_38 m_X9_in ul_5_104 ul_5_105 ⟨rfl, rfl⟩ rfl rfl rfl rfl rfl (c_X9_in w nb 0 3 h) ?_
        rintro _ hz ⟨_, rfl, rfl, hh⟩
        rw [hh]
        show Ev w Y_X9_word 41 [some (vR 55), some (vI kd), some (vI nb), some (vI n), some (vI v), none] [vI (b2i (0 ≤ nb ∧ nb ≤ 3))] h (rI K)
        have Ho := H.1
        have H := H.2
        have J1 : (((0 ≤ nb ∧ nb ≤ 3)) ∧ (((1 ≤ n ∧ n ≤ 4)) ∧ ((0 ≤ v ∧ v ≤ ((ishl 1 (4 * n)) - 1))))) → Ev w Y_X9_word 76 [some (vR 55), some (vI kd), some (vI nb), some (vI n), some (vI v), none] [] h (rI K) := by
          intro hp
          have H := H.1 hp
          refine e_aload_n (pc := 76) dX9_word_76 rfl rfl ?_
          refine e_getI (q := 55) (ci := 9) (k := 10) (kz := 10) (C := RX9) (T := TX9) (N := 52) (x := (h 55 10)) (pc := 77) dX9_word_77 rfl rfl rfl ev_in9 rfl ul_4_192 ⟨rfl, by decide⟩ rfl ?_
          refine e_bipush (pc := 80) dX9_word_80 ⟨by decide, by decide⟩ (by decide) ?_
          refine e_icmp_ne (pc := 82) (tgt := 88) dX9_word_82 (by decide) (fun c4 => ?_) (fun c4 => ?_)
          · have H := H.1 c4
            refine e_aload_n (pc := 88) dX9_word_88 rfl rfl ?_
            refine e_getR (q := 55) (ci := 9) (k := 11) (y := 64) (C := RX9) (T := TX9) (N := 52) (pc := 89) dX9_word_89 rfl rfl ev_in9 rfl ul_4_193 ⟨rfl, rfl⟩ rfl ?_
            refine e_aload_n (pc := 92) dX9_word_92 rfl rfl ?_
            refine e_getI (q := 55) (ci := 9) (k := 10) (kz := 10) (C := RX9) (T := TX9) (N := 52) (x := (h 55 10)) (pc := 93) dX9_word_93 rfl rfl rfl ev_in9 rfl ul_4_192 ⟨rfl, by decide⟩ rfl ?_
            refine e_iload_n (pc := 96) dX9_word_96 rfl rfl ?_
            refine e_iast (q := 64) (pc := 97) dX9_word_97 rfl H.1 ?_
            have H := H.2
            refine e_aload_n (pc := 98) dX9_word_98 rfl rfl ?_
            refine e_getR (q := 55) (ci := 9) (k := 12) (y := 65) (C := RX9) (T := TX9) (N := 52) (pc := 99) dX9_word_99 rfl rfl ev_in9 rfl ul_4_194 ⟨rfl, rfl⟩ rfl ?_
            refine e_aload_n (pc := 102) dX9_word_102 rfl rfl ?_
            refine e_getI (q := 55) (ci := 9) (k := 10) (kz := 10) (C := RX9) (T := TX9) (N := 52) (x := (h 55 10)) (pc := 103) dX9_word_103 rfl rfl rfl ev_in9 rfl ul_4_192 ⟨rfl, by decide⟩ rfl ?_
            refine e_iload_n (pc := 106) dX9_word_106 rfl rfl ?_
            refine e_iast (q := 65) (pc := 107) dX9_word_107 rfl H.1 ?_
            have H := H.2
            refine e_aload_n (pc := 108) dX9_word_108 rfl rfl ?_
            refine e_getR (q := 55) (ci := 9) (k := 13) (y := 66) (C := RX9) (T := TX9) (N := 52) (pc := 109) dX9_word_109 rfl rfl ev_in9 rfl ul_4_195 ⟨rfl, rfl⟩ rfl ?_
            refine e_aload_n (pc := 112) dX9_word_112 rfl rfl ?_
            refine e_getI (q := 55) (ci := 9) (k := 10) (kz := 10) (C := RX9) (T := TX9) (N := 52) (x := (h 55 10)) (pc := 113) dX9_word_113 rfl rfl rfl ev_in9 rfl ul_4_192 ⟨rfl, by decide⟩ rfl ?_
            refine e_iload_n (pc := 116) dX9_word_116 rfl rfl ?_
            refine e_iast (q := 66) (pc := 117) dX9_word_117 rfl H.1 ?_
            have H := H.2
            refine e_iconst (pc := 118) dX9_word_118 ⟨by decide, by decide⟩ ?_
            refine e_istore (lv' := [some (vR 55), some (vI kd), some (vI nb), some (vI n), some (vI v), some (vI 0)]) (pc := 119) dX9_word_119 rfl rfl ?_
            refine e_mask [true, false, false, true, true, true] rfl ?_
            obtain ⟨m, H⟩ := H
            exact L1 m _ _ H
          · have H := H.2 c4
            refine e_bipush (pc := 85) dX9_word_85 ⟨by decide, by decide⟩ (by decide) ?_
            exact e_ret (pc := 87) (v := some (vI (-3))) dX9_word_87 rfl trivial ⟨_, rfl, H⟩
        have J2 : ¬ (((0 ≤ nb ∧ nb ≤ 3)) ∧ (((1 ≤ n ∧ n ≤ 4)) ∧ ((0 ≤ v ∧ v ≤ ((ishl 1 (4 * n)) - 1))))) → Ev w Y_X9_word 74 [some (vR 55), some (vI kd), some (vI nb), some (vI n), some (vI v), none] [] h (rI K) := by
          intro hp
          have H := H.2 hp
          refine e_iconst (pc := 74) dX9_word_74 ⟨by decide, by decide⟩ ?_
          exact e_ret (pc := 75) (v := some (vI (-1))) dX9_word_75 rfl trivial ⟨_, rfl, H⟩
        refine e_ifb_eq (pc := 41) (tgt := 74) dX9_word_41 (by decide) (fun c5 => ?_) (fun c5 => ?_)
        · have Ho := Ho.1 c5
          exact J2 (fun z => c5 z.1)
        · have Ho := Ho.2 c5
          refine e_iload_n (pc := 44) dX9_word_44 rfl rfl ?_
          refine e_i2l (pc := 45) dX9_word_45 ?_
          refine e_lconst (x := 1) (pc := 46) dX9_word_46 ⟨by decide, by decide⟩ (by decide) ?_
          refine e_ldc2 (x := 4) (pc := 47) dX9_word_47 ul_5_103 ⟨by decide, by decide⟩ ?_
          refine e_invS (pc := 50) (Y' := Y_X9_in) (as := [vL n, vL 1, vL 4]) (st := []) (lv0 := [some (vL n), none, some (vL 1), none, some (vL 4), none]) dX9_word_50 m_X9_in ul_5_104 ul_5_105 ⟨rfl, rfl⟩ rfl rfl rfl rfl rfl (c_X9_in w n 1 4 h) ?_
          rintro _ hz ⟨_, rfl, rfl, hh⟩
          rw [hh]
          show Ev w Y_X9_word 53 [some (vR 55), some (vI kd), some (vI nb), some (vI n), some (vI v), none] [vI (b2i (1 ≤ n ∧ n ≤ 4))] h (rI K)
          refine e_ifb_eq (pc := 53) (tgt := 74) dX9_word_53 (by decide) (fun c6 => ?_) (fun c6 => ?_)
          · have Ho := Ho.1 c6
            exact J2 (fun z => (fun z => c6 z.1) z.2)
          · have Ho := Ho.2 c6
            refine e_iload (pc := 56) dX9_word_56 rfl ?_
            refine e_i2l (pc := 58) dX9_word_58 ?_
            refine e_lconst (x := 0) (pc := 59) dX9_word_59 ⟨by decide, by decide⟩ (by decide) ?_
            refine e_iconst (pc := 60) dX9_word_60 ⟨by decide, by decide⟩ ?_
            refine e_iconst (pc := 61) dX9_word_61 ⟨by decide, by decide⟩ ?_
            refine e_iload_n (pc := 62) dX9_word_62 rfl rfl ?_
            refine e_imul (pc := 63) dX9_word_63 Ho.1 ?_
            have Ho := Ho.2
            refine e_ishl (pc := 64) dX9_word_64 ?_
            refine e_iconst (pc := 65) dX9_word_65 ⟨by decide, by decide⟩ ?_
            refine e_isub (pc := 66) dX9_word_66 Ho.1 ?_
            have Ho := Ho.2
            refine e_i2l (pc := 67) dX9_word_67 ?_
            refine e_invS (pc := 68) (Y' := Y_X9_in) (as := [vL v, vL 0, vL ((ishl 1 (4 * n)) - 1)]) (st := []) (lv0 := [some (vL v), none, some (vL 0), none, some (vL ((ishl 1 (4 * n)) - 1)), none]) dX9_word_68 m_X9_in ul_5_104 ul_5_105 ⟨rfl, rfl⟩ rfl rfl rfl rfl rfl (c_X9_in w v 0 ((ishl 1 (4 * n)) - 1) h) ?_
            rintro _ hz ⟨_, rfl, rfl, hh⟩
            rw [hh]
            show Ev w Y_X9_word 71 [some (vR 55), some (vI kd), some (vI nb), some (vI n), some (vI v), none] [vI (b2i (0 ≤ v ∧ v ≤ ((ishl 1 (4 * n)) - 1)))] h (rI K)
            refine e_ifb_ne (pc := 71) (tgt := 76) dX9_word_71 (by decide) (fun c7 => ?_) (fun c7 => ?_)
            · exact J1 ⟨c5, ⟨c6, c7⟩⟩
            · exact J2 (fun z => (fun z => c7 z.2) z.2)
      · have H := H.2 c3
        refine e_lconst (x := 0) (pc := 31) dX9_word_31 ⟨by decide, by decide⟩ (by decide) ?_
        refine e_goto (pc := 32) (tgt := 38) dX9_word_32 (by decide) ?_
        refine e_invS (pc := 38) (Y' := Y_X9_in) (as := [vL nb, vL 0, vL 0]) (st := []) (lv0 := [some (vL nb), none, some (vL 0), none, some (vL 0), none]) dX9_word_38 m_X9_in ul_5_104 ul_5_105 ⟨rfl, rfl⟩ rfl rfl rfl rfl rfl (c_X9_in w nb 0 0 h) ?_
        rintro _ hz ⟨_, rfl, rfl, hh⟩
        rw [hh]
        show Ev w Y_X9_word 41 [some (vR 55), some (vI kd), some (vI nb), some (vI n), some (vI v), none] [vI (b2i (0 ≤ nb ∧ nb ≤ 0))] h (rI K)
        have Ho := H.1
        have H := H.2
        have J1 : (((0 ≤ nb ∧ nb ≤ 0)) ∧ (((1 ≤ n ∧ n ≤ 4)) ∧ ((0 ≤ v ∧ v ≤ ((ishl 1 (4 * n)) - 1))))) → Ev w Y_X9_word 76 [some (vR 55), some (vI kd), some (vI nb), some (vI n), some (vI v), none] [] h (rI K) := by
          intro hp
          have H := H.1 hp
          refine e_aload_n (pc := 76) dX9_word_76 rfl rfl ?_
          refine e_getI (q := 55) (ci := 9) (k := 10) (kz := 10) (C := RX9) (T := TX9) (N := 52) (x := (h 55 10)) (pc := 77) dX9_word_77 rfl rfl rfl ev_in9 rfl ul_4_192 ⟨rfl, by decide⟩ rfl ?_
          refine e_bipush (pc := 80) dX9_word_80 ⟨by decide, by decide⟩ (by decide) ?_
          refine e_icmp_ne (pc := 82) (tgt := 88) dX9_word_82 (by decide) (fun c8 => ?_) (fun c8 => ?_)
          · have H := H.1 c8
            refine e_aload_n (pc := 88) dX9_word_88 rfl rfl ?_
            refine e_getR (q := 55) (ci := 9) (k := 11) (y := 64) (C := RX9) (T := TX9) (N := 52) (pc := 89) dX9_word_89 rfl rfl ev_in9 rfl ul_4_193 ⟨rfl, rfl⟩ rfl ?_
            refine e_aload_n (pc := 92) dX9_word_92 rfl rfl ?_
            refine e_getI (q := 55) (ci := 9) (k := 10) (kz := 10) (C := RX9) (T := TX9) (N := 52) (x := (h 55 10)) (pc := 93) dX9_word_93 rfl rfl rfl ev_in9 rfl ul_4_192 ⟨rfl, by decide⟩ rfl ?_
            refine e_iload_n (pc := 96) dX9_word_96 rfl rfl ?_
            refine e_iast (q := 64) (pc := 97) dX9_word_97 rfl H.1 ?_
            have H := H.2
            refine e_aload_n (pc := 98) dX9_word_98 rfl rfl ?_
            refine e_getR (q := 55) (ci := 9) (k := 12) (y := 65) (C := RX9) (T := TX9) (N := 52) (pc := 99) dX9_word_99 rfl rfl ev_in9 rfl ul_4_194 ⟨rfl, rfl⟩ rfl ?_
            refine e_aload_n (pc := 102) dX9_word_102 rfl rfl ?_
            refine e_getI (q := 55) (ci := 9) (k := 10) (kz := 10) (C := RX9) (T := TX9) (N := 52) (x := (h 55 10)) (pc := 103) dX9_word_103 rfl rfl rfl ev_in9 rfl ul_4_192 ⟨rfl, by decide⟩ rfl ?_
            refine e_iload_n (pc := 106) dX9_word_106 rfl rfl ?_
            refine e_iast (q := 65) (pc := 107) dX9_word_107 rfl H.1 ?_
            have H := H.2
            refine e_aload_n (pc := 108) dX9_word_108 rfl rfl ?_
            refine e_getR (q := 55) (ci := 9) (k := 13) (y := 66) (C := RX9) (T := TX9) (N := 52) (pc := 109) dX9_word_109 rfl rfl ev_in9 rfl ul_4_195 ⟨rfl, rfl⟩ rfl ?_
            refine e_aload_n (pc := 112) dX9_word_112 rfl rfl ?_
            refine e_getI (q := 55) (ci := 9) (k := 10) (kz := 10) (C := RX9) (T := TX9) (N := 52) (x := (h 55 10)) (pc := 113) dX9_word_113 rfl rfl rfl ev_in9 rfl ul_4_192 ⟨rfl, by decide⟩ rfl ?_
            refine e_iload_n (pc := 116) dX9_word_116 rfl rfl ?_
            refine e_iast (q := 66) (pc := 117) dX9_word_117 rfl H.1 ?_
            have H := H.2
            refine e_iconst (pc := 118) dX9_word_118 ⟨by decide, by decide⟩ ?_
            refine e_istore (lv' := [some (vR 55), some (vI kd), some (vI nb), some (vI n), some (vI v), some (vI 0)]) (pc := 119) dX9_word_119 rfl rfl ?_
            refine e_mask [true, false, false, true, true, true] rfl ?_
            obtain ⟨m, H⟩ := H
            exact L1 m _ _ H
          · have H := H.2 c8
            refine e_bipush (pc := 85) dX9_word_85 ⟨by decide, by decide⟩ (by decide) ?_
            exact e_ret (pc := 87) (v := some (vI (-3))) dX9_word_87 rfl trivial ⟨_, rfl, H⟩
        have J2 : ¬ (((0 ≤ nb ∧ nb ≤ 0)) ∧ (((1 ≤ n ∧ n ≤ 4)) ∧ ((0 ≤ v ∧ v ≤ ((ishl 1 (4 * n)) - 1))))) → Ev w Y_X9_word 74 [some (vR 55), some (vI kd), some (vI nb), some (vI n), some (vI v), none] [] h (rI K) := by
          intro hp
          have H := H.2 hp
          refine e_iconst (pc := 74) dX9_word_74 ⟨by decide, by decide⟩ ?_
          exact e_ret (pc := 75) (v := some (vI (-1))) dX9_word_75 rfl trivial ⟨_, rfl, H⟩
        refine e_ifb_eq (pc := 41) (tgt := 74) dX9_word_41 (by decide) (fun c9 => ?_) (fun c9 => ?_)
        · have Ho := Ho.1 c9
          exact J2 (fun z => c9 z.1)
        · have Ho := Ho.2 c9
          refine e_iload_n (pc := 44) dX9_word_44 rfl rfl ?_
          refine e_i2l (pc := 45) dX9_word_45 ?_
          refine e_lconst (x := 1) (pc := 46) dX9_word_46 ⟨by decide, by decide⟩ (by decide) ?_
          refine e_ldc2 (x := 4) (pc := 47) dX9_word_47 ul_5_103 ⟨by decide, by decide⟩ ?_
          refine e_invS (pc := 50) (Y' := Y_X9_in) (as := [vL n, vL 1, vL 4]) (st := []) (lv0 := [some (vL n), none, some (vL 1), none, some (vL 4), none]) dX9_word_50 m_X9_in ul_5_104 ul_5_105 ⟨rfl, rfl⟩ rfl rfl rfl rfl rfl (c_X9_in w n 1 4 h) ?_
          rintro _ hz ⟨_, rfl, rfl, hh⟩
          rw [hh]
          show Ev w Y_X9_word 53 [some (vR 55), some (vI kd), some (vI nb), some (vI n), some (vI v), none] [vI (b2i (1 ≤ n ∧ n ≤ 4))] h (rI K)
          refine e_ifb_eq (pc := 53) (tgt := 74) dX9_word_53 (by decide) (fun c10 => ?_) (fun c10 => ?_)
          · have Ho := Ho.1 c10
            exact J2 (fun z => (fun z => c10 z.1) z.2)
          · have Ho := Ho.2 c10
            refine e_iload (pc := 56) dX9_word_56 rfl ?_
            refine e_i2l (pc := 58) dX9_word_58 ?_
            refine e_lconst (x := 0) (pc := 59) dX9_word_59 ⟨by decide, by decide⟩ (by decide) ?_
            refine e_iconst (pc := 60) dX9_word_60 ⟨by decide, by decide⟩ ?_
            refine e_iconst (pc := 61) dX9_word_61 ⟨by decide, by decide⟩ ?_
            refine e_iload_n (pc := 62) dX9_word_62 rfl rfl ?_
            refine e_imul (pc := 63) dX9_word_63 Ho.1 ?_
            have Ho := Ho.2
            refine e_ishl (pc := 64) dX9_word_64 ?_
            refine e_iconst (pc := 65) dX9_word_65 ⟨by decide, by decide⟩ ?_
            refine e_isub (pc := 66) dX9_word_66 Ho.1 ?_
            have Ho := Ho.2
            refine e_i2l (pc := 67) dX9_word_67 ?_
            refine e_invS (pc := 68) (Y' := Y_X9_in) (as := [vL v, vL 0, vL ((ishl 1 (4 * n)) - 1)]) (st := []) (lv0 := [some (vL v), none, some (vL 0), none, some (vL ((ishl 1 (4 * n)) - 1)), none]) dX9_word_68 m_X9_in ul_5_104 ul_5_105 ⟨rfl, rfl⟩ rfl rfl rfl rfl rfl (c_X9_in w v 0 ((ishl 1 (4 * n)) - 1) h) ?_
            rintro _ hz ⟨_, rfl, rfl, hh⟩
            rw [hh]
            show Ev w Y_X9_word 71 [some (vR 55), some (vI kd), some (vI nb), some (vI n), some (vI v), none] [vI (b2i (0 ≤ v ∧ v ≤ ((ishl 1 (4 * n)) - 1)))] h (rI K)
            refine e_ifb_ne (pc := 71) (tgt := 76) dX9_word_71 (by decide) (fun c11 => ?_) (fun c11 => ?_)
            · exact J1 ⟨c9, ⟨c10, c11⟩⟩
            · exact J2 (fun z => (fun z => c11 z.2) z.2)
    · have H := H.2 c2
      refine e_ldc2 (x := 4) (pc := 20) dX9_word_20 ul_5_103 ⟨by decide, by decide⟩ ?_
      refine e_goto (pc := 23) (tgt := 38) dX9_word_23 (by decide) ?_
      refine e_invS (pc := 38) (Y' := Y_X9_in) (as := [vL nb, vL 0, vL 4]) (st := []) (lv0 := [some (vL nb), none, some (vL 0), none, some (vL 4), none]) dX9_word_38 m_X9_in ul_5_104 ul_5_105 ⟨rfl, rfl⟩ rfl rfl rfl rfl rfl (c_X9_in w nb 0 4 h) ?_
      rintro _ hz ⟨_, rfl, rfl, hh⟩
      rw [hh]
      show Ev w Y_X9_word 41 [some (vR 55), some (vI kd), some (vI nb), some (vI n), some (vI v), none] [vI (b2i (0 ≤ nb ∧ nb ≤ 4))] h (rI K)
      have Ho := H.1
      have H := H.2
      have J1 : (((0 ≤ nb ∧ nb ≤ 4)) ∧ (((1 ≤ n ∧ n ≤ 4)) ∧ ((0 ≤ v ∧ v ≤ ((ishl 1 (4 * n)) - 1))))) → Ev w Y_X9_word 76 [some (vR 55), some (vI kd), some (vI nb), some (vI n), some (vI v), none] [] h (rI K) := by
        intro hp
        have H := H.1 hp
        refine e_aload_n (pc := 76) dX9_word_76 rfl rfl ?_
        refine e_getI (q := 55) (ci := 9) (k := 10) (kz := 10) (C := RX9) (T := TX9) (N := 52) (x := (h 55 10)) (pc := 77) dX9_word_77 rfl rfl rfl ev_in9 rfl ul_4_192 ⟨rfl, by decide⟩ rfl ?_
        refine e_bipush (pc := 80) dX9_word_80 ⟨by decide, by decide⟩ (by decide) ?_
        refine e_icmp_ne (pc := 82) (tgt := 88) dX9_word_82 (by decide) (fun c12 => ?_) (fun c12 => ?_)
        · have H := H.1 c12
          refine e_aload_n (pc := 88) dX9_word_88 rfl rfl ?_
          refine e_getR (q := 55) (ci := 9) (k := 11) (y := 64) (C := RX9) (T := TX9) (N := 52) (pc := 89) dX9_word_89 rfl rfl ev_in9 rfl ul_4_193 ⟨rfl, rfl⟩ rfl ?_
          refine e_aload_n (pc := 92) dX9_word_92 rfl rfl ?_
          refine e_getI (q := 55) (ci := 9) (k := 10) (kz := 10) (C := RX9) (T := TX9) (N := 52) (x := (h 55 10)) (pc := 93) dX9_word_93 rfl rfl rfl ev_in9 rfl ul_4_192 ⟨rfl, by decide⟩ rfl ?_
          refine e_iload_n (pc := 96) dX9_word_96 rfl rfl ?_
          refine e_iast (q := 64) (pc := 97) dX9_word_97 rfl H.1 ?_
          have H := H.2
          refine e_aload_n (pc := 98) dX9_word_98 rfl rfl ?_
          refine e_getR (q := 55) (ci := 9) (k := 12) (y := 65) (C := RX9) (T := TX9) (N := 52) (pc := 99) dX9_word_99 rfl rfl ev_in9 rfl ul_4_194 ⟨rfl, rfl⟩ rfl ?_
          refine e_aload_n (pc := 102) dX9_word_102 rfl rfl ?_
          refine e_getI (q := 55) (ci := 9) (k := 10) (kz := 10) (C := RX9) (T := TX9) (N := 52) (x := (h 55 10)) (pc := 103) dX9_word_103 rfl rfl rfl ev_in9 rfl ul_4_192 ⟨rfl, by decide⟩ rfl ?_
          refine e_iload_n (pc := 106) dX9_word_106 rfl rfl ?_
          refine e_iast (q := 65) (pc := 107) dX9_word_107 rfl H.1 ?_
          have H := H.2
          refine e_aload_n (pc := 108) dX9_word_108 rfl rfl ?_
          refine e_getR (q := 55) (ci := 9) (k := 13) (y := 66) (C := RX9) (T := TX9) (N := 52) (pc := 109) dX9_word_109 rfl rfl ev_in9 rfl ul_4_195 ⟨rfl, rfl⟩ rfl ?_
          refine e_aload_n (pc := 112) dX9_word_112 rfl rfl ?_
          refine e_getI (q := 55) (ci := 9) (k := 10) (kz := 10) (C := RX9) (T := TX9) (N := 52) (x := (h 55 10)) (pc := 113) dX9_word_113 rfl rfl rfl ev_in9 rfl ul_4_192 ⟨rfl, by decide⟩ rfl ?_
          refine e_iload_n (pc := 116) dX9_word_116 rfl rfl ?_
          refine e_iast (q := 66) (pc := 117) dX9_word_117 rfl H.1 ?_
          have H := H.2
          refine e_iconst (pc := 118) dX9_word_118 ⟨by decide, by decide⟩ ?_
          refine e_istore (lv' := [some (vR 55), some (vI kd), some (vI nb), some (vI n), some (vI v), some (vI 0)]) (pc := 119) dX9_word_119 rfl rfl ?_
          refine e_mask [true, false, false, true, true, true] rfl ?_
          obtain ⟨m, H⟩ := H
          exact L1 m _ _ H
        · have H := H.2 c12
          refine e_bipush (pc := 85) dX9_word_85 ⟨by decide, by decide⟩ (by decide) ?_
          exact e_ret (pc := 87) (v := some (vI (-3))) dX9_word_87 rfl trivial ⟨_, rfl, H⟩
      have J2 : ¬ (((0 ≤ nb ∧ nb ≤ 4)) ∧ (((1 ≤ n ∧ n ≤ 4)) ∧ ((0 ≤ v ∧ v ≤ ((ishl 1 (4 * n)) - 1))))) → Ev w Y_X9_word 74 [some (vR 55), some (vI kd), some (vI nb), some (vI n), some (vI v), none] [] h (rI K) := by
        intro hp
        have H := H.2 hp
        refine e_iconst (pc := 74) dX9_word_74 ⟨by decide, by decide⟩ ?_
        exact e_ret (pc := 75) (v := some (vI (-1))) dX9_word_75 rfl trivial ⟨_, rfl, H⟩
      refine e_ifb_eq (pc := 41) (tgt := 74) dX9_word_41 (by decide) (fun c13 => ?_) (fun c13 => ?_)
      · have Ho := Ho.1 c13
        exact J2 (fun z => c13 z.1)
      · have Ho := Ho.2 c13
        refine e_iload_n (pc := 44) dX9_word_44 rfl rfl ?_
        refine e_i2l (pc := 45) dX9_word_45 ?_
        refine e_lconst (x := 1) (pc := 46) dX9_word_46 ⟨by decide, by decide⟩ (by decide) ?_
        refine e_ldc2 (x := 4) (pc := 47) dX9_word_47 ul_5_103 ⟨by decide, by decide⟩ ?_
        refine e_invS (pc := 50) (Y' := Y_X9_in) (as := [vL n, vL 1, vL 4]) (st := []) (lv0 := [some (vL n), none, some (vL 1), none, some (vL 4), none]) dX9_word_50 m_X9_in ul_5_104 ul_5_105 ⟨rfl, rfl⟩ rfl rfl rfl rfl rfl (c_X9_in w n 1 4 h) ?_
        rintro _ hz ⟨_, rfl, rfl, hh⟩
        rw [hh]
        show Ev w Y_X9_word 53 [some (vR 55), some (vI kd), some (vI nb), some (vI n), some (vI v), none] [vI (b2i (1 ≤ n ∧ n ≤ 4))] h (rI K)
        refine e_ifb_eq (pc := 53) (tgt := 74) dX9_word_53 (by decide) (fun c14 => ?_) (fun c14 => ?_)
        · have Ho := Ho.1 c14
          exact J2 (fun z => (fun z => c14 z.1) z.2)
        · have Ho := Ho.2 c14
          refine e_iload (pc := 56) dX9_word_56 rfl ?_
          refine e_i2l (pc := 58) dX9_word_58 ?_
          refine e_lconst (x := 0) (pc := 59) dX9_word_59 ⟨by decide, by decide⟩ (by decide) ?_
          refine e_iconst (pc := 60) dX9_word_60 ⟨by decide, by decide⟩ ?_
          refine e_iconst (pc := 61) dX9_word_61 ⟨by decide, by decide⟩ ?_
          refine e_iload_n (pc := 62) dX9_word_62 rfl rfl ?_
          refine e_imul (pc := 63) dX9_word_63 Ho.1 ?_
          have Ho := Ho.2
          refine e_ishl (pc := 64) dX9_word_64 ?_
          refine e_iconst (pc := 65) dX9_word_65 ⟨by decide, by decide⟩ ?_
          refine e_isub (pc := 66) dX9_word_66 Ho.1 ?_
          have Ho := Ho.2
          refine e_i2l (pc := 67) dX9_word_67 ?_
          refine e_invS (pc := 68) (Y' := Y_X9_in) (as := [vL v, vL 0, vL ((ishl 1 (4 * n)) - 1)]) (st := []) (lv0 := [some (vL v), none, some (vL 0), none, some (vL ((ishl 1 (4 * n)) - 1)), none]) dX9_word_68 m_X9_in ul_5_104 ul_5_105 ⟨rfl, rfl⟩ rfl rfl rfl rfl rfl (c_X9_in w v 0 ((ishl 1 (4 * n)) - 1) h) ?_
          rintro _ hz ⟨_, rfl, rfl, hh⟩
          rw [hh]
          show Ev w Y_X9_word 71 [some (vR 55), some (vI kd), some (vI nb), some (vI n), some (vI v), none] [vI (b2i (0 ≤ v ∧ v ≤ ((ishl 1 (4 * n)) - 1)))] h (rI K)
          refine e_ifb_ne (pc := 71) (tgt := 76) dX9_word_71 (by decide) (fun c15 => ?_) (fun c15 => ?_)
          · exact J1 ⟨c13, ⟨c14, c15⟩⟩
          · exact J2 (fun z => (fun z => c15 z.2) z.2)
set_option maxRecDepth 100000 in
set_option maxHeartbeats 4000000 in
theorem c_X9_word (w : WD) (kd : Int) (nb : Int) (n : Int) (v : Int) (h : HP) (K : Int → HP → Prop)  (H : S_X9_word kd nb n v h K) : Ev w Y_X9_word 0 [some (vR 55), some (vI kd), some (vI nb), some (vI n), some (vI v), none] [] h (rI K) := by
  obtain ⟨hs, HB, HK⟩ := H
  have hI : okW kd nb n v → ¬ h 55 10 = 16 → (0 ≤ (h 55 10) ∧ (h 55 10) < 16) ∧ ((0 ≤ (h 55 10) ∧ (h 55 10) < 16) ∧ ((0 ≤ (h 55 10) ∧ (h 55 10) < 16) ∧ ((fun (m : Nat) (x5 : Int) (g : HP) => okW kd nb n v ∧ h 55 10 < 16 ∧ (0 ≤ x5 ∧ x5 ≤ n) ∧ m = (n - x5).toNat ∧ (∀ q, q ≠ 64 → q ≠ 65 → q ≠ 66 → q ≠ 67 → g q = h q) ∧ g 64 = us (h 64) (h 55 10) kd ∧ g 65 = us (h 65) (h 55 10) nb ∧ g 66 = us (h 66) (h 55 10) n ∧ g 67 = fun i => cif (4 * h 55 10 ≤ i ∧ i < 4 * h 55 10 + x5) (nb4 v (n - 1 - (i - 4 * h 55 10))) (h 67 i)) n.toNat 0 (sth (sth (sth h 64 (h 55 10) kd) 65 (h 55 10) nb) 66 (h 55 10) n)))) := by
    intro hw hc
    have := hw.2.2.1
    refine ⟨by omega, by omega, by omega, hw, by omega, by omega, by omega, fun q a b d e => by rw [sth_ne d, sth_ne b, sth_ne a], by rw [sth_ne (by decide), sth_ne (by decide), sth_eq], by rw [sth_ne (by decide), sth_eq, sth_ne (by decide)], by rw [sth_eq, sth_ne (by decide), sth_ne (by decide)], ?_⟩
    funext i
    rw [sth_ne (by decide), sth_ne (by decide), sth_ne (by decide), cif_f (by omega)]
  have hR : (1 ≤ n ∧ n ≤ 4) → iR (4 * n) ∧ iR (ishl 1 (4 * n) - 1) ∧ True := fun z => by
    have := p16_b z
    rw [ishl16 z]
    exact ⟨⟨by omega, by omega⟩, ⟨by omega, by omega⟩, trivial⟩
  have hP : ∀ m : Int, topN kd = m → (0 ≤ kd ∧ kd ≤ 3) → (((0 ≤ nb ∧ nb ≤ m) ∧ ((1 ≤ n ∧ n ≤ 4) ∧ (0 ≤ v ∧ v ≤ ishl 1 (4 * n) - 1))) ↔ okW kd nb n v) := fun m e hk => by
    unfold okW
    rw [e]
    constructor
    · rintro ⟨a, b, d⟩
      rw [ishl16 b] at d
      exact ⟨hk, a, b, by omega⟩
    · rintro ⟨_, a, b, d⟩
      exact ⟨a, b, by rw [ishl16 b]; omega⟩
  refine v_X9_word w kd nb n v h K (fun m x5 g => okW kd nb n v ∧ h 55 10 < 16 ∧ (0 ≤ x5 ∧ x5 ≤ n) ∧ m = (n - x5).toNat ∧ (∀ q, q ≠ 64 → q ≠ 65 → q ≠ 66 → q ≠ 67 → g q = h q) ∧ g 64 = us (h 64) (h 55 10) kd ∧ g 65 = us (h 65) (h 55 10) nb ∧ g 66 = us (h 66) (h 55 10) n ∧ g 67 = fun i => cif (4 * h 55 10 ≤ i ∧ i < 4 * h 55 10 + x5) (nb4 v (n - 1 - (i - 4 * h 55 10))) (h 67 i)) ⟨fun c => HB (fun z => c z.1), fun c => ⟨fun c2 => ⟨fun c3 => ?_, fun c3 => ?_⟩, fun c2 => ?_⟩⟩ ?_
  · have e : topN kd = 3 := by unfold topN; rw [if_neg c2, if_neg c3]
    refine ⟨⟨fun _ => trivial, fun _ => ⟨fun _ => trivial, hR⟩⟩, fun c4 => ⟨fun c5 => ⟨by omega, by omega, by omega, n.toNat, (hI ((hP 3 e c).mp c4) c5).2.2.2⟩, fun c5 => (HK ((hP 3 e c).mp c4)).1 c5⟩, fun c4 => HB (fun z => c4 ((hP 3 e c).mpr z))⟩
  · have e : topN kd = 0 := by unfold topN; rw [if_neg c2, if_pos c3]
    refine ⟨⟨fun _ => trivial, fun _ => ⟨fun _ => trivial, hR⟩⟩, fun c4 => ⟨fun c5 => ⟨by omega, by omega, by omega, n.toNat, (hI ((hP 0 e c).mp c4) c5).2.2.2⟩, fun c5 => (HK ((hP 0 e c).mp c4)).1 c5⟩, fun c4 => HB (fun z => c4 ((hP 0 e c).mpr z))⟩
  · have e : topN kd = 4 := by unfold topN; rw [if_pos c2]
    refine ⟨⟨fun _ => trivial, fun _ => ⟨fun _ => trivial, hR⟩⟩, fun c4 => ⟨fun c5 => ⟨by omega, by omega, by omega, n.toNat, (hI ((hP 4 e c).mp c4) c5).2.2.2⟩, fun c5 => (HK ((hP 4 e c).mp c4)).1 c5⟩, fun c4 => HB (fun z => c4 ((hP 4 e c).mpr z))⟩
  · rintro m x5 g ⟨hw, hc, h0, rfl, f1, f2, f3, f4, f5⟩
    have hn := hw.2.2.1
    rw [f1 55 (by decide) (by decide) (by decide) (by decide)]
    refine ⟨fun c => ⟨⟨by omega, by omega⟩, ⟨by omega, by omega⟩, ?_⟩, fun c => ⟨⟨by omega, by omega⟩, ⟨by omega, by omega⟩, ⟨by omega, by omega⟩, ⟨by omega, by omega⟩, ⟨by omega, by omega⟩, by omega, ⟨by omega, by omega⟩, (n - (x5 + 1)).toNat, by omega, hw, hc, by omega, rfl, fun q a b d e => by rw [sth_ne e]; exact f1 q a b d e, by rw [sth_ne (by decide)]; exact f2, by rw [sth_ne (by decide)]; exact f3, by rw [sth_ne (by decide)]; exact f4, ?_⟩⟩
    · rw [show h 55 10 + 1 - 1 = h 55 10 by omega]
      refine (HK hw).2 hc _ (fun q a b d e f => by rw [sth_ne f]; exact f1 q a b d e) (fun i a => by rw [sth_eq, us_n a, f1 55 (by decide) (by decide) (by decide) (by decide)]) (by rw [sth_eq, us_s]) (by rw [sth_ne (by decide)]; exact f2) (by rw [sth_ne (by decide)]; exact f3) (by rw [sth_ne (by decide)]; exact f4) ?_
      rw [sth_ne (by decide), f5, show x5 = n by omega]
      rfl
    · rw [sth_eq, f5]
      funext i
      unfold us
      by_cases e : i = 4 * h 55 10 + x5
      · rw [if_pos e, cif_t (by omega), show n - 1 - (i - 4 * h 55 10) = n - 1 - x5 by omega]
        rfl
      · rw [if_neg e]
        show cif _ _ _ = _
        exact cif_c (by omega)
/-- words as the reference holds them -/
def mVOK (h : HP) : Prop := (0 ≤ h 55 10 ∧ h 55 10 ≤ 16) ∧ (∀ k : Int, 0 ≤ k → k < h 55 10 → (0 ≤ h 64 k ∧ h 64 k ≤ 3) ∧ (0 ≤ h 65 k ∧ h 65 k ≤ 4) ∧ (h 64 k = 0 → h 65 k ≤ 3) ∧ (1 ≤ h 66 k ∧ h 66 k ≤ 4)) ∧ (∀ i : Int, 0 ≤ i → i < 64 → 0 ≤ h 67 i ∧ h 67 i ≤ 15) ∧ (∀ i : Int, 0 ≤ i → i < 256 → 0 ≤ h 63 i ∧ h 63 i ≤ 9)
def mHRD (h : HP) : Prop := (0 ≤ h 55 44 ∧ h 55 44 ≤ 8) ∧ ∀ j : Int, 0 ≤ j → j < 8 → 0 ≤ h 84 j ∧ h 84 j ≤ 15
def lenW (h : HP) (wd : Int) : Int := if wd < 0 then 0 else h 66 wd
def S_X9_addWord (wd : Int) (h : HP) (K : HP → Prop) : Prop := ((wd < 0 ∨ (0 ≤ wd ∧ wd < 16 ∧ 1 ≤ h 66 wd ∧ h 66 wd ≤ 4)) ∧ 0 ≤ h 55 42 ∧ h 55 42 ≤ 8) ∧ ∀ h' : HP, (∀ q, q ≠ 83 → q ≠ 55 → h' q = h q) → (∀ i : Int, i ≠ 42 → h' 55 i = h 55 i) → h' 55 42 = h 55 42 + lenW h wd → (∀ i : Int, i < h 55 42 → h' 83 i = h 83 i) → (∀ k : Int, 0 ≤ k → k < lenW h wd → h' 83 (h 55 42 + k) = h 67 (4 * wd + k)) → K h'
set_option maxRecDepth 100000 in
set_option maxHeartbeats 4000000 in
theorem v_X9_addWord (w : WD) (wd : Int) (h : HP) (K : HP → Prop) 
    (I1 : Nat → Int → HP → Prop)
    (H : (∃ m : Nat, I1 m 0 h))
    (H1 : ∀ (n1 : Nat) (x2 : Int) (g1 : HP), I1 n1 x2 g1 → ((((wd < 0 → True) ∧ (¬ wd < 0 → ((0 ≤ wd ∧ wd < 16) ∧ True)))) ∧ ((((wd < 0) ∨ ((g1 66 wd) ≤ x2)) → K g1) ∧ (¬ ((wd < 0) ∨ ((g1 66 wd) ≤ x2)) → ((iR (4 * wd)) ∧ ((iR ((4 * wd) + x2)) ∧ ((0 ≤ ((4 * wd) + x2) ∧ ((4 * wd) + x2) < 64) ∧ ((0 ≤ (g1 55 42) ∧ (g1 55 42) < 12) ∧ ((iR ((g1 55 42) + 1)) ∧ ((iR (x2 + 1)) ∧ (∃ m : Nat, m < n1 ∧ I1 m (x2 + 1) (sth (sth g1 83 (g1 55 42) (g1 67 ((4 * wd) + x2))) 55 42 ((g1 55 42) + 1))))))))))))) :
    Ev w Y_X9_addWord 0 [some (vR 55), some (vI wd), none] [] h (rV K) := by
  have L1 : ∀ (n1 : Nat) (x2 : Int) (g1 : HP), I1 n1 x2 g1 → Ev w Y_X9_addWord 2 [some (vR 55), some (vI wd), some (vI x2)] [] g1 (rV K) := by
    intro n1
    induction n1 using Nat.strongRecOn with
    | ind n1 ih1 =>
      intro x2 g1 H
      have H := H1 n1 x2 g1 H
      refine e_iload_n (pc := 2) dX9_addWord_2 rfl rfl ?_
      have Ho := H.1
      have H := H.2
      have J1 : ((wd < 0) ∨ ((g1 66 wd) ≤ x2)) → Ev w Y_X9_addWord 51 [some (vR 55), some (vI wd), some (vI x2)] [] g1 (rV K) := by
        intro hp
        have H := H.1 hp
        exact e_ret (pc := 51) (v := none) dX9_addWord_51 rfl trivial ⟨rfl, H⟩
      have J2 : ¬ ((wd < 0) ∨ ((g1 66 wd) ≤ x2)) → Ev w Y_X9_addWord 16 [some (vR 55), some (vI wd), some (vI x2)] [] g1 (rV K) := by
        intro hp
        have H := H.2 hp
        refine e_aload_n (pc := 16) dX9_addWord_16 rfl rfl ?_
        refine e_getR (q := 55) (ci := 9) (k := 43) (y := 83) (C := RX9) (T := TX9) (N := 52) (pc := 17) dX9_addWord_17 rfl rfl ev_in9 rfl ul_4_225 ⟨rfl, rfl⟩ rfl ?_
        refine e_aload_n (pc := 20) dX9_addWord_20 rfl rfl ?_
        refine e_getI (q := 55) (ci := 9) (k := 42) (kz := 42) (C := RX9) (T := TX9) (N := 52) (x := (g1 55 42)) (pc := 21) dX9_addWord_21 rfl rfl rfl ev_in9 rfl ul_4_224 ⟨rfl, by decide⟩ rfl ?_
        refine e_aload_n (pc := 24) dX9_addWord_24 rfl rfl ?_
        refine e_getR (q := 55) (ci := 9) (k := 14) (y := 67) (C := RX9) (T := TX9) (N := 52) (pc := 25) dX9_addWord_25 rfl rfl ev_in9 rfl ul_4_196 ⟨rfl, rfl⟩ rfl ?_
        refine e_iconst (pc := 28) dX9_addWord_28 ⟨by decide, by decide⟩ ?_
        refine e_iload_n (pc := 29) dX9_addWord_29 rfl rfl ?_
        refine e_imul (pc := 30) dX9_addWord_30 H.1 ?_
        have H := H.2
        refine e_iload_n (pc := 31) dX9_addWord_31 rfl rfl ?_
        refine e_iadd (pc := 32) dX9_addWord_32 H.1 ?_
        have H := H.2
        refine e_iald (q := 67) (x := (g1 67 ((4 * wd) + x2))) (pc := 33) dX9_addWord_33 rfl H.1 rfl ?_
        have H := H.2
        refine e_iast (q := 83) (pc := 34) dX9_addWord_34 rfl H.1 ?_
        have H := H.2
        refine e_aload_n (pc := 35) dX9_addWord_35 rfl rfl ?_
        refine e_dup (pc := 36) dX9_addWord_36 rfl ?_
        refine e_getI (q := 55) (ci := 9) (k := 42) (kz := 42) (C := RX9) (T := TX9) (N := 52) (x := (g1 55 42)) (pc := 37) dX9_addWord_37 rfl rfl rfl ev_in9 rfl ul_4_224 ⟨rfl, by decide⟩ rfl ?_
        refine e_iconst (pc := 40) dX9_addWord_40 ⟨by decide, by decide⟩ ?_
        refine e_iadd (pc := 41) dX9_addWord_41 H.1 ?_
        have H := H.2
        refine e_put (q := 55) (ci := 9) (k := 42) (kz := 42) (C := RX9) (T := TX9) (N := 52) (ty := .int) (pc := 42) dX9_addWord_42 rfl rfl rfl ev_in9 tyX9 tyX9_ok nmX9 rfl ul_4_224 ⟨rfl, by decide⟩ rfl (tyX9_ok 42 (by decide)) (Or.inl rfl) ?_
        refine e_iinc (lv' := [some (vR 55), some (vI wd), some (vI (x2 + 1))]) (pc := 45) dX9_addWord_45 rfl H.1 rfl rfl ?_
        have H := H.2
        refine e_goto (pc := 48) (tgt := 2) dX9_addWord_48 (by decide) ?_
        obtain ⟨m, hm, H⟩ := H
        exact ih1 m hm _ _ H
      refine e_if_lt (pc := 3) (tgt := 51) dX9_addWord_3 (by decide) (fun c1 => ?_) (fun c1 => ?_)
      · have Ho := Ho.1 c1
        exact J1 (Or.inl c1)
      · have Ho := Ho.2 c1
        refine e_iload_n (pc := 6) dX9_addWord_6 rfl rfl ?_
        refine e_aload_n (pc := 7) dX9_addWord_7 rfl rfl ?_
        refine e_getR (q := 55) (ci := 9) (k := 13) (y := 66) (C := RX9) (T := TX9) (N := 52) (pc := 8) dX9_addWord_8 rfl rfl ev_in9 rfl ul_4_195 ⟨rfl, rfl⟩ rfl ?_
        refine e_iload_n (pc := 11) dX9_addWord_11 rfl rfl ?_
        refine e_iald (q := 66) (x := (g1 66 wd)) (pc := 12) dX9_addWord_12 rfl Ho.1 rfl ?_
        have Ho := Ho.2
        refine e_icmp_ge (pc := 13) (tgt := 51) dX9_addWord_13 (by decide) (fun c2 => ?_) (fun c2 => ?_)
        · exact J1 (Or.inr c2)
        · exact J2 (fun z => z.elim c1 c2)
  refine e_iconst (pc := 0) dX9_addWord_0 ⟨by decide, by decide⟩ ?_
  refine e_istore_n (lv' := [some (vR 55), some (vI wd), some (vI 0)]) (pc := 1) dX9_addWord_1 rfl rfl rfl ?_
  obtain ⟨m, H⟩ := H
  exact L1 m _ _ H
set_option maxRecDepth 100000 in
set_option maxHeartbeats 4000000 in
theorem c_X9_addWord (w : WD) (wd : Int) (h : HP) (K : HP → Prop)  (H : S_X9_addWord wd h K) : Ev w Y_X9_addWord 0 [some (vR 55), some (vI wd), none] [] h (rV K) := by
  obtain ⟨⟨hw, h42⟩, HK⟩ := H
  have hl : 0 ≤ lenW h wd ∧ lenW h wd ≤ 4 := by unfold lenW; split <;> omega
  refine v_X9_addWord w wd h K (fun n x2 g => (0 ≤ x2 ∧ x2 ≤ lenW h wd) ∧ n = (lenW h wd - x2).toNat ∧ (∀ q, q ≠ 83 → q ≠ 55 → g q = h q) ∧ (∀ i : Int, i ≠ 42 → g 55 i = h 55 i) ∧ g 55 42 = h 55 42 + x2 ∧ (∀ i : Int, i < h 55 42 → g 83 i = h 83 i) ∧ (∀ k : Int, 0 ≤ k → k < x2 → g 83 (h 55 42 + k) = h 67 (4 * wd + k))) ⟨(lenW h wd).toNat, by omega, by omega, fun _ _ _ => rfl, fun _ _ => rfl, by omega, fun _ _ => rfl, fun k a b => by omega⟩ ?_
  rintro n x2 g ⟨h0, rfl, f1, f2, f3, f4, f5⟩
  have g66 : g 66 = h 66 := f1 66 (by decide) (by decide)
  have g67 : g 67 = h 67 := f1 67 (by decide) (by decide)
  rw [g66, g67, f3]
  have hlw : ¬ wd < 0 → lenW h wd = h 66 wd := fun z => by unfold lenW; rw [if_neg z]
  have hln : wd < 0 → lenW h wd = 0 := fun z => by unfold lenW; rw [if_pos z]
  refine ⟨⟨fun _ => trivial, fun c => ⟨by omega, trivial⟩⟩, fun c => HK g f1 f2 (by rw [f3]; omega) f4 (fun k a b => f5 k a (by omega)), fun c => ?_⟩
  have c1 : ¬ wd < 0 := fun z => c (Or.inl z)
  have e1 := hlw c1
  refine ⟨⟨by omega, by omega⟩, ⟨by omega, by omega⟩, by omega, by omega, ⟨by omega, by omega⟩, ⟨by omega, by omega⟩, (lenW h wd - (x2 + 1)).toNat, by omega, by omega, rfl, fun q a b => by rw [sth_ne b, sth_ne a]; exact f1 q a b, fun i a => by rw [sth_eq, us_n a, sth_ne (by decide)]; exact f2 i a, by rw [sth_eq, us_s]; omega, fun i a => by rw [sth_ne (by decide), sth_eq, us_n (by omega)]; exact f4 i a, fun k a b => ?_⟩
  rw [sth_ne (by decide), sth_eq]
  by_cases e : k = x2
  · subst e; rw [us_s]
  · rw [us_n (by omega)]; exact f5 k a (by omega)
/-- the price of a row of words -/
def prR (D H SM SND : Int → Int) (a b c : Int) (n : Nat) : Int := if c < 0 then rwW D H SM SND b (rwW D H SM SND a row0) n else rwW D H SM SND c (rwW D H SM SND b (rwW D H SM SND a row0)) n
def S_X9_priceOf (a b c : Int) (h : HP) (K : Int → HP → Prop) : Prop := (mVOK h ∧ mHRD h ∧ (0 ≤ a ∧ a < h 55 10) ∧ (0 ≤ b ∧ b < h 55 10) ∧ c < h 55 10) ∧ ∀ (r : Int) (h' : HP), (∀ q, q ≠ 83 → q ≠ 85 → q ≠ 55 → h' q = h q) → (∀ i : Int, i ≠ 42 → h' 55 i = h 55 i) → r = prR (h 63) (h 84) (h 66) (h 67) a b c (h 55 44).toNat → K r h'
set_option maxRecDepth 100000 in
set_option maxHeartbeats 4000000 in
theorem v_X9_priceOf (w : WD) (a : Int) (b : Int) (c : Int) (h : HP) (K : Int → HP → Prop) 
    (I1 : Nat → Int → HP → Prop)
    (I2 : Nat → Int → HP → Prop)
    (I3 : Nat → Nat → Int → Int → Int → HP → Prop)
    (H : (S_X9_addWord a (sth h 55 42 0) (fun h21 => (S_X9_addWord b h21 (fun h22 => (S_X9_addWord c h22 (fun h23 => (∃ m : Nat, I1 m 0 h23))))))))
    (H1 : ∀ (n1 : Nat) (x4 : Int) (g1 : HP), I1 n1 x4 g1 → (((g1 55 44) < x4 → (∃ m : Nat, I2 m 0 g1)) ∧ (¬ (g1 55 44) < x4 → ((iR (6 * x4)) ∧ ((0 ≤ x4 ∧ x4 < 9) ∧ ((iR (x4 + 1)) ∧ (∃ m : Nat, m < n1 ∧ I1 m (x4 + 1) (sth g1 85 x4 (6 * x4)))))))))
    (H2 : ∀ (n2 : Nat) (x4 : Int) (g2 : HP), I2 n2 x4 g2 → (((g2 55 42) ≤ x4 → ((0 ≤ (g2 55 44) ∧ (g2 55 44) < 9) ∧ K (g2 85 (g2 55 44)) g2)) ∧ (¬ (g2 55 42) ≤ x4 → ((iR ((g2 85 0) + 6)) ∧ (∃ m : Nat, I3 n2 m x4 (g2 85 0) 0 (sth g2 85 0 ((g2 85 0) + 6)))))))
    (H3 : ∀ (n2 : Nat) (n3 : Nat) (x4 : Int) (x5 : Int) (x6 : Int) (g3 : HP), I3 n2 n3 x4 x5 x6 g3 → (((g3 55 44) ≤ x6 → ((iR (x4 + 1)) ∧ (∃ m : Nat, m < n2 ∧ I2 m (x4 + 1) g3))) ∧ (¬ (g3 55 44) ≤ x6 → ((iR (x6 + 1)) ∧ ((0 ≤ (x6 + 1) ∧ (x6 + 1) < 9) ∧ ((0 ≤ x4 ∧ x4 < 12) ∧ ((iR (16 * (g3 83 x4))) ∧ ((0 ≤ x6 ∧ x6 < 8) ∧ ((iR ((16 * (g3 83 x4)) + (g3 84 x6))) ∧ ((0 ≤ ((16 * (g3 83 x4)) + (g3 84 x6)) ∧ ((16 * (g3 83 x4)) + (g3 84 x6)) < 256) ∧ ((iR (x5 + (g3 63 ((16 * (g3 83 x4)) + (g3 84 x6))))) ∧ ((iR (x6 + 1)) ∧ ((0 ≤ x6 ∧ x6 < 9) ∧ ((iR (6 + (min (g3 85 (x6 + 1)) (g3 85 x6)))) ∧ ((0 ≤ (x6 + 1) ∧ (x6 + 1) < 9) ∧ ((iR (x6 + 1)) ∧ (∃ m : Nat, m < n3 ∧ I3 n2 m x4 (g3 85 (x6 + 1)) (x6 + 1) (sth g3 85 (x6 + 1) (min (x5 + (g3 63 ((16 * (g3 83 x4)) + (g3 84 x6)))) (6 + (min (g3 85 (x6 + 1)) (g3 85 x6)))))))))))))))))))))) :
    Ev w Y_X9_priceOf 0 [some (vR 55), some (vI a), some (vI b), some (vI c), none, none, none, none, none] [] h (rI K) := by
  have L2 : ∀ (n2 : Nat) (x4 : Int) (g2 : HP), I2 n2 x4 g2 → Ev w Y_X9_priceOf 53 [some (vR 55), none, none, none, some (vI x4), none, none, none, none] [] g2 (rI K) := by
    intro n2
    induction n2 using Nat.strongRecOn with
    | ind n2 ih2 =>
      have L3 : ∀ (n3 : Nat) (x4 : Int) (x5 : Int) (x6 : Int) (g3 : HP), I3 n2 n3 x4 x5 x6 g3 → Ev w Y_X9_priceOf 84 [some (vR 55), none, none, none, some (vI x4), some (vI x5), some (vI x6), none, none] [] g3 (rI K) := by
        intro n3
        induction n3 using Nat.strongRecOn with
        | ind n3 ih3 =>
          intro x4 x5 x6 g3 H
          have H := H3 n2 n3 x4 x5 x6 g3 H
          refine e_iload (pc := 84) dX9_priceOf_84 rfl ?_
          refine e_aload_n (pc := 86) dX9_priceOf_86 rfl rfl ?_
          refine e_getI (q := 55) (ci := 9) (k := 44) (kz := 44) (C := RX9) (T := TX9) (N := 52) (x := (g3 55 44)) (pc := 87) dX9_priceOf_87 rfl rfl rfl ev_in9 rfl ul_4_226 ⟨rfl, by decide⟩ rfl ?_
          refine e_icmp_ge (pc := 90) (tgt := 171) dX9_priceOf_90 (by decide) (fun c2 => ?_) (fun c2 => ?_)
          · have H := H.1 c2
            refine e_iinc (lv' := [some (vR 55), none, none, none, some (vI (x4 + 1)), some (vI x5), some (vI x6), none, none]) (pc := 171) dX9_priceOf_171 rfl H.1 rfl rfl ?_
            have H := H.2
            refine e_goto (pc := 174) (tgt := 53) dX9_priceOf_174 (by decide) ?_
            refine e_mask [true, false, false, false, true, false, false, false, false] rfl ?_
            obtain ⟨m, hm, H⟩ := H
            exact ih2 m hm _ _ H
          · have H := H.2 c2
            refine e_aload_n (pc := 93) dX9_priceOf_93 rfl rfl ?_
            refine e_getR (q := 55) (ci := 9) (k := 46) (y := 85) (C := RX9) (T := TX9) (N := 52) (pc := 94) dX9_priceOf_94 rfl rfl ev_in9 rfl ul_4_228 ⟨rfl, rfl⟩ rfl ?_
            refine e_iload (pc := 97) dX9_priceOf_97 rfl ?_
            refine e_iconst (pc := 99) dX9_priceOf_99 ⟨by decide, by decide⟩ ?_
            refine e_iadd (pc := 100) dX9_priceOf_100 H.1 ?_
            have H := H.2
            refine e_iald (q := 85) (x := (g3 85 (x6 + 1))) (pc := 101) dX9_priceOf_101 rfl H.1 rfl ?_
            have H := H.2
            refine e_istore (lv' := [some (vR 55), none, none, none, some (vI x4), some (vI x5), some (vI x6), some (vI (g3 85 (x6 + 1))), none]) (pc := 102) dX9_priceOf_102 rfl rfl ?_
            refine e_iload (pc := 104) dX9_priceOf_104 rfl ?_
            refine e_aload_n (pc := 106) dX9_priceOf_106 rfl rfl ?_
            refine e_getR (q := 55) (ci := 9) (k := 9) (y := 63) (C := RX9) (T := TX9) (N := 52) (pc := 107) dX9_priceOf_107 rfl rfl ev_in9 rfl ul_4_191 ⟨rfl, rfl⟩ rfl ?_
            refine e_bipush (pc := 110) dX9_priceOf_110 ⟨by decide, by decide⟩ (by decide) ?_
            refine e_aload_n (pc := 112) dX9_priceOf_112 rfl rfl ?_
            refine e_getR (q := 55) (ci := 9) (k := 43) (y := 83) (C := RX9) (T := TX9) (N := 52) (pc := 113) dX9_priceOf_113 rfl rfl ev_in9 rfl ul_4_225 ⟨rfl, rfl⟩ rfl ?_
            refine e_iload (pc := 116) dX9_priceOf_116 rfl ?_
            refine e_iald (q := 83) (x := (g3 83 x4)) (pc := 118) dX9_priceOf_118 rfl H.1 rfl ?_
            have H := H.2
            refine e_imul (pc := 119) dX9_priceOf_119 H.1 ?_
            have H := H.2
            refine e_aload_n (pc := 120) dX9_priceOf_120 rfl rfl ?_
            refine e_getR (q := 55) (ci := 9) (k := 45) (y := 84) (C := RX9) (T := TX9) (N := 52) (pc := 121) dX9_priceOf_121 rfl rfl ev_in9 rfl ul_4_227 ⟨rfl, rfl⟩ rfl ?_
            refine e_iload (pc := 124) dX9_priceOf_124 rfl ?_
            refine e_iald (q := 84) (x := (g3 84 x6)) (pc := 126) dX9_priceOf_126 rfl H.1 rfl ?_
            have H := H.2
            refine e_iadd (pc := 127) dX9_priceOf_127 H.1 ?_
            have H := H.2
            refine e_iald (q := 63) (x := (g3 63 ((16 * (g3 83 x4)) + (g3 84 x6)))) (pc := 128) dX9_priceOf_128 rfl H.1 rfl ?_
            have H := H.2
            refine e_iadd (pc := 129) dX9_priceOf_129 H.1 ?_
            have H := H.2
            refine e_istore (lv' := [some (vR 55), none, none, none, some (vI x4), some (vI x5), some (vI x6), some (vI (g3 85 (x6 + 1))), some (vI (x5 + (g3 63 ((16 * (g3 83 x4)) + (g3 84 x6)))))]) (pc := 130) dX9_priceOf_130 rfl rfl ?_
            refine e_aload_n (pc := 132) dX9_priceOf_132 rfl rfl ?_
            refine e_getR (q := 55) (ci := 9) (k := 46) (y := 85) (C := RX9) (T := TX9) (N := 52) (pc := 133) dX9_priceOf_133 rfl rfl ev_in9 rfl ul_4_228 ⟨rfl, rfl⟩ rfl ?_
            refine e_iload (pc := 136) dX9_priceOf_136 rfl ?_
            refine e_iconst (pc := 138) dX9_priceOf_138 ⟨by decide, by decide⟩ ?_
            refine e_iadd (pc := 139) dX9_priceOf_139 H.1 ?_
            have H := H.2
            refine e_iload (pc := 140) dX9_priceOf_140 rfl ?_
            refine e_bipush (pc := 142) dX9_priceOf_142 ⟨by decide, by decide⟩ (by decide) ?_
            refine e_iload (pc := 144) dX9_priceOf_144 rfl ?_
            refine e_aload_n (pc := 146) dX9_priceOf_146 rfl rfl ?_
            refine e_getR (q := 55) (ci := 9) (k := 46) (y := 85) (C := RX9) (T := TX9) (N := 52) (pc := 147) dX9_priceOf_147 rfl rfl ev_in9 rfl ul_4_228 ⟨rfl, rfl⟩ rfl ?_
            refine e_iload (pc := 150) dX9_priceOf_150 rfl ?_
            refine e_iald (q := 85) (x := (g3 85 x6)) (pc := 152) dX9_priceOf_152 rfl H.1 rfl ?_
            have H := H.2
            refine e_invS (pc := 153) (Y' := Y_X9_less) (as := [vI (g3 85 (x6 + 1)), vI (g3 85 x6)]) (st := [vI 6, vI (x5 + (g3 63 ((16 * (g3 83 x4)) + (g3 84 x6)))), vI (x6 + 1), vR 85]) (lv0 := [some (vI (g3 85 (x6 + 1))), some (vI (g3 85 x6))]) dX9_priceOf_153 m_X9_less ul_5_214 ul_5_215 ⟨rfl, rfl⟩ rfl rfl rfl rfl rfl (c_X9_less w (g3 85 (x6 + 1)) (g3 85 x6) g3) ?_
            rintro _ hz ⟨_, rfl, rfl, hh⟩
            rw [hh]
            show Ev w Y_X9_priceOf 156 [some (vR 55), none, none, none, some (vI x4), some (vI x5), some (vI x6), some (vI (g3 85 (x6 + 1))), some (vI (x5 + (g3 63 ((16 * (g3 83 x4)) + (g3 84 x6)))))] [vI (min (g3 85 (x6 + 1)) (g3 85 x6)), vI 6, vI (x5 + (g3 63 ((16 * (g3 83 x4)) + (g3 84 x6)))), vI (x6 + 1), vR 85] g3 (rI K)
            refine e_iadd (pc := 156) dX9_priceOf_156 H.1 ?_
            have H := H.2
            refine e_invS (pc := 157) (Y' := Y_X9_less) (as := [vI (x5 + (g3 63 ((16 * (g3 83 x4)) + (g3 84 x6)))), vI (6 + (min (g3 85 (x6 + 1)) (g3 85 x6)))]) (st := [vI (x6 + 1), vR 85]) (lv0 := [some (vI (x5 + (g3 63 ((16 * (g3 83 x4)) + (g3 84 x6))))), some (vI (6 + (min (g3 85 (x6 + 1)) (g3 85 x6))))]) dX9_priceOf_157 m_X9_less ul_5_214 ul_5_215 ⟨rfl, rfl⟩ rfl rfl rfl rfl rfl (c_X9_less w (x5 + (g3 63 ((16 * (g3 83 x4)) + (g3 84 x6)))) (6 + (min (g3 85 (x6 + 1)) (g3 85 x6))) g3) ?_
            rintro _ hz ⟨_, rfl, rfl, hh⟩
            rw [hh]
            show Ev w Y_X9_priceOf 160 [some (vR 55), none, none, none, some (vI x4), some (vI x5), some (vI x6), some (vI (g3 85 (x6 + 1))), some (vI (x5 + (g3 63 ((16 * (g3 83 x4)) + (g3 84 x6)))))] [vI (min (x5 + (g3 63 ((16 * (g3 83 x4)) + (g3 84 x6)))) (6 + (min (g3 85 (x6 + 1)) (g3 85 x6)))), vI (x6 + 1), vR 85] g3 (rI K)
            refine e_iast (q := 85) (pc := 160) dX9_priceOf_160 rfl H.1 ?_
            have H := H.2
            refine e_iload (pc := 161) dX9_priceOf_161 rfl ?_
            refine e_istore (lv' := [some (vR 55), none, none, none, some (vI x4), some (vI (g3 85 (x6 + 1))), some (vI x6), some (vI (g3 85 (x6 + 1))), some (vI (x5 + (g3 63 ((16 * (g3 83 x4)) + (g3 84 x6)))))]) (pc := 163) dX9_priceOf_163 rfl rfl ?_
            refine e_iinc (lv' := [some (vR 55), none, none, none, some (vI x4), some (vI (g3 85 (x6 + 1))), some (vI (x6 + 1)), some (vI (g3 85 (x6 + 1))), some (vI (x5 + (g3 63 ((16 * (g3 83 x4)) + (g3 84 x6)))))]) (pc := 165) dX9_priceOf_165 rfl H.1 rfl rfl ?_
            have H := H.2
            refine e_goto (pc := 168) (tgt := 84) dX9_priceOf_168 (by decide) ?_
            refine e_mask [true, false, false, false, true, true, true, false, false] rfl ?_
            obtain ⟨m, hm, H⟩ := H
            exact ih3 m hm _ _ _ _ H
      intro x4 g2 H
      have H := H2 n2 x4 g2 H
      refine e_iload (pc := 53) dX9_priceOf_53 rfl ?_
      refine e_aload_n (pc := 55) dX9_priceOf_55 rfl rfl ?_
      refine e_getI (q := 55) (ci := 9) (k := 42) (kz := 42) (C := RX9) (T := TX9) (N := 52) (x := (g2 55 42)) (pc := 56) dX9_priceOf_56 rfl rfl rfl ev_in9 rfl ul_4_224 ⟨rfl, by decide⟩ rfl ?_
      refine e_icmp_ge (pc := 59) (tgt := 177) dX9_priceOf_59 (by decide) (fun c1 => ?_) (fun c1 => ?_)
      · have H := H.1 c1
        refine e_aload_n (pc := 177) dX9_priceOf_177 rfl rfl ?_
        refine e_getR (q := 55) (ci := 9) (k := 46) (y := 85) (C := RX9) (T := TX9) (N := 52) (pc := 178) dX9_priceOf_178 rfl rfl ev_in9 rfl ul_4_228 ⟨rfl, rfl⟩ rfl ?_
        refine e_aload_n (pc := 181) dX9_priceOf_181 rfl rfl ?_
        refine e_getI (q := 55) (ci := 9) (k := 44) (kz := 44) (C := RX9) (T := TX9) (N := 52) (x := (g2 55 44)) (pc := 182) dX9_priceOf_182 rfl rfl rfl ev_in9 rfl ul_4_226 ⟨rfl, by decide⟩ rfl ?_
        refine e_iald (q := 85) (x := (g2 85 (g2 55 44))) (pc := 185) dX9_priceOf_185 rfl H.1 rfl ?_
        have H := H.2
        exact e_ret (pc := 186) (v := some (vI (g2 85 (g2 55 44)))) dX9_priceOf_186 rfl trivial ⟨_, rfl, H⟩
      · have H := H.2 c1
        refine e_aload_n (pc := 62) dX9_priceOf_62 rfl rfl ?_
        refine e_getR (q := 55) (ci := 9) (k := 46) (y := 85) (C := RX9) (T := TX9) (N := 52) (pc := 63) dX9_priceOf_63 rfl rfl ev_in9 rfl ul_4_228 ⟨rfl, rfl⟩ rfl ?_
        refine e_iconst (pc := 66) dX9_priceOf_66 ⟨by decide, by decide⟩ ?_
        refine e_iald (q := 85) (x := (g2 85 0)) (pc := 67) dX9_priceOf_67 rfl ⟨by decide, by decide⟩ rfl ?_
        refine e_istore (lv' := [some (vR 55), none, none, none, some (vI x4), some (vI (g2 85 0)), none, none, none]) (pc := 68) dX9_priceOf_68 rfl rfl ?_
        refine e_aload_n (pc := 70) dX9_priceOf_70 rfl rfl ?_
        refine e_getR (q := 55) (ci := 9) (k := 46) (y := 85) (C := RX9) (T := TX9) (N := 52) (pc := 71) dX9_priceOf_71 rfl rfl ev_in9 rfl ul_4_228 ⟨rfl, rfl⟩ rfl ?_
        refine e_iconst (pc := 74) dX9_priceOf_74 ⟨by decide, by decide⟩ ?_
        refine e_dup2 (pc := 75) dX9_priceOf_75 rfl rfl ?_
        refine e_iald (q := 85) (x := (g2 85 0)) (pc := 76) dX9_priceOf_76 rfl ⟨by decide, by decide⟩ rfl ?_
        refine e_bipush (pc := 77) dX9_priceOf_77 ⟨by decide, by decide⟩ (by decide) ?_
        refine e_iadd (pc := 79) dX9_priceOf_79 H.1 ?_
        have H := H.2
        refine e_iast (q := 85) (pc := 80) dX9_priceOf_80 rfl ⟨by decide, by decide⟩ ?_
        refine e_iconst (pc := 81) dX9_priceOf_81 ⟨by decide, by decide⟩ ?_
        refine e_istore (lv' := [some (vR 55), none, none, none, some (vI x4), some (vI (g2 85 0)), some (vI 0), none, none]) (pc := 82) dX9_priceOf_82 rfl rfl ?_
        obtain ⟨m, H⟩ := H
        exact L3 m _ _ _ _ H
  have L1 : ∀ (n1 : Nat) (x4 : Int) (g1 : HP), I1 n1 x4 g1 → Ev w Y_X9_priceOf 23 [some (vR 55), none, none, none, some (vI x4), none, none, none, none] [] g1 (rI K) := by
    intro n1
    induction n1 using Nat.strongRecOn with
    | ind n1 ih1 =>
      intro x4 g1 H
      have H := H1 n1 x4 g1 H
      refine e_iload (pc := 23) dX9_priceOf_23 rfl ?_
      refine e_aload_n (pc := 25) dX9_priceOf_25 rfl rfl ?_
      refine e_getI (q := 55) (ci := 9) (k := 44) (kz := 44) (C := RX9) (T := TX9) (N := 52) (x := (g1 55 44)) (pc := 26) dX9_priceOf_26 rfl rfl rfl ev_in9 rfl ul_4_226 ⟨rfl, by decide⟩ rfl ?_
      refine e_icmp_gt (pc := 29) (tgt := 50) dX9_priceOf_29 (by decide) (fun c3 => ?_) (fun c3 => ?_)
      · have H := H.1 c3
        refine e_iconst (pc := 50) dX9_priceOf_50 ⟨by decide, by decide⟩ ?_
        refine e_istore (lv' := [some (vR 55), none, none, none, some (vI 0), none, none, none, none]) (pc := 51) dX9_priceOf_51 rfl rfl ?_
        obtain ⟨m, H⟩ := H
        exact L2 m _ _ H
      · have H := H.2 c3
        refine e_aload_n (pc := 32) dX9_priceOf_32 rfl rfl ?_
        refine e_getR (q := 55) (ci := 9) (k := 46) (y := 85) (C := RX9) (T := TX9) (N := 52) (pc := 33) dX9_priceOf_33 rfl rfl ev_in9 rfl ul_4_228 ⟨rfl, rfl⟩ rfl ?_
        refine e_iload (pc := 36) dX9_priceOf_36 rfl ?_
        refine e_bipush (pc := 38) dX9_priceOf_38 ⟨by decide, by decide⟩ (by decide) ?_
        refine e_iload (pc := 40) dX9_priceOf_40 rfl ?_
        refine e_imul (pc := 42) dX9_priceOf_42 H.1 ?_
        have H := H.2
        refine e_iast (q := 85) (pc := 43) dX9_priceOf_43 rfl H.1 ?_
        have H := H.2
        refine e_iinc (lv' := [some (vR 55), none, none, none, some (vI (x4 + 1)), none, none, none, none]) (pc := 44) dX9_priceOf_44 rfl H.1 rfl rfl ?_
        have H := H.2
        refine e_goto (pc := 47) (tgt := 23) dX9_priceOf_47 (by decide) ?_
        obtain ⟨m, hm, H⟩ := H
        exact ih1 m hm _ _ H
  refine e_aload_n (pc := 0) dX9_priceOf_0 rfl rfl ?_
  refine e_iconst (pc := 1) dX9_priceOf_1 ⟨by decide, by decide⟩ ?_
  refine e_put (q := 55) (ci := 9) (k := 42) (kz := 42) (C := RX9) (T := TX9) (N := 52) (ty := .int) (pc := 2) dX9_priceOf_2 rfl rfl rfl ev_in9 tyX9 tyX9_ok nmX9 rfl ul_4_224 ⟨rfl, by decide⟩ rfl (tyX9_ok 42 (by decide)) (Or.inl rfl) ?_
  refine e_aload_n (pc := 5) dX9_priceOf_5 rfl rfl ?_
  refine e_iload_n (pc := 6) dX9_priceOf_6 rfl rfl ?_
  refine e_invV (pc := 7) (Y' := Y_X9_addWord) (as := [vI a]) (st := []) (lv0 := [some (vR 55), some (vI a), none]) (q := 55) (ci := 9) (T := TX9) (N := 52) dX9_priceOf_7 m_X9_addWord ul_5_210 ⟨ul_5_212, us_X9_addWord⟩ ⟨rfl, rfl⟩ rfl rfl rfl rfl rfl rfl rfl (c_X9_addWord w a (sth h 55 42 0) _ H) ?_
  rintro _ h21 ⟨rfl, H⟩
  show Ev w Y_X9_priceOf 10 [some (vR 55), some (vI a), some (vI b), some (vI c), none, none, none, none, none] [] h21 (rI K)
  refine e_aload_n (pc := 10) dX9_priceOf_10 rfl rfl ?_
  refine e_iload_n (pc := 11) dX9_priceOf_11 rfl rfl ?_
  refine e_invV (pc := 12) (Y' := Y_X9_addWord) (as := [vI b]) (st := []) (lv0 := [some (vR 55), some (vI b), none]) (q := 55) (ci := 9) (T := TX9) (N := 52) dX9_priceOf_12 m_X9_addWord ul_5_210 ⟨ul_5_212, us_X9_addWord⟩ ⟨rfl, rfl⟩ rfl rfl rfl rfl rfl rfl rfl (c_X9_addWord w b h21 _ H) ?_
  rintro _ h22 ⟨rfl, H⟩
  show Ev w Y_X9_priceOf 15 [some (vR 55), some (vI a), some (vI b), some (vI c), none, none, none, none, none] [] h22 (rI K)
  refine e_aload_n (pc := 15) dX9_priceOf_15 rfl rfl ?_
  refine e_iload_n (pc := 16) dX9_priceOf_16 rfl rfl ?_
  refine e_invV (pc := 17) (Y' := Y_X9_addWord) (as := [vI c]) (st := []) (lv0 := [some (vR 55), some (vI c), none]) (q := 55) (ci := 9) (T := TX9) (N := 52) dX9_priceOf_17 m_X9_addWord ul_5_210 ⟨ul_5_212, us_X9_addWord⟩ ⟨rfl, rfl⟩ rfl rfl rfl rfl rfl rfl rfl (c_X9_addWord w c h22 _ H) ?_
  rintro _ h23 ⟨rfl, H⟩
  show Ev w Y_X9_priceOf 20 [some (vR 55), some (vI a), some (vI b), some (vI c), none, none, none, none, none] [] h23 (rI K)
  refine e_iconst (pc := 20) dX9_priceOf_20 ⟨by decide, by decide⟩ ?_
  refine e_istore (lv' := [some (vR 55), some (vI a), some (vI b), some (vI c), some (vI 0), none, none, none, none]) (pc := 21) dX9_priceOf_21 rfl rfl ?_
  refine e_mask [true, false, false, false, true, false, false, false, false] rfl ?_
  obtain ⟨m, H⟩ := H
  exact L1 m _ _ H
set_option maxRecDepth 100000 in
set_option maxHeartbeats 4000000 in
theorem c_X9_priceOf (w : WD) (a : Int) (b : Int) (c : Int) (h : HP) (K : Int → HP → Prop)  (H : S_X9_priceOf a b c h K) : Ev w Y_X9_priceOf 0 [some (vR 55), some (vI a), some (vI b), some (vI c), none, none, none, none, none] [] h (rI K) := by
  obtain ⟨⟨hV, hH, ha, hb, hc⟩, HK⟩ := H
  have h16 := hV.1
  have hn := hH.1
  have hA := (hV.2.1 a ha.1 ha.2).2.2.2
  have hB := (hV.2.1 b hb.1 hb.2).2.2.2
  have hC : ¬ c < 0 → 1 ≤ h 66 c ∧ h 66 c ≤ 4 := fun z => (hV.2.1 c (by omega) hc).2.2.2
  have la : lenW h a = h 66 a := by unfold lenW; rw [if_neg (by omega)]
  have lb : lenW h b = h 66 b := by unfold lenW; rw [if_neg (by omega)]
  have lc : 0 ≤ lenW h c ∧ lenW h c ≤ 4 := by unfold lenW; split <;> omega
  have hpr : ∀ s : Nat → Int, (∀ k : Nat, (k : Int) < h 66 a → s k = h 67 (4 * a + k)) → (∀ k : Nat, (k : Int) < h 66 b → s ((h 66 a).toNat + k) = h 67 (4 * b + k)) → (∀ k : Nat, (k : Int) < lenW h c → s ((h 66 a).toNat + (h 66 b).toNat + k) = h 67 (4 * c + k)) → rwF (h 63) (h 84) s ((h 66 a).toNat + (h 66 b).toNat + (lenW h c).toNat) row0 (h 55 44).toNat = prR (h 63) (h 84) (h 66) (h 67) a b c (h 55 44).toNat := by
    intro s s1 s2 s3
    rw [rwF_app, rwF_app]
    rw [rwF_c (s := s) (s' := fun k => h 67 (4 * a + (k : Int))) (fun i hi => s1 i (by omega)), rwF_c (s := fun i => s ((h 66 a).toNat + i)) (s' := fun k => h 67 (4 * b + (k : Int))) (fun i hi => s2 i (by omega)), rwF_c (s := fun i => s ((h 66 a).toNat + (h 66 b).toNat + i)) (s' := fun k => h 67 (4 * c + (k : Int))) (fun i hi => s3 i (by omega))]
    unfold prR rwW lenW
    by_cases z : c < 0
    · rw [if_pos z, if_pos z]; rfl
    · rw [if_neg z, if_neg z]
  have hD : ∀ (x : Int) (j : Nat), 0 ≤ x → x ≤ 15 → (j : Int) < h 55 44 → 0 ≤ h 63 (x * 16 + h 84 (j : Int)) ∧ h 63 (x * 16 + h 84 (j : Int)) ≤ 9 := fun x j z1 z2 z3 => by
    have h1 := hH.2 (j : Int) (by omega) (by omega)
    exact hV.2.2.2 _ (by omega) (by omega)
  have hD0 : ∀ (x : Int) (j : Nat), 0 ≤ x → x ≤ 15 → (j : Int) < h 55 44 → 0 ≤ h 63 (x * 16 + h 84 (j : Int)) := fun x j z1 z2 z3 => (hD x j z1 z2 z3).1
  have hr0 : rowB row0 (h 55 44) 48 := fun j hj => by unfold row0; omega
  -- what stands behind the three words
  refine v_X9_priceOf w a b c h K
    (fun n x4 g => ∃ (s : Nat → Int) (j : Nat), x4 = (j : Int) ∧ (j : Int) ≤ h 55 44 + 1 ∧ n = (h 55 44 + 1 - (j : Int)).toNat ∧ (∀ q, q ≠ 83 → q ≠ 85 → q ≠ 55 → g q = h q) ∧ (∀ i : Int, i ≠ 42 → g 55 i = h 55 i) ∧ g 55 42 = h 66 a + h 66 b + lenW h c ∧ (∀ i : Nat, (i : Int) < h 66 a + h 66 b + lenW h c → g 83 (i : Int) = s i ∧ 0 ≤ s i ∧ s i ≤ 15) ∧ rwF (h 63) (h 84) s ((h 66 a).toNat + (h 66 b).toNat + (lenW h c).toNat) row0 (h 55 44).toNat = prR (h 63) (h 84) (h 66) (h 67) a b c (h 55 44).toNat ∧ (∀ i : Nat, i < j → g 85 (i : Int) = row0 i))
    (fun n x4 g => ∃ (s : Nat → Int) (j : Nat), x4 = (j : Int) ∧ (j : Int) ≤ h 66 a + h 66 b + lenW h c ∧ n = (h 66 a + h 66 b + lenW h c - (j : Int)).toNat ∧ (∀ q, q ≠ 83 → q ≠ 85 → q ≠ 55 → g q = h q) ∧ (∀ i : Int, i ≠ 42 → g 55 i = h 55 i) ∧ g 55 42 = h 66 a + h 66 b + lenW h c ∧ (∀ i : Nat, (i : Int) < h 66 a + h 66 b + lenW h c → g 83 (i : Int) = s i ∧ 0 ≤ s i ∧ s i ≤ 15) ∧ rwF (h 63) (h 84) s ((h 66 a).toNat + (h 66 b).toNat + (lenW h c).toNat) row0 (h 55 44).toNat = prR (h 63) (h 84) (h 66) (h 67) a b c (h 55 44).toNat ∧ (∀ i : Nat, (i : Int) ≤ h 55 44 → g 85 (i : Int) = rwF (h 63) (h 84) s j row0 i))
    (fun n n3 x4 x5 x6 g => ∃ (s : Nat → Int) (j k : Nat), x4 = (j : Int) ∧ (j : Int) < h 66 a + h 66 b + lenW h c ∧ n = (h 66 a + h 66 b + lenW h c - (j : Int)).toNat ∧ x6 = (k : Int) ∧ (k : Int) ≤ h 55 44 ∧ n3 = (h 55 44 - (k : Int)).toNat ∧ (∀ q, q ≠ 83 → q ≠ 85 → q ≠ 55 → g q = h q) ∧ (∀ i : Int, i ≠ 42 → g 55 i = h 55 i) ∧ g 55 42 = h 66 a + h 66 b + lenW h c ∧ (∀ i : Nat, (i : Int) < h 66 a + h 66 b + lenW h c → g 83 (i : Int) = s i ∧ 0 ≤ s i ∧ s i ≤ 15) ∧ rwF (h 63) (h 84) s ((h 66 a).toNat + (h 66 b).toNat + (lenW h c).toNat) row0 (h 55 44).toNat = prR (h 63) (h 84) (h 66) (h 67) a b c (h 55 44).toNat ∧ x5 = rwF (h 63) (h 84) s j row0 k ∧ (∀ i : Nat, i ≤ k → g 85 (i : Int) = sr (h 63) (h 84) (s j) (rwF (h 63) (h 84) s j row0) i) ∧ (∀ i : Nat, k < i → (i : Int) ≤ h 55 44 → g 85 (i : Int) = rwF (h 63) (h 84) s j row0 i))
    ?_ ?_ ?_ ?_
  · refine ⟨⟨Or.inr ⟨ha.1, by omega, by rw [sth_ne (by decide)]; exact hA.1, by rw [sth_ne (by decide)]; exact hA.2⟩, by rw [sth_eq, us_s]; omega⟩, fun h1 p1 p2 p3 p4 p5 => ?_⟩
    have e1 : lenW (sth h 55 42 0) a = h 66 a := by unfold lenW; rw [if_neg (by omega), sth_ne (by decide)]
    rw [sth_eq, us_s, e1] at p3
    rw [sth_eq, us_s, e1, sth_ne (by decide)] at p5
    have q66 : h1 66 = h 66 := by rw [p1 66 (by decide) (by decide), sth_ne (by decide)]
    have q67 : h1 67 = h 67 := by rw [p1 67 (by decide) (by decide), sth_ne (by decide)]
    refine ⟨⟨Or.inr ⟨hb.1, by omega, by rw [q66]; exact hB.1, by rw [q66]; exact hB.2⟩, by omega⟩, fun h2 r1 r2 r3 r4 r5 => ?_⟩
    have e2 : lenW h1 b = h 66 b := by unfold lenW; rw [if_neg (by omega), q66]
    rw [p3, e2] at r3 r5
    rw [p3] at r4
    rw [q67] at r5
    have v66 : h2 66 = h 66 := by rw [r1 66 (by decide) (by decide), q66]
    have v67 : h2 67 = h 67 := by rw [r1 67 (by decide) (by decide), q67]
    refine ⟨⟨?_, by omega⟩, fun h3 t1 t2 t3 t4 t5 => ?_⟩
    · by_cases z : c < 0
      · exact Or.inl z
      · exact Or.inr ⟨by omega, by omega, by rw [v66]; exact (hC z).1, by rw [v66]; exact (hC z).2⟩
    have e3 : lenW h2 c = lenW h c := by unfold lenW; rw [v66]
    rw [r3, e3] at t3 t5
    rw [r3] at t4
    rw [v67] at t5
    have k1 : ∀ k : Nat, (k : Int) < h 66 a → h3 83 (k : Int) = h 67 (4 * a + k) := fun k hk => by
      rw [t4 _ (by omega), r4 _ (by omega)]
      have := p5 (k : Int) (by omega) hk
      rwa [Int.zero_add] at this
    have k2 : ∀ k : Nat, (k : Int) < h 66 b → h3 83 (((h 66 a).toNat + k : Nat) : Int) = h 67 (4 * b + k) := fun k hk => by
      rw [t4 _ (by omega)]
      have := r5 (k : Int) (by omega) hk
      rw [show (((h 66 a).toNat + k : Nat) : Int) = 0 + h 66 a + (k : Int) by omega]
      exact this
    have k3 : ∀ k : Nat, (k : Int) < lenW h c → h3 83 (((h 66 a).toNat + (h 66 b).toNat + k : Nat) : Int) = h 67 (4 * c + k) := fun k hk => by
      have := t5 (k : Int) (by omega) hk
      rw [show (((h 66 a).toNat + (h 66 b).toNat + k : Nat) : Int) = 0 + h 66 a + h 66 b + (k : Int) by omega]
      exact this
    have hsnd : ∀ i : Int, 0 ≤ i → i < 64 → 0 ≤ h 67 i ∧ h 67 i ≤ 15 := hV.2.2.1
    refine ⟨(h 55 44 + 1).toNat, fun i => h3 83 (i : Int), 0, rfl, by omega, by omega, fun q z1 z2 z3 => by rw [t1 q z1 z3, r1 q z1 z3, p1 q z1 z3, sth_ne z3], fun i z => by rw [t2 i z, r2 i z, p2 i z, sth_eq, us_n z], by rw [t3]; omega, fun i hi => ⟨rfl, ?_⟩, hpr _ k1 k2 k3, fun i hi => by omega⟩
    show 0 ≤ h3 83 (i : Int) ∧ h3 83 (i : Int) ≤ 15
    by_cases z1 : (i : Int) < h 66 a
    · rw [k1 i z1]; exact hsnd _ (by omega) (by omega)
    · by_cases z2 : (i : Int) < h 66 a + h 66 b
      · have := k2 (i - (h 66 a).toNat) (by omega)
        rw [show (h 66 a).toNat + (i - (h 66 a).toNat) = i by omega] at this
        rw [this]; exact hsnd _ (by omega) (by omega)
      · have := k3 (i - (h 66 a).toNat - (h 66 b).toNat) (by omega)
        rw [show (h 66 a).toNat + (h 66 b).toNat + (i - (h 66 a).toNat - (h 66 b).toNat) = i by omega] at this
        rw [this]
        have hcc : ¬ c < 0 := fun z => by
          have : lenW h c = 0 := by unfold lenW; rw [if_pos z]
          omega
        exact hsnd _ (by omega) (by omega)
  · rintro n x4 g ⟨s, j, rfl, hj, rfl, f1, f2, f3, f4, f5, f6⟩
    rw [f2 44 (by decide)]
    refine ⟨fun z => ⟨(h 66 a + h 66 b + lenW h c).toNat, s, 0, rfl, by omega, by omega, f1, f2, f3, f4, f5, fun i hi => f6 i (by omega)⟩, fun z => ⟨⟨by omega, by omega⟩, by omega, ⟨by omega, by omega⟩, (h 55 44 + 1 - ((j + 1 : Nat) : Int)).toNat, by omega, s, j + 1, by omega, by omega, rfl, fun q z1 z2 z3 => by rw [sth_ne z2]; exact f1 q z1 z2 z3, fun i z => by rw [sth_ne (by decide)]; exact f2 i z, by rw [sth_ne (by decide)]; exact f3, fun i hi => by rw [sth_ne (by decide)]; exact f4 i hi, f5, fun i hi => ?_⟩⟩
    rw [sth_eq]
    by_cases e : i = j
    · subst e; rw [us_s]; rfl
    · rw [us_n (by omega)]; exact f6 i (by omega)
  · rintro n x4 g ⟨s, j, rfl, hj, rfl, f1, f2, f3, f4, f5, f6⟩
    rw [f2 44 (by decide), f3]
    have hbd := rwF_b (s := s) hr0 hD0 (m := j) (fun i hi => (f4 i (by omega)).2)
    have h0 := f6 0 (by omega)
    have b0 := hbd 0 (by omega)
    refine ⟨fun z => ⟨by omega, HK _ g f1 f2 ?_⟩, fun z => ?_⟩
    · have e := f6 (h 55 44).toNat (by omega)
      rw [Int.toNat_of_nonneg hn.1] at e
      rw [e, ← f5]
      congr 1
      omega
    · simp only [Int.natCast_zero, Int.ofNat_eq_natCast] at h0
      have h0' : g 85 0 = rwF (h 63) (h 84) s j row0 0 := h0
      rw [h0']
      refine ⟨⟨by omega, by omega⟩, (h 55 44).toNat, s, j, 0, rfl, by omega, rfl, rfl, by omega, by omega, fun q z1 z2 z3 => by rw [sth_ne z2]; exact f1 q z1 z2 z3, fun i z => by rw [sth_ne (by decide)]; exact f2 i z, by rw [sth_ne (by decide)]; exact f3, fun i hi => by rw [sth_ne (by decide)]; exact f4 i hi, f5, rfl, fun i hi => ?_, fun i hi hi2 => by rw [sth_eq, us_n (by omega)]; exact f6 i hi2⟩
      have e : i = 0 := by omega
      subst e
      rw [sth_eq]
      exact us_s
  · rintro n n3 x4 x5 x6 g ⟨s, j, k, rfl, hj, rfl, rfl, hk, rfl, f1, f2, f3, f4, f5, rfl, f6, f7⟩
    have hbd := rwF_b (s := s) hr0 hD0 (m := j) (fun i hi => (f4 i (by omega)).2)
    have hsj := f4 j hj
    have hbs := sr_b (so := s j) hbd (fun i hi => hD0 _ i hsj.2.1 hsj.2.2 hi)
    have g63 : g 63 = h 63 := f1 63 (by decide) (by decide) (by decide)
    have g84 : g 84 = h 84 := f1 84 (by decide) (by decide) (by decide)
    rw [f2 44 (by decide), g63, g84, hsj.1]
    refine ⟨fun z => ⟨⟨by omega, by omega⟩, (h 66 a + h 66 b + lenW h c - ((j + 1 : Nat) : Int)).toNat, by omega, s, j + 1, by omega, by omega, rfl, f1, f2, f3, f4, f5, fun i hi => ?_⟩, fun z => ?_⟩
    · rw [f6 i (by omega)]; rfl
    · have hh := hH.2 (k : Int) (by omega) (by omega)
      have hd := hD (s j) k hsj.2.1 hsj.2.2 (by omega)
      have e1 := f7 (k + 1) (by omega) (by omega)
      have e2 := f6 k (by omega)
      rw [show ((k + 1 : Nat) : Int) = (k : Int) + 1 by omega] at e1
      rw [show 16 * s j = s j * 16 by omega, e1, e2]
      have b1 := hbd k (by omega)
      have b2 := hbd (k + 1) (by omega)
      have b3 := hbs k (by omega)
      refine ⟨⟨by omega, by omega⟩, by omega, by omega, ⟨by omega, by omega⟩, by omega, ⟨by omega, by omega⟩, by omega, ⟨by omega, by omega⟩, ⟨by omega, by omega⟩, by omega, ⟨by omega, by omega⟩, by omega, ⟨by omega, by omega⟩, (h 55 44 - ((k + 1 : Nat) : Int)).toNat, by omega, s, j, k + 1, rfl, hj, rfl, by omega, by omega, rfl, fun q z1 z2 z3 => by rw [sth_ne z2]; exact f1 q z1 z2 z3, fun i z => by rw [sth_ne (by decide)]; exact f2 i z, by rw [sth_ne (by decide)]; exact f3, fun i hi => by rw [sth_ne (by decide)]; exact f4 i hi, f5, rfl, fun i hi => ?_, fun i hi hi2 => by rw [sth_eq, us_n (by omega)]; exact f7 i (by omega) hi2⟩
      rw [sth_eq]
      by_cases e : i = k + 1
      · subst e
        rw [show ((k + 1 : Nat) : Int) = (k : Int) + 1 by omega, us_s]
        simp only [sr]
        omega
      · rw [us_n (by omega)]; exact f6 i (by omega)
