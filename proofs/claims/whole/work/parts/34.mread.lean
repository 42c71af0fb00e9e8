/-! the readings of the reference -/
def nc (c : Int) : Int := if c < 0 then -4 else c
def rpM (h : HP) (R : RD) : Prop := h 55 23 = (R.1 : Int) ∧ R.1 ≤ 12 ∧ ∀ i : Int, 0 ≤ i → i < (R.1 : Int) → h 72 i = R.2.1 i ∧ h 73 (3 * i) = R.2.2.1 i ∧ h 73 (3 * i + 1) = R.2.2.2.1 i ∧ h 73 (3 * i + 2) = nc (R.2.2.2.2 i)
theorem rpM_c {h h' : HP} {R : RD} (h1 : h' 55 23 = h 55 23) (h2 : h' 72 = h 72) (h3 : h' 73 = h 73) (hr : rpM h R) : rpM h' R := by unfold rpM; rw [h1, h2, h3]; exact hr
def prM (h : HP) (a b c : Int) : Int := prR (h 63) (h 84) (h 66) (h 67) a b c (h 55 44).toNat
theorem prR_nc (D H SM SND : Int → Int) (a b c : Int) (n : Nat) : prR D H SM SND a b (nc c) n = prR D H SM SND a b c n := by
  unfold prR nc
  by_cases e : c < 0
  · rw [if_pos e, if_pos (by decide), if_pos e]
  · rw [if_neg e]
def frT (h h' : HP) : Prop := (∀ q, q ≠ 72 → q ≠ 73 → q ≠ 83 → q ≠ 85 → q ≠ 55 → h' q = h q) ∧ (∀ i : Int, i ≠ 23 → i ≠ 42 → h' 55 i = h 55 i)
theorem frT_r (h : HP) : frT h h := ⟨fun _ _ _ _ _ _ => rfl, fun _ _ _ => rfl⟩
theorem frT_t {h g k : HP} (h1 : frT h g) (h2 : frT g k) : frT h k :=
  ⟨fun q a1 a2 a3 a4 a5 => by rw [h2.1 q a1 a2 a3 a4 a5]; exact h1.1 q a1 a2 a3 a4 a5, fun i y z => by rw [h2.2 i y z]; exact h1.2 i y z⟩
theorem frT_q {h g : HP} (hf : frT h g) (q : Nat) (hq : q ∉ [72, 73, 83, 85, 55]) : g q = h q :=
  hf.1 q (fun e => hq (by subst e; decide)) (fun e => hq (by subst e; decide)) (fun e => hq (by subst e; decide)) (fun e => hq (by subst e; decide)) (fun e => hq (by subst e; decide))
theorem frT_V {h g : HP} (hf : frT h g) (hV : mVOK h) : mVOK g := by
  unfold mVOK
  rw [hf.2 10 (by decide) (by decide), frT_q hf 64 (by decide), frT_q hf 65 (by decide), frT_q hf 66 (by decide), frT_q hf 67 (by decide), frT_q hf 63 (by decide)]
  exact hV
theorem frT_H {h g : HP} (hf : frT h g) (hV : mHRD h) : mHRD g := by
  unfold mHRD
  rw [hf.2 44 (by decide) (by decide), frT_q hf 84 (by decide)]
  exact hV
theorem frT_p {h g : HP} (hf : frT h g) : prM g = prM h := by
  funext a b c
  unfold prM
  rw [hf.2 44 (by decide) (by decide), frT_q hf 84 (by decide), frT_q hf 63 (by decide), frT_q hf 66 (by decide), frT_q hf 67 (by decide)]
def S_X9_take (a b c : Int) (h : HP) (K : HP → Prop) : Prop := ∃ (R : RD) (c' : Int), (mVOK h ∧ mHRD h ∧ rpM h R ∧ (0 ≤ a ∧ a < h 55 10) ∧ (0 ≤ b ∧ b < h 55 10) ∧ c' < h 55 10 ∧ c = nc c') ∧ ∀ h' : HP, frT h h' → rpM h' (if prM h a b c' ≤ h 68 0 then ofr R (prM h a b c') a b c' else R) → K h'
set_option maxRecDepth 100000 in
set_option maxHeartbeats 4000000 in
theorem v_X9_take (w : WD) (a : Int) (b : Int) (c : Int) (h : HP) (K : HP → Prop) 
    (I1 : Nat → Int → Int → HP → Prop)
    (I2 : Nat → Int → Int → Int → Int → HP → Prop)
    (I3 : Nat → Nat → Int → Int → Int → Int → Int → HP → Prop)
    (H : (S_X9_priceOf a b c h (fun r21 h21 => ((r21 ≤ (h21 68 0) → (∃ m : Nat, I1 m r21 (h21 55 23) h21)) ∧ (¬ r21 ≤ (h21 68 0) → K h21)))))
    (H1 : ∀ (n1 : Nat) (x4 : Int) (x5 : Int) (g1 : HP), I1 n1 x4 x5 g1 → ((((x5 ≤ 0 → True) ∧ (¬ x5 ≤ 0 → ((iR (x5 - 1)) ∧ ((0 ≤ (x5 - 1) ∧ (x5 - 1) < 12) ∧ True))))) ∧ ((((x5 ≤ 0) ∨ ((g1 72 (x5 - 1)) ≤ x4)) → ((¬ x5 = 12 → (∃ m : Nat, I2 m x4 x5 (cif (12 ≤ (g1 55 23)) 11 (g1 55 23)) (cif (12 ≤ (g1 55 23)) 11 (g1 55 23)) g1)) ∧ (x5 = 12 → K g1))) ∧ (¬ ((x5 ≤ 0) ∨ ((g1 72 (x5 - 1)) ≤ x4)) → ((iR (x5 + (-1))) ∧ (∃ m : Nat, m < n1 ∧ I1 m x4 (x5 + (-1)) g1))))))
    (H2 : ∀ (n2 : Nat) (x4 : Int) (x5 : Int) (x6 : Int) (x7 : Int) (g2 : HP), I2 n2 x4 x5 x6 x7 g2 → ((x7 ≤ x5 → ((0 ≤ x5 ∧ x5 < 12) ∧ ((iR (3 * x5)) ∧ ((0 ≤ (3 * x5) ∧ (3 * x5) < 36) ∧ ((iR (3 * x5)) ∧ ((iR ((3 * x5) + 1)) ∧ ((0 ≤ ((3 * x5) + 1) ∧ ((3 * x5) + 1) < 36) ∧ ((iR (3 * x5)) ∧ ((iR ((3 * x5) + 2)) ∧ ((0 ≤ ((3 * x5) + 2) ∧ ((3 * x5) + 2) < 36) ∧ ((iR (x6 + 1)) ∧ K (sth (sth (sth (sth (sth g2 72 x5 x4) 73 (3 * x5) a) 73 ((3 * x5) + 1) b) 73 ((3 * x5) + 2) c) 55 23 (x6 + 1))))))))))))) ∧ (¬ x7 ≤ x5 → ((iR (x7 - 1)) ∧ ((0 ≤ (x7 - 1) ∧ (x7 - 1) < 12) ∧ ((0 ≤ x7 ∧ x7 < 12) ∧ (∃ m : Nat, I3 n2 m x4 x5 x6 x7 0 (sth g2 72 x7 (g2 72 (x7 - 1))))))))))
    (H3 : ∀ (n2 : Nat) (n3 : Nat) (x4 : Int) (x5 : Int) (x6 : Int) (x7 : Int) (x8 : Int) (g3 : HP), I3 n2 n3 x4 x5 x6 x7 x8 g3 → ((3 ≤ x8 → ((iR (x7 + (-1))) ∧ (∃ m : Nat, m < n2 ∧ I2 m x4 x5 x6 (x7 + (-1)) g3))) ∧ (¬ 3 ≤ x8 → ((iR (3 * x7)) ∧ ((iR ((3 * x7) + x8)) ∧ ((iR (x7 - 1)) ∧ ((iR (3 * (x7 - 1))) ∧ ((iR ((3 * (x7 - 1)) + x8)) ∧ ((0 ≤ ((3 * (x7 - 1)) + x8) ∧ ((3 * (x7 - 1)) + x8) < 36) ∧ ((0 ≤ ((3 * x7) + x8) ∧ ((3 * x7) + x8) < 36) ∧ ((iR (x8 + 1)) ∧ (∃ m : Nat, m < n3 ∧ I3 n2 m x4 x5 x6 x7 (x8 + 1) (sth g3 73 ((3 * x7) + x8) (g3 73 ((3 * (x7 - 1)) + x8))))))))))))))) :
    Ev w Y_X9_take 0 [some (vR 55), some (vI a), some (vI b), some (vI c), none, none, none, none, none] [] h (rV K) := by
  have L2 : ∀ (n2 : Nat) (x4 : Int) (x5 : Int) (x6 : Int) (x7 : Int) (g2 : HP), I2 n2 x4 x5 x6 x7 g2 → Ev w Y_X9_take 84 [some (vR 55), some (vI a), some (vI b), some (vI c), some (vI x4), some (vI x5), some (vI x6), some (vI x7), none] [] g2 (rV K) := by
    intro n2
    induction n2 using Nat.strongRecOn with
    | ind n2 ih2 =>
      have L3 : ∀ (n3 : Nat) (x4 : Int) (x5 : Int) (x6 : Int) (x7 : Int) (x8 : Int) (g3 : HP), I3 n2 n3 x4 x5 x6 x7 x8 g3 → Ev w Y_X9_take 110 [some (vR 55), some (vI a), some (vI b), some (vI c), some (vI x4), some (vI x5), some (vI x6), some (vI x7), some (vI x8)] [] g3 (rV K) := by
        intro n3
        induction n3 using Nat.strongRecOn with
        | ind n3 ih3 =>
          intro x4 x5 x6 x7 x8 g3 H
          have H := H3 n2 n3 x4 x5 x6 x7 x8 g3 H
          refine e_iload (pc := 110) dX9_take_110 rfl ?_
          refine e_iconst (pc := 112) dX9_take_112 ⟨by decide, by decide⟩ ?_
          refine e_icmp_ge (pc := 113) (tgt := 148) dX9_take_113 (by decide) (fun c3 => ?_) (fun c3 => ?_)
          · have H := H.1 c3
            refine e_iinc (lv' := [some (vR 55), some (vI a), some (vI b), some (vI c), some (vI x4), some (vI x5), some (vI x6), some (vI (x7 + (-1))), some (vI x8)]) (pc := 148) dX9_take_148 rfl H.1 rfl rfl ?_
            have H := H.2
            refine e_goto (pc := 151) (tgt := 84) dX9_take_151 (by decide) ?_
            refine e_mask [true, true, true, true, true, true, true, true, false] rfl ?_
            obtain ⟨m, hm, H⟩ := H
            exact ih2 m hm _ _ _ _ _ H
          · have H := H.2 c3
            refine e_aload_n (pc := 116) dX9_take_116 rfl rfl ?_
            refine e_getR (q := 55) (ci := 9) (k := 25) (y := 73) (C := RX9) (T := TX9) (N := 52) (pc := 117) dX9_take_117 rfl rfl ev_in9 rfl ul_4_207 ⟨rfl, rfl⟩ rfl ?_
            refine e_iconst (pc := 120) dX9_take_120 ⟨by decide, by decide⟩ ?_
            refine e_iload (pc := 121) dX9_take_121 rfl ?_
            refine e_imul (pc := 123) dX9_take_123 H.1 ?_
            have H := H.2
            refine e_iload (pc := 124) dX9_take_124 rfl ?_
            refine e_iadd (pc := 126) dX9_take_126 H.1 ?_
            have H := H.2
            refine e_aload_n (pc := 127) dX9_take_127 rfl rfl ?_
            refine e_getR (q := 55) (ci := 9) (k := 25) (y := 73) (C := RX9) (T := TX9) (N := 52) (pc := 128) dX9_take_128 rfl rfl ev_in9 rfl ul_4_207 ⟨rfl, rfl⟩ rfl ?_
            refine e_iconst (pc := 131) dX9_take_131 ⟨by decide, by decide⟩ ?_
            refine e_iload (pc := 132) dX9_take_132 rfl ?_
            refine e_iconst (pc := 134) dX9_take_134 ⟨by decide, by decide⟩ ?_
            refine e_isub (pc := 135) dX9_take_135 H.1 ?_
            have H := H.2
            refine e_imul (pc := 136) dX9_take_136 H.1 ?_
            have H := H.2
            refine e_iload (pc := 137) dX9_take_137 rfl ?_
            refine e_iadd (pc := 139) dX9_take_139 H.1 ?_
            have H := H.2
            refine e_iald (q := 73) (x := (g3 73 ((3 * (x7 - 1)) + x8))) (pc := 140) dX9_take_140 rfl H.1 rfl ?_
            have H := H.2
            refine e_iast (q := 73) (pc := 141) dX9_take_141 rfl H.1 ?_
            have H := H.2
            refine e_iinc (lv' := [some (vR 55), some (vI a), some (vI b), some (vI c), some (vI x4), some (vI x5), some (vI x6), some (vI x7), some (vI (x8 + 1))]) (pc := 142) dX9_take_142 rfl H.1 rfl rfl ?_
            have H := H.2
            refine e_goto (pc := 145) (tgt := 110) dX9_take_145 (by decide) ?_
            obtain ⟨m, hm, H⟩ := H
            exact ih3 m hm _ _ _ _ _ _ H
      intro x4 x5 x6 x7 g2 H
      have H := H2 n2 x4 x5 x6 x7 g2 H
      refine e_iload (pc := 84) dX9_take_84 rfl ?_
      refine e_iload (pc := 86) dX9_take_86 rfl ?_
      refine e_icmp_le (pc := 88) (tgt := 154) dX9_take_88 (by decide) (fun c2 => ?_) (fun c2 => ?_)
      · have H := H.1 c2
        refine e_aload_n (pc := 154) dX9_take_154 rfl rfl ?_
        refine e_getR (q := 55) (ci := 9) (k := 24) (y := 72) (C := RX9) (T := TX9) (N := 52) (pc := 155) dX9_take_155 rfl rfl ev_in9 rfl ul_4_206 ⟨rfl, rfl⟩ rfl ?_
        refine e_iload (pc := 158) dX9_take_158 rfl ?_
        refine e_iload (pc := 160) dX9_take_160 rfl ?_
        refine e_iast (q := 72) (pc := 162) dX9_take_162 rfl H.1 ?_
        have H := H.2
        refine e_aload_n (pc := 163) dX9_take_163 rfl rfl ?_
        refine e_getR (q := 55) (ci := 9) (k := 25) (y := 73) (C := RX9) (T := TX9) (N := 52) (pc := 164) dX9_take_164 rfl rfl ev_in9 rfl ul_4_207 ⟨rfl, rfl⟩ rfl ?_
        refine e_iconst (pc := 167) dX9_take_167 ⟨by decide, by decide⟩ ?_
        refine e_iload (pc := 168) dX9_take_168 rfl ?_
        refine e_imul (pc := 170) dX9_take_170 H.1 ?_
        have H := H.2
        refine e_iload_n (pc := 171) dX9_take_171 rfl rfl ?_
        refine e_iast (q := 73) (pc := 172) dX9_take_172 rfl H.1 ?_
        have H := H.2
        refine e_aload_n (pc := 173) dX9_take_173 rfl rfl ?_
        refine e_getR (q := 55) (ci := 9) (k := 25) (y := 73) (C := RX9) (T := TX9) (N := 52) (pc := 174) dX9_take_174 rfl rfl ev_in9 rfl ul_4_207 ⟨rfl, rfl⟩ rfl ?_
        refine e_iconst (pc := 177) dX9_take_177 ⟨by decide, by decide⟩ ?_
        refine e_iload (pc := 178) dX9_take_178 rfl ?_
        refine e_imul (pc := 180) dX9_take_180 H.1 ?_
        have H := H.2
        refine e_iconst (pc := 181) dX9_take_181 ⟨by decide, by decide⟩ ?_
        refine e_iadd (pc := 182) dX9_take_182 H.1 ?_
        have H := H.2
        refine e_iload_n (pc := 183) dX9_take_183 rfl rfl ?_
        refine e_iast (q := 73) (pc := 184) dX9_take_184 rfl H.1 ?_
        have H := H.2
        refine e_aload_n (pc := 185) dX9_take_185 rfl rfl ?_
        refine e_getR (q := 55) (ci := 9) (k := 25) (y := 73) (C := RX9) (T := TX9) (N := 52) (pc := 186) dX9_take_186 rfl rfl ev_in9 rfl ul_4_207 ⟨rfl, rfl⟩ rfl ?_
        refine e_iconst (pc := 189) dX9_take_189 ⟨by decide, by decide⟩ ?_
        refine e_iload (pc := 190) dX9_take_190 rfl ?_
        refine e_imul (pc := 192) dX9_take_192 H.1 ?_
        have H := H.2
        refine e_iconst (pc := 193) dX9_take_193 ⟨by decide, by decide⟩ ?_
        refine e_iadd (pc := 194) dX9_take_194 H.1 ?_
        have H := H.2
        refine e_iload_n (pc := 195) dX9_take_195 rfl rfl ?_
        refine e_iast (q := 73) (pc := 196) dX9_take_196 rfl H.1 ?_
        have H := H.2
        refine e_aload_n (pc := 197) dX9_take_197 rfl rfl ?_
        refine e_iload (pc := 198) dX9_take_198 rfl ?_
        refine e_iconst (pc := 200) dX9_take_200 ⟨by decide, by decide⟩ ?_
        refine e_iadd (pc := 201) dX9_take_201 H.1 ?_
        have H := H.2
        refine e_put (q := 55) (ci := 9) (k := 23) (kz := 23) (C := RX9) (T := TX9) (N := 52) (ty := .int) (pc := 202) dX9_take_202 rfl rfl rfl ev_in9 tyX9 tyX9_ok nmX9 rfl ul_4_205 ⟨rfl, by decide⟩ rfl (tyX9_ok 23 (by decide)) (Or.inl rfl) ?_
        exact e_ret (pc := 205) (v := none) dX9_take_205 rfl trivial ⟨rfl, H⟩
      · have H := H.2 c2
        refine e_aload_n (pc := 91) dX9_take_91 rfl rfl ?_
        refine e_getR (q := 55) (ci := 9) (k := 24) (y := 72) (C := RX9) (T := TX9) (N := 52) (pc := 92) dX9_take_92 rfl rfl ev_in9 rfl ul_4_206 ⟨rfl, rfl⟩ rfl ?_
        refine e_iload (pc := 95) dX9_take_95 rfl ?_
        refine e_aload_n (pc := 97) dX9_take_97 rfl rfl ?_
        refine e_getR (q := 55) (ci := 9) (k := 24) (y := 72) (C := RX9) (T := TX9) (N := 52) (pc := 98) dX9_take_98 rfl rfl ev_in9 rfl ul_4_206 ⟨rfl, rfl⟩ rfl ?_
        refine e_iload (pc := 101) dX9_take_101 rfl ?_
        refine e_iconst (pc := 103) dX9_take_103 ⟨by decide, by decide⟩ ?_
        refine e_isub (pc := 104) dX9_take_104 H.1 ?_
        have H := H.2
        refine e_iald (q := 72) (x := (g2 72 (x7 - 1))) (pc := 105) dX9_take_105 rfl H.1 rfl ?_
        have H := H.2
        refine e_iast (q := 72) (pc := 106) dX9_take_106 rfl H.1 ?_
        have H := H.2
        refine e_iconst (pc := 107) dX9_take_107 ⟨by decide, by decide⟩ ?_
        refine e_istore (lv' := [some (vR 55), some (vI a), some (vI b), some (vI c), some (vI x4), some (vI x5), some (vI x6), some (vI x7), some (vI 0)]) (pc := 108) dX9_take_108 rfl rfl ?_
        obtain ⟨m, H⟩ := H
        exact L3 m _ _ _ _ _ _ H
  have L1 : ∀ (n1 : Nat) (x4 : Int) (x5 : Int) (g1 : HP), I1 n1 x4 x5 g1 → Ev w Y_X9_take 27 [some (vR 55), some (vI a), some (vI b), some (vI c), some (vI x4), some (vI x5), none, none, none] [] g1 (rV K) := by
    intro n1
    induction n1 using Nat.strongRecOn with
    | ind n1 ih1 =>
      intro x4 x5 g1 H
      have H := H1 n1 x4 x5 g1 H
      refine e_iload (pc := 27) dX9_take_27 rfl ?_
      have Ho := H.1
      have H := H.2
      have J1 : ((x5 ≤ 0) ∨ ((g1 72 (x5 - 1)) ≤ x4)) → Ev w Y_X9_take 52 [some (vR 55), some (vI a), some (vI b), some (vI c), some (vI x4), some (vI x5), none, none, none] [] g1 (rV K) := by
        intro hp
        have H := H.1 hp
        refine e_iload (pc := 52) dX9_take_52 rfl ?_
        refine e_bipush (pc := 54) dX9_take_54 ⟨by decide, by decide⟩ (by decide) ?_
        refine e_icmp_ne (pc := 56) (tgt := 60) dX9_take_56 (by decide) (fun c4 => ?_) (fun c4 => ?_)
        · have H := H.1 c4
          refine e_aload_n (pc := 60) dX9_take_60 rfl rfl ?_
          refine e_getI (q := 55) (ci := 9) (k := 23) (kz := 23) (C := RX9) (T := TX9) (N := 52) (x := (g1 55 23)) (pc := 61) dX9_take_61 rfl rfl rfl ev_in9 rfl ul_4_205 ⟨rfl, by decide⟩ rfl ?_
          refine e_bipush (pc := 64) dX9_take_64 ⟨by decide, by decide⟩ (by decide) ?_
          have J : Ev w Y_X9_take 78 [some (vR 55), some (vI a), some (vI b), some (vI c), some (vI x4), some (vI x5), none, none, none] [vI (cif (12 ≤ (g1 55 23)) 11 (g1 55 23))] g1 (rV K) := by
            refine e_istore (lv' := [some (vR 55), some (vI a), some (vI b), some (vI c), some (vI x4), some (vI x5), some (vI (cif (12 ≤ (g1 55 23)) 11 (g1 55 23))), none, none]) (pc := 78) dX9_take_78 rfl rfl ?_
            refine e_iload (pc := 80) dX9_take_80 rfl ?_
            refine e_istore (lv' := [some (vR 55), some (vI a), some (vI b), some (vI c), some (vI x4), some (vI x5), some (vI (cif (12 ≤ (g1 55 23)) 11 (g1 55 23))), some (vI (cif (12 ≤ (g1 55 23)) 11 (g1 55 23))), none]) (pc := 82) dX9_take_82 rfl rfl ?_
            obtain ⟨m, H⟩ := H
            exact L2 m _ _ _ _ _ H
          refine e_icmp_ge (pc := 66) (tgt := 76) dX9_take_66 (by decide) (fun c5 => ?_) (fun c5 => ?_)
          · refine e_bipush (pc := 76) dX9_take_76 ⟨by decide, by decide⟩ (by decide) ?_
            exact e_top (cif_t c5) J
          · refine e_aload_n (pc := 69) dX9_take_69 rfl rfl ?_
            refine e_getI (q := 55) (ci := 9) (k := 23) (kz := 23) (C := RX9) (T := TX9) (N := 52) (x := (g1 55 23)) (pc := 70) dX9_take_70 rfl rfl rfl ev_in9 rfl ul_4_205 ⟨rfl, by decide⟩ rfl ?_
            refine e_goto (pc := 73) (tgt := 78) dX9_take_73 (by decide) ?_
            exact e_top (cif_f c5) J
        · have H := H.2 c4
          exact e_ret (pc := 59) (v := none) dX9_take_59 rfl trivial ⟨rfl, H⟩
      have J2 : ¬ ((x5 ≤ 0) ∨ ((g1 72 (x5 - 1)) ≤ x4)) → Ev w Y_X9_take 46 [some (vR 55), some (vI a), some (vI b), some (vI c), some (vI x4), some (vI x5), none, none, none] [] g1 (rV K) := by
        intro hp
        have H := H.2 hp
        refine e_iinc (lv' := [some (vR 55), some (vI a), some (vI b), some (vI c), some (vI x4), some (vI (x5 + (-1))), none, none, none]) (pc := 46) dX9_take_46 rfl H.1 rfl rfl ?_
        have H := H.2
        refine e_goto (pc := 49) (tgt := 27) dX9_take_49 (by decide) ?_
        obtain ⟨m, hm, H⟩ := H
        exact ih1 m hm _ _ _ H
      refine e_if_le (pc := 29) (tgt := 52) dX9_take_29 (by decide) (fun c6 => ?_) (fun c6 => ?_)
      · have Ho := Ho.1 c6
        exact J1 (Or.inl c6)
      · have Ho := Ho.2 c6
        refine e_aload_n (pc := 32) dX9_take_32 rfl rfl ?_
        refine e_getR (q := 55) (ci := 9) (k := 24) (y := 72) (C := RX9) (T := TX9) (N := 52) (pc := 33) dX9_take_33 rfl rfl ev_in9 rfl ul_4_206 ⟨rfl, rfl⟩ rfl ?_
        refine e_iload (pc := 36) dX9_take_36 rfl ?_
        refine e_iconst (pc := 38) dX9_take_38 ⟨by decide, by decide⟩ ?_
        refine e_isub (pc := 39) dX9_take_39 Ho.1 ?_
        have Ho := Ho.2
        refine e_iald (q := 72) (x := (g1 72 (x5 - 1))) (pc := 40) dX9_take_40 rfl Ho.1 rfl ?_
        have Ho := Ho.2
        refine e_iload (pc := 41) dX9_take_41 rfl ?_
        refine e_icmp_le (pc := 43) (tgt := 52) dX9_take_43 (by decide) (fun c7 => ?_) (fun c7 => ?_)
        · exact J1 (Or.inr c7)
        · exact J2 (fun z => z.elim c6 c7)
  refine e_aload_n (pc := 0) dX9_take_0 rfl rfl ?_
  refine e_iload_n (pc := 1) dX9_take_1 rfl rfl ?_
  refine e_iload_n (pc := 2) dX9_take_2 rfl rfl ?_
  refine e_iload_n (pc := 3) dX9_take_3 rfl rfl ?_
  refine e_invV (pc := 4) (Y' := Y_X9_priceOf) (as := [vI a, vI b, vI c]) (st := []) (lv0 := [some (vR 55), some (vI a), some (vI b), some (vI c), none, none, none, none, none]) (q := 55) (ci := 9) (T := TX9) (N := 52) dX9_take_4 m_X9_priceOf ul_5_206 ⟨ul_5_208, us_X9_priceOf⟩ ⟨rfl, rfl⟩ rfl rfl rfl rfl rfl rfl rfl (c_X9_priceOf w a b c h _ H) ?_
  rintro _ h21 ⟨r21, rfl, H⟩
  show Ev w Y_X9_take 7 [some (vR 55), some (vI a), some (vI b), some (vI c), none, none, none, none, none] [vI r21] h21 (rV K)
  refine e_istore (lv' := [some (vR 55), some (vI a), some (vI b), some (vI c), some (vI r21), none, none, none, none]) (pc := 7) dX9_take_7 rfl rfl ?_
  refine e_iload (pc := 9) dX9_take_9 rfl ?_
  refine e_aload_n (pc := 11) dX9_take_11 rfl rfl ?_
  refine e_getR (q := 55) (ci := 9) (k := 15) (y := 68) (C := RX9) (T := TX9) (N := 52) (pc := 12) dX9_take_12 rfl rfl ev_in9 rfl ul_4_197 ⟨rfl, rfl⟩ rfl ?_
  refine e_iconst (pc := 15) dX9_take_15 ⟨by decide, by decide⟩ ?_
  refine e_iald (q := 68) (x := (h21 68 0)) (pc := 16) dX9_take_16 rfl ⟨by decide, by decide⟩ rfl ?_
  refine e_icmp_le (pc := 17) (tgt := 21) dX9_take_17 (by decide) (fun c1 => ?_) (fun c1 => ?_)
  · have H := H.1 c1
    refine e_aload_n (pc := 21) dX9_take_21 rfl rfl ?_
    refine e_getI (q := 55) (ci := 9) (k := 23) (kz := 23) (C := RX9) (T := TX9) (N := 52) (x := (h21 55 23)) (pc := 22) dX9_take_22 rfl rfl rfl ev_in9 rfl ul_4_205 ⟨rfl, by decide⟩ rfl ?_
    refine e_istore (lv' := [some (vR 55), some (vI a), some (vI b), some (vI c), some (vI r21), some (vI (h21 55 23)), none, none, none]) (pc := 25) dX9_take_25 rfl rfl ?_
    obtain ⟨m, H⟩ := H
    exact L1 m _ _ _ H
  · have H := H.2 c1
    exact e_ret (pc := 20) (v := none) dX9_take_20 rfl trivial ⟨rfl, H⟩
set_option maxRecDepth 100000 in
set_option maxHeartbeats 4000000 in
theorem c_X9_take (w : WD) (a : Int) (b : Int) (c : Int) (h : HP) (K : HP → Prop)  (H : S_X9_take a b c h K) : Ev w Y_X9_take 0 [some (vR 55), some (vI a), some (vI b), some (vI c), none, none, none, none, none] [] h (rV K) := by
  obtain ⟨⟨sz, P, A, B, C⟩, c', ⟨hV, hH, ⟨hz, h12, hrep⟩, ha, hb, hc, rfl⟩, HK⟩ := H
  simp only at hz h12 hrep
  generalize hp : prM h a b c' = p at HK
  have hpl := plN_le P p sz
  refine v_X9_take w a b (nc c') h K (fun n x4 x5 g => x4 = p ∧ p ≤ h 68 0 ∧ ∃ k : Nat, x5 = (k : Int) ∧ k = n ∧ k ≤ sz ∧ frT h g ∧ g 72 = h 72 ∧ g 73 = h 73 ∧ g 55 23 = (sz : Int) ∧ plN P p sz = plN P p k)
    (fun n x4 x5 x6 x7 g => x4 = p ∧ p ≤ h 68 0 ∧ ∃ k s : Nat, x5 = (k : Int) ∧ k = plN P p sz ∧ k < 12 ∧ s + 1 = min (sz + 1) 12 ∧ x6 = (s : Int) ∧ ((k : Int) ≤ x7 ∧ x7 ≤ (s : Int)) ∧ n = x7.toNat ∧ frT h g ∧ (∀ i : Int, 0 ≤ i → i ≤ x7 → i < (sz : Int) → g 72 i = P i ∧ g 73 (3 * i) = A i ∧ g 73 (3 * i + 1) = B i ∧ g 73 (3 * i + 2) = nc (C i)) ∧ (∀ i : Int, x7 < i → i ≤ (s : Int) → g 72 i = P (i - 1) ∧ g 73 (3 * i) = A (i - 1) ∧ g 73 (3 * i + 1) = B (i - 1) ∧ g 73 (3 * i + 2) = nc (C (i - 1))))
    (fun n2 n3 x4 x5 x6 x7 x8 g => x4 = p ∧ p ≤ h 68 0 ∧ ∃ k s : Nat, x5 = (k : Int) ∧ k = plN P p sz ∧ k < 12 ∧ s + 1 = min (sz + 1) 12 ∧ x6 = (s : Int) ∧ ((k : Int) < x7 ∧ x7 ≤ (s : Int)) ∧ n2 = x7.toNat ∧ (0 ≤ x8 ∧ x8 ≤ 3) ∧ n3 = (3 - x8).toNat ∧ frT h g ∧ (∀ i : Int, 0 ≤ i → i < x7 → i < (sz : Int) → g 72 i = P i ∧ g 73 (3 * i) = A i ∧ g 73 (3 * i + 1) = B i ∧ g 73 (3 * i + 2) = nc (C i)) ∧ (∀ i : Int, x7 < i → i ≤ (s : Int) → g 72 i = P (i - 1) ∧ g 73 (3 * i) = A (i - 1) ∧ g 73 (3 * i + 1) = B (i - 1) ∧ g 73 (3 * i + 2) = nc (C (i - 1))) ∧ g 72 x7 = P (x7 - 1) ∧ (∀ y : Int, 0 ≤ y → y < x8 → g 73 (3 * x7 + y) = g 73 (3 * (x7 - 1) + y)))
    ⟨⟨hV, hH, ha, hb, ?_⟩, fun r h1 f1 f2 f3 => ⟨fun z => ?_, fun z => ?_⟩⟩ ?_ ?_ ?_
  · unfold nc; split <;> omega
  · rw [prR_nc] at f3
    have hr : r = p := by rw [f3, ← hp]; rfl
    subst hr
    rw [f1 68 (by decide) (by decide) (by decide)] at z
    exact ⟨sz, rfl, z, sz, by rw [f2 23 (by decide), hz], rfl, Nat.le_refl _, ⟨fun q _ _ a3 a4 a5 => f1 q a3 a4 a5, fun i _ a => f2 i a⟩, f1 72 (by decide) (by decide) (by decide), f1 73 (by decide) (by decide) (by decide), by rw [f2 23 (by decide), hz], rfl⟩
  · rw [prR_nc] at f3
    have hr : r = p := by rw [f3, ← hp]; rfl
    subst hr
    rw [f1 68 (by decide) (by decide) (by decide)] at z
    refine HK h1 ⟨fun q _ _ a3 a4 a5 => f1 q a3 a4 a5, fun i _ a => f2 i a⟩ ?_
    rw [if_neg z]
    exact rpM_c (f2 23 (by decide)) (f1 72 (by decide) (by decide) (by decide)) (f1 73 (by decide) (by decide) (by decide)) ⟨hz, h12, hrep⟩
  · rintro n x4 x5 g ⟨rfl, hle, k, rfl, rfl, hk, hf, e72, e73, e23, hpk⟩
    rw [e72, e23]
    refine ⟨⟨fun _ => trivial, fun _ => ⟨⟨by omega, by omega⟩, by omega, trivial⟩⟩, fun z => ?_, fun z => ⟨⟨by omega, by omega⟩, k - 1, by omega, rfl, hle, k - 1, by omega, rfl, by omega, hf, rfl, e73, rfl, ?_⟩⟩
    · have hpk' : plN P x4 sz = k := by
        rw [hpk]
        cases k with
        | zero => rfl
        | succ k =>
          simp only [plN]
          rw [if_neg]
          intro y
          rcases z with z | z
          · omega
          · have := (hrep (k : Int) (by omega) (by omega)).1
            rw [show ((k + 1 : Nat) : Int) - 1 = (k : Int) by omega, this] at z
            omega
      refine ⟨fun y => ?_, fun y => HK g hf ?_⟩
      · by_cases c12 : (12 : Int) ≤ (sz : Int)
        · rw [cif_t c12]
          exact ⟨11, rfl, hle, k, 11, rfl, hpk'.symm, by omega, by omega, rfl, ⟨by omega, by omega⟩, rfl, hf, fun i i0 i1 i2 => by rw [e73]; exact hrep i i0 i2, fun i i0 i1 => absurd i1 (by omega)⟩
        · rw [cif_f c12]
          exact ⟨sz, rfl, hle, k, sz, rfl, hpk'.symm, by omega, by omega, rfl, ⟨by omega, by omega⟩, by omega, hf, fun i i0 i1 i2 => by rw [e73]; exact hrep i i0 i2, fun i i0 i1 => absurd i1 (by omega)⟩
      · rw [if_pos hle]
        unfold ofr
        simp only
        rw [if_pos (by omega)]
        exact rpM_c (by rw [e23, hz]) e72 e73 ⟨hz, h12, hrep⟩
    · rw [hpk]
      obtain ⟨j, rfl⟩ : ∃ j, k = j + 1 := ⟨k - 1, by omega⟩
      have := (hrep (j : Int) (by omega) (by omega)).1
      rw [show ((j + 1 : Nat) : Int) - 1 = (j : Int) by omega, this] at z
      simp only [plN, Nat.add_sub_cancel]
      rw [if_pos (by omega)]
  · rintro n x4 x5 x6 x7 g ⟨rfl, hle, k, s, rfl, hk, hk12, hs, rfl, h7, rfl, hf, f4, f5⟩
    refine ⟨fun z => ⟨by omega, ⟨by omega, by omega⟩, by omega, ⟨by omega, by omega⟩, ⟨by omega, by omega⟩, by omega, ⟨by omega, by omega⟩, ⟨by omega, by omega⟩, by omega, ⟨by omega, by omega⟩, HK _ ⟨fun q a1 a2 a3 a4 a5 => ?_, fun i a1 a2 => ?_⟩ ?_⟩, fun z => ?_⟩
    · rw [sth_ne a5, sth_ne a2, sth_ne a2, sth_ne a2, sth_ne a1]; exact hf.1 q a1 a2 a3 a4 a5
    · rw [sth_eq, us_n a1, sth_ne (by decide), sth_ne (by decide), sth_ne (by decide), sth_ne (by decide)]; exact hf.2 i a1 a2
    · have e7 : x7 = (k : Int) := by omega
      subst e7
      rw [if_pos hle]
      unfold ofr
      simp only
      rw [if_neg (by omega), ← hk]
      refine ⟨by rw [sth_eq, us_s]; omega, by omega, fun i i0 i1 => ?_⟩
      simp only at i1 ⊢
      rw [sth_ne (by decide), sth_ne (by decide), sth_ne (by decide), sth_ne (by decide), sth_eq, sth_ne (by decide), sth_eq, sth_eq, sth_eq, sth_ne (by decide)]
      refine ⟨ins_row (n := (s : Int) + 1) (fun i j0 j1 => (f4 i j0 (by omega) (by omega)).1) (fun i j0 j1 => (f5 i j0 (by omega)).1) i i0 (by omega), ?_⟩
      unfold insF
      by_cases e : i = (k : Int)
      · subst e
        rw [if_neg (show ¬ (k : Int) < (k : Int) by omega), if_neg (show ¬ (k : Int) < (k : Int) by omega), if_neg (show ¬ (k : Int) < (k : Int) by omega), if_pos rfl, if_pos rfl, if_pos rfl, us_n (by omega), us_n (by omega), us_s, us_n (by omega), us_s, us_s]
        exact ⟨rfl, rfl, rfl⟩
      · rw [us_n (by omega), us_n (by omega), us_n (by omega), us_n (by omega), us_n (by omega), us_n (by omega), us_n (by omega), us_n (by omega), us_n (by omega)]
        by_cases e2 : i < (k : Int)
        · rw [if_pos e2, if_pos e2, if_pos e2]; exact (f4 i i0 (by omega) (by omega)).2
        · rw [if_neg e2, if_neg e2, if_neg e2, if_neg e, if_neg e, if_neg e]; exact (f5 i (by omega) (by omega)).2
    · have h1 := f4 (x7 - 1) (by omega) (by omega) (by omega)
      refine ⟨⟨by omega, by omega⟩, by omega, by omega, 3, rfl, hle, k, s, rfl, hk, hk12, hs, rfl, ⟨by omega, by omega⟩, rfl, ⟨by omega, by omega⟩, rfl, ⟨fun q a1 a2 a3 a4 a5 => by rw [sth_ne a1]; exact hf.1 q a1 a2 a3 a4 a5, fun i a1 a2 => by rw [sth_ne (by decide)]; exact hf.2 i a1 a2⟩, fun i i0 i1 i2 => ?_, fun i i0 i1 => ?_, ?_, fun y y0 y1 => absurd y1 (by omega)⟩
      · rw [sth_eq, sth_ne (by decide), us_n (by omega)]; exact f4 i i0 (by omega) i2
      · rw [sth_eq, sth_ne (by decide), us_n (by omega)]; exact f5 i i0 i1
      · rw [sth_eq, us_s]; exact h1.1
  · rintro n2 n3 x4 x5 x6 x7 x8 g ⟨rfl, hle, k, s, rfl, hk, hk12, hs, rfl, h7, rfl, h8, rfl, hf, f4, f5, f6, f7⟩
    refine ⟨fun z => ⟨⟨by omega, by omega⟩, (x7 + -1).toNat, by omega, rfl, hle, k, s, rfl, hk, hk12, hs, rfl, ⟨by omega, by omega⟩, rfl, hf, fun i i0 i1 i2 => f4 i i0 (by omega) i2, fun i i0 i1 => ?_⟩, fun z => ⟨⟨by omega, by omega⟩, ⟨by omega, by omega⟩, ⟨by omega, by omega⟩, ⟨by omega, by omega⟩, ⟨by omega, by omega⟩, by omega, by omega, ⟨by omega, by omega⟩, (3 - (x8 + 1)).toNat, by omega, rfl, hle, k, s, rfl, hk, hk12, hs, rfl, h7, rfl, ⟨by omega, by omega⟩, rfl, ⟨fun q a1 a2 a3 a4 a5 => by rw [sth_ne a2]; exact hf.1 q a1 a2 a3 a4 a5, fun i a1 a2 => by rw [sth_ne (by decide)]; exact hf.2 i a1 a2⟩, fun i i0 i1 i2 => ?_, fun i i0 i1 => ?_, ?_, fun y y0 y1 => ?_⟩⟩
    · by_cases e : i = x7
      · subst e
        have h1 := f4 (i - 1) (by omega) (by omega) (by omega)
        have y0 := f7 0 (by omega) (by omega)
        have y1 := f7 1 (by omega) (by omega)
        have y2 := f7 2 (by omega) (by omega)
        rw [Int.add_zero, Int.add_zero] at y0
        rw [y0, y1, y2]
        exact ⟨f6, h1.2⟩
      · exact f5 i (by omega) i1
    · rw [sth_ne (by decide), sth_eq, us_n (by omega), us_n (by omega), us_n (by omega)]; exact f4 i i0 i1 i2
    · rw [sth_ne (by decide), sth_eq, us_n (by omega), us_n (by omega), us_n (by omega)]; exact f5 i i0 i1
    · rw [sth_ne (by decide)]; exact f6
    · rw [sth_eq, us_n (show 3 * (x7 - 1) + y ≠ 3 * x7 + x8 by omega)]
      by_cases e : y = x8
      · subst e; rw [us_s]
      · rw [us_n (by omega)]; exact f7 y y0 (by omega)
