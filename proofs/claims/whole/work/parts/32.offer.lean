/-! readings: insertion by price, the order of rows -/
def plN (P : Int → Int) (p : Int) : Nat → Nat
  | 0 => 0
  | k + 1 => if p < P (k : Int) then plN P p k else k + 1
def insF (f : Int → Int) (pl v : Int) : Int → Int := fun i => if i < pl then f i else if i = pl then v else f (i - 1)
abbrev RD : Type := Nat × (Int → Int) × (Int → Int) × (Int → Int) × (Int → Int)
def ofr (R : RD) (p a b c : Int) : RD := if 12 ≤ plN R.2.1 p R.1 then R else (min (R.1 + 1) 12, insF R.2.1 (plN R.2.1 p R.1 : Int) p, insF R.2.2.1 (plN R.2.1 p R.1 : Int) a, insF R.2.2.2.1 (plN R.2.1 p R.1 : Int) b, insF R.2.2.2.2 (plN R.2.1 p R.1 : Int) c)
theorem plN_le (P : Int → Int) (p : Int) : ∀ k, plN P p k ≤ k
  | 0 => Nat.le_refl 0
  | k + 1 => by
    have := plN_le P p k
    simp only [plN]
    split <;> omega
theorem plN_c {P P' : Int → Int} {p : Int} : ∀ {k : Nat}, (∀ i : Int, 0 ≤ i → i < (k : Int) → P i = P' i) → plN P p k = plN P' p k
  | 0, _ => rfl
  | k + 1, h => by
    simp only [plN]
    rw [h (k : Int) (by omega) (by omega), plN_c (k := k) (fun i a b => h i a (by omega))]
def rl3 (KD : Int → Int) (pr : Int → Int → Int → Int) (lim a b : Int) : Nat → RD → RD
  | 0, R => R
  | k + 1, R => if KD (k : Int) = 2 ∧ pr a b (k : Int) ≤ lim then ofr (rl3 KD pr lim a b k R) (pr a b (k : Int)) a b (k : Int) else rl3 KD pr lim a b k R
def rl2 (KD : Int → Int) (pr : Int → Int → Int → Int) (lim a : Int) (N : Nat) : Nat → RD → RD
  | 0, R => R
  | k + 1, R => if KD (k : Int) = 1 then rl3 KD pr lim a (k : Int) N (if pr a (k : Int) (-1) ≤ lim then ofr (rl2 KD pr lim a N k R) (pr a (k : Int) (-1)) a (k : Int) (-1) else rl2 KD pr lim a N k R) else if KD (k : Int) = 3 ∧ pr a (k : Int) (-1) ≤ lim then ofr (rl2 KD pr lim a N k R) (pr a (k : Int) (-1)) a (k : Int) (-1) else rl2 KD pr lim a N k R
def rl1 (KD : Int → Int) (pr : Int → Int → Int → Int) (lim : Int) (N : Nat) : Nat → RD → RD
  | 0, R => R
  | k + 1, R => if KD (k : Int) = 0 then rl2 KD pr lim (k : Int) N N (rl1 KD pr lim N k R) else rl1 KD pr lim N k R
/-- the class holds these readings -/
def rpC (h : HP) (R : RD) : Prop := h 4 15 = (R.1 : Int) ∧ R.1 ≤ 12 ∧ ∀ i : Int, 0 ≤ i → i < (R.1 : Int) → h 26 i = R.2.1 i ∧ h 27 i = R.2.2.1 i ∧ h 28 i = R.2.2.2.1 i ∧ h 29 i = R.2.2.2.2 i
theorem rpC_c {h h' : HP} {R : RD} (h1 : h' 4 15 = h 4 15) (h2 : h' 26 = h 26) (h3 : h' 27 = h 27) (h4 : h' 28 = h 28) (h5 : h' 29 = h 29) (hr : rpC h R) : rpC h' R := by unfold rpC; rw [h1, h2, h3, h4, h5]; exact hr
def S_X3_offer (p a b c : Int) (h : HP) (K : HP → Prop) : Prop := ∃ R : RD, rpC h R ∧ ∀ h' : HP, (∀ q, q ≠ 26 → q ≠ 27 → q ≠ 28 → q ≠ 29 → q ≠ 4 → h' q = h q) → (∀ i : Int, i ≠ 15 → h' 4 i = h 4 i) → rpC h' (ofr R p a b c) → K h'
theorem ins_row {f g : Int → Int} {pl n : Int} {v : Int} (hg1 : ∀ i : Int, 0 ≤ i → i < pl → g i = f i) (hg2 : ∀ i : Int, pl < i → i < n → g i = f (i - 1)) : ∀ i : Int, 0 ≤ i → i < n → us g pl v i = insF f pl v i := fun i a b => by
  unfold us insF
  by_cases e : i = pl
  · rw [if_pos e, if_neg (by omega), if_pos e]
  · rw [if_neg e]
    by_cases e2 : i < pl
    · rw [if_pos e2]; exact hg1 i a e2
    · rw [if_neg e2, if_neg e]; exact hg2 i (by omega) b
set_option maxRecDepth 100000 in
set_option maxHeartbeats 4000000 in
theorem v_X3_offer (w : WD) (p : Int) (a : Int) (b : Int) (c : Int) (h : HP) (K : HP → Prop) 
    (I1 : Nat → Int → HP → Prop)
    (I2 : Nat → Int → Int → HP → Prop)
    (H : (∃ m : Nat, I1 m (h 4 15) h))
    (H1 : ∀ (n1 : Nat) (x5 : Int) (g1 : HP), I1 n1 x5 g1 → ((((x5 ≤ 0 → True) ∧ (¬ x5 ≤ 0 → ((iR (x5 - 1)) ∧ ((0 ≤ (x5 - 1) ∧ (x5 - 1) < 12) ∧ True))))) ∧ ((((x5 ≤ 0) ∨ ((g1 26 (x5 - 1)) ≤ p)) → ((x5 < 12 → ((12 ≤ (g1 4 15) → ((iR ((g1 4 15) - 1)) ∧ (∃ m : Nat, I2 m x5 ((g1 4 15) - 1) g1))) ∧ (¬ 12 ≤ (g1 4 15) → ((iR ((g1 4 15) + 1)) ∧ ((iR (((g1 4 15) + 1) - 1)) ∧ (∃ m : Nat, I2 m x5 (((g1 4 15) + 1) - 1) (sth g1 4 15 ((g1 4 15) + 1)))))))) ∧ (¬ x5 < 12 → K g1))) ∧ (¬ ((x5 ≤ 0) ∨ ((g1 26 (x5 - 1)) ≤ p)) → ((iR (x5 + (-1))) ∧ (∃ m : Nat, m < n1 ∧ I1 m (x5 + (-1)) g1))))))
    (H2 : ∀ (n2 : Nat) (x5 : Int) (x6 : Int) (g2 : HP), I2 n2 x5 x6 g2 → ((x6 ≤ x5 → ((0 ≤ x5 ∧ x5 < 12) ∧ ((0 ≤ x5 ∧ x5 < 12) ∧ ((0 ≤ x5 ∧ x5 < 12) ∧ ((0 ≤ x5 ∧ x5 < 12) ∧ K (sth (sth (sth (sth g2 26 x5 p) 27 x5 a) 28 x5 b) 29 x5 c)))))) ∧ (¬ x6 ≤ x5 → ((iR (x6 - 1)) ∧ ((0 ≤ (x6 - 1) ∧ (x6 - 1) < 12) ∧ ((0 ≤ x6 ∧ x6 < 12) ∧ ((iR (x6 - 1)) ∧ ((0 ≤ (x6 - 1) ∧ (x6 - 1) < 12) ∧ ((0 ≤ x6 ∧ x6 < 12) ∧ ((iR (x6 - 1)) ∧ ((0 ≤ (x6 - 1) ∧ (x6 - 1) < 12) ∧ ((0 ≤ x6 ∧ x6 < 12) ∧ ((iR (x6 - 1)) ∧ ((0 ≤ (x6 - 1) ∧ (x6 - 1) < 12) ∧ ((0 ≤ x6 ∧ x6 < 12) ∧ ((iR (x6 + (-1))) ∧ (∃ m : Nat, m < n2 ∧ I2 m x5 (x6 + (-1)) (sth (sth (sth (sth g2 26 x6 (g2 26 (x6 - 1))) 27 x6 (g2 27 (x6 - 1))) 28 x6 (g2 28 (x6 - 1))) 29 x6 (g2 29 (x6 - 1)))))))))))))))))))) :
    Ev w Y_X3_offer 0 [some (vR 4), some (vI p), some (vI a), some (vI b), some (vI c), none, none] [] h (rV K) := by
  have L2 : ∀ (n2 : Nat) (x5 : Int) (x6 : Int) (g2 : HP), I2 n2 x5 x6 g2 → Ev w Y_X3_offer 65 [some (vR 4), some (vI p), some (vI a), some (vI b), some (vI c), some (vI x5), some (vI x6)] [] g2 (rV K) := by
    intro n2
    induction n2 using Nat.strongRecOn with
    | ind n2 ih2 =>
      intro x5 x6 g2 H
      have H := H2 n2 x5 x6 g2 H
      refine e_iload (pc := 65) dX3_offer_65 rfl ?_
      refine e_iload (pc := 67) dX3_offer_67 rfl ?_
      refine e_icmp_le (pc := 69) (tgt := 142) dX3_offer_69 (by decide) (fun c1 => ?_) (fun c1 => ?_)
      · have H := H.1 c1
        refine e_aload_n (pc := 142) dX3_offer_142 rfl rfl ?_
        refine e_getR (q := 4) (ci := 3) (k := 2) (y := 26) (C := RX3) (T := TX3) (N := 16) (pc := 143) dX3_offer_143 rfl rfl ev_in3 rfl ul_1_153 ⟨rfl, rfl⟩ rfl ?_
        refine e_iload (pc := 146) dX3_offer_146 rfl ?_
        refine e_iload_n (pc := 148) dX3_offer_148 rfl rfl ?_
        refine e_iast (q := 26) (pc := 149) dX3_offer_149 rfl H.1 ?_
        have H := H.2
        refine e_aload_n (pc := 150) dX3_offer_150 rfl rfl ?_
        refine e_getR (q := 4) (ci := 3) (k := 3) (y := 27) (C := RX3) (T := TX3) (N := 16) (pc := 151) dX3_offer_151 rfl rfl ev_in3 rfl ul_1_154 ⟨rfl, rfl⟩ rfl ?_
        refine e_iload (pc := 154) dX3_offer_154 rfl ?_
        refine e_iload_n (pc := 156) dX3_offer_156 rfl rfl ?_
        refine e_iast (q := 27) (pc := 157) dX3_offer_157 rfl H.1 ?_
        have H := H.2
        refine e_aload_n (pc := 158) dX3_offer_158 rfl rfl ?_
        refine e_getR (q := 4) (ci := 3) (k := 4) (y := 28) (C := RX3) (T := TX3) (N := 16) (pc := 159) dX3_offer_159 rfl rfl ev_in3 rfl ul_1_156 ⟨rfl, rfl⟩ rfl ?_
        refine e_iload (pc := 162) dX3_offer_162 rfl ?_
        refine e_iload_n (pc := 164) dX3_offer_164 rfl rfl ?_
        refine e_iast (q := 28) (pc := 165) dX3_offer_165 rfl H.1 ?_
        have H := H.2
        refine e_aload_n (pc := 166) dX3_offer_166 rfl rfl ?_
        refine e_getR (q := 4) (ci := 3) (k := 5) (y := 29) (C := RX3) (T := TX3) (N := 16) (pc := 167) dX3_offer_167 rfl rfl ev_in3 rfl ul_1_157 ⟨rfl, rfl⟩ rfl ?_
        refine e_iload (pc := 170) dX3_offer_170 rfl ?_
        refine e_iload (pc := 172) dX3_offer_172 rfl ?_
        refine e_iast (q := 29) (pc := 174) dX3_offer_174 rfl H.1 ?_
        have H := H.2
        exact e_ret (pc := 175) (v := none) dX3_offer_175 rfl trivial ⟨rfl, H⟩
      · have H := H.2 c1
        refine e_aload_n (pc := 72) dX3_offer_72 rfl rfl ?_
        refine e_getR (q := 4) (ci := 3) (k := 2) (y := 26) (C := RX3) (T := TX3) (N := 16) (pc := 73) dX3_offer_73 rfl rfl ev_in3 rfl ul_1_153 ⟨rfl, rfl⟩ rfl ?_
        refine e_iload (pc := 76) dX3_offer_76 rfl ?_
        refine e_aload_n (pc := 78) dX3_offer_78 rfl rfl ?_
        refine e_getR (q := 4) (ci := 3) (k := 2) (y := 26) (C := RX3) (T := TX3) (N := 16) (pc := 79) dX3_offer_79 rfl rfl ev_in3 rfl ul_1_153 ⟨rfl, rfl⟩ rfl ?_
        refine e_iload (pc := 82) dX3_offer_82 rfl ?_
        refine e_iconst (pc := 84) dX3_offer_84 ⟨by decide, by decide⟩ ?_
        refine e_isub (pc := 85) dX3_offer_85 H.1 ?_
        have H := H.2
        refine e_iald (q := 26) (x := (g2 26 (x6 - 1))) (pc := 86) dX3_offer_86 rfl H.1 rfl ?_
        have H := H.2
        refine e_iast (q := 26) (pc := 87) dX3_offer_87 rfl H.1 ?_
        have H := H.2
        refine e_aload_n (pc := 88) dX3_offer_88 rfl rfl ?_
        refine e_getR (q := 4) (ci := 3) (k := 3) (y := 27) (C := RX3) (T := TX3) (N := 16) (pc := 89) dX3_offer_89 rfl rfl ev_in3 rfl ul_1_154 ⟨rfl, rfl⟩ rfl ?_
        refine e_iload (pc := 92) dX3_offer_92 rfl ?_
        refine e_aload_n (pc := 94) dX3_offer_94 rfl rfl ?_
        refine e_getR (q := 4) (ci := 3) (k := 3) (y := 27) (C := RX3) (T := TX3) (N := 16) (pc := 95) dX3_offer_95 rfl rfl ev_in3 rfl ul_1_154 ⟨rfl, rfl⟩ rfl ?_
        refine e_iload (pc := 98) dX3_offer_98 rfl ?_
        refine e_iconst (pc := 100) dX3_offer_100 ⟨by decide, by decide⟩ ?_
        refine e_isub (pc := 101) dX3_offer_101 H.1 ?_
        have H := H.2
        refine e_iald (q := 27) (x := (g2 27 (x6 - 1))) (pc := 102) dX3_offer_102 rfl H.1 rfl ?_
        have H := H.2
        refine e_iast (q := 27) (pc := 103) dX3_offer_103 rfl H.1 ?_
        have H := H.2
        refine e_aload_n (pc := 104) dX3_offer_104 rfl rfl ?_
        refine e_getR (q := 4) (ci := 3) (k := 4) (y := 28) (C := RX3) (T := TX3) (N := 16) (pc := 105) dX3_offer_105 rfl rfl ev_in3 rfl ul_1_156 ⟨rfl, rfl⟩ rfl ?_
        refine e_iload (pc := 108) dX3_offer_108 rfl ?_
        refine e_aload_n (pc := 110) dX3_offer_110 rfl rfl ?_
        refine e_getR (q := 4) (ci := 3) (k := 4) (y := 28) (C := RX3) (T := TX3) (N := 16) (pc := 111) dX3_offer_111 rfl rfl ev_in3 rfl ul_1_156 ⟨rfl, rfl⟩ rfl ?_
        refine e_iload (pc := 114) dX3_offer_114 rfl ?_
        refine e_iconst (pc := 116) dX3_offer_116 ⟨by decide, by decide⟩ ?_
        refine e_isub (pc := 117) dX3_offer_117 H.1 ?_
        have H := H.2
        refine e_iald (q := 28) (x := (g2 28 (x6 - 1))) (pc := 118) dX3_offer_118 rfl H.1 rfl ?_
        have H := H.2
        refine e_iast (q := 28) (pc := 119) dX3_offer_119 rfl H.1 ?_
        have H := H.2
        refine e_aload_n (pc := 120) dX3_offer_120 rfl rfl ?_
        refine e_getR (q := 4) (ci := 3) (k := 5) (y := 29) (C := RX3) (T := TX3) (N := 16) (pc := 121) dX3_offer_121 rfl rfl ev_in3 rfl ul_1_157 ⟨rfl, rfl⟩ rfl ?_
        refine e_iload (pc := 124) dX3_offer_124 rfl ?_
        refine e_aload_n (pc := 126) dX3_offer_126 rfl rfl ?_
        refine e_getR (q := 4) (ci := 3) (k := 5) (y := 29) (C := RX3) (T := TX3) (N := 16) (pc := 127) dX3_offer_127 rfl rfl ev_in3 rfl ul_1_157 ⟨rfl, rfl⟩ rfl ?_
        refine e_iload (pc := 130) dX3_offer_130 rfl ?_
        refine e_iconst (pc := 132) dX3_offer_132 ⟨by decide, by decide⟩ ?_
        refine e_isub (pc := 133) dX3_offer_133 H.1 ?_
        have H := H.2
        refine e_iald (q := 29) (x := (g2 29 (x6 - 1))) (pc := 134) dX3_offer_134 rfl H.1 rfl ?_
        have H := H.2
        refine e_iast (q := 29) (pc := 135) dX3_offer_135 rfl H.1 ?_
        have H := H.2
        refine e_iinc (lv' := [some (vR 4), some (vI p), some (vI a), some (vI b), some (vI c), some (vI x5), some (vI (x6 + (-1)))]) (pc := 136) dX3_offer_136 rfl H.1 rfl rfl ?_
        have H := H.2
        refine e_goto (pc := 139) (tgt := 65) dX3_offer_139 (by decide) ?_
        obtain ⟨m, hm, H⟩ := H
        exact ih2 m hm _ _ _ H
  have L1 : ∀ (n1 : Nat) (x5 : Int) (g1 : HP), I1 n1 x5 g1 → Ev w Y_X3_offer 6 [some (vR 4), some (vI p), some (vI a), some (vI b), some (vI c), some (vI x5), none] [] g1 (rV K) := by
    intro n1
    induction n1 using Nat.strongRecOn with
    | ind n1 ih1 =>
      intro x5 g1 H
      have H := H1 n1 x5 g1 H
      refine e_iload (pc := 6) dX3_offer_6 rfl ?_
      have Ho := H.1
      have H := H.2
      have J1 : ((x5 ≤ 0) ∨ ((g1 26 (x5 - 1)) ≤ p)) → Ev w Y_X3_offer 30 [some (vR 4), some (vI p), some (vI a), some (vI b), some (vI c), some (vI x5), none] [] g1 (rV K) := by
        intro hp
        have H := H.1 hp
        refine e_iload (pc := 30) dX3_offer_30 rfl ?_
        refine e_bipush (pc := 32) dX3_offer_32 ⟨by decide, by decide⟩ (by decide) ?_
        refine e_icmp_lt (pc := 34) (tgt := 38) dX3_offer_34 (by decide) (fun c2 => ?_) (fun c2 => ?_)
        · have H := H.1 c2
          refine e_aload_n (pc := 38) dX3_offer_38 rfl rfl ?_
          refine e_getI (q := 4) (ci := 3) (k := 15) (kz := 15) (C := RX3) (T := TX3) (N := 16) (x := (g1 4 15)) (pc := 39) dX3_offer_39 rfl rfl rfl ev_in3 rfl ul_1_171 ⟨rfl, by decide⟩ rfl ?_
          refine e_bipush (pc := 42) dX3_offer_42 ⟨by decide, by decide⟩ (by decide) ?_
          refine e_icmp_ge (pc := 44) (tgt := 57) dX3_offer_44 (by decide) (fun c3 => ?_) (fun c3 => ?_)
          · have H := H.1 c3
            refine e_aload_n (pc := 57) dX3_offer_57 rfl rfl ?_
            refine e_getI (q := 4) (ci := 3) (k := 15) (kz := 15) (C := RX3) (T := TX3) (N := 16) (x := (g1 4 15)) (pc := 58) dX3_offer_58 rfl rfl rfl ev_in3 rfl ul_1_171 ⟨rfl, by decide⟩ rfl ?_
            refine e_iconst (pc := 61) dX3_offer_61 ⟨by decide, by decide⟩ ?_
            refine e_isub (pc := 62) dX3_offer_62 H.1 ?_
            have H := H.2
            refine e_istore (lv' := [some (vR 4), some (vI p), some (vI a), some (vI b), some (vI c), some (vI x5), some (vI ((g1 4 15) - 1))]) (pc := 63) dX3_offer_63 rfl rfl ?_
            obtain ⟨m, H⟩ := H
            exact L2 m _ _ _ H
          · have H := H.2 c3
            refine e_aload_n (pc := 47) dX3_offer_47 rfl rfl ?_
            refine e_dup (pc := 48) dX3_offer_48 rfl ?_
            refine e_getI (q := 4) (ci := 3) (k := 15) (kz := 15) (C := RX3) (T := TX3) (N := 16) (x := (g1 4 15)) (pc := 49) dX3_offer_49 rfl rfl rfl ev_in3 rfl ul_1_171 ⟨rfl, by decide⟩ rfl ?_
            refine e_iconst (pc := 52) dX3_offer_52 ⟨by decide, by decide⟩ ?_
            refine e_iadd (pc := 53) dX3_offer_53 H.1 ?_
            have H := H.2
            refine e_put (q := 4) (ci := 3) (k := 15) (kz := 15) (C := RX3) (T := TX3) (N := 16) (ty := .int) (pc := 54) dX3_offer_54 rfl rfl rfl ev_in3 tyX3 tyX3_ok nmX3 rfl ul_1_171 ⟨rfl, by decide⟩ rfl (tyX3_ok 15 (by decide)) (Or.inl rfl) ?_
            refine e_aload_n (pc := 57) dX3_offer_57 rfl rfl ?_
            refine e_getI (q := 4) (ci := 3) (k := 15) (kz := 15) (C := RX3) (T := TX3) (N := 16) (x := ((g1 4 15) + 1)) (pc := 58) dX3_offer_58 rfl rfl rfl ev_in3 rfl ul_1_171 ⟨rfl, by decide⟩ rfl ?_
            refine e_iconst (pc := 61) dX3_offer_61 ⟨by decide, by decide⟩ ?_
            refine e_isub (pc := 62) dX3_offer_62 H.1 ?_
            have H := H.2
            refine e_istore (lv' := [some (vR 4), some (vI p), some (vI a), some (vI b), some (vI c), some (vI x5), some (vI (((g1 4 15) + 1) - 1))]) (pc := 63) dX3_offer_63 rfl rfl ?_
            obtain ⟨m, H⟩ := H
            exact L2 m _ _ _ H
        · have H := H.2 c2
          exact e_ret (pc := 37) (v := none) dX3_offer_37 rfl trivial ⟨rfl, H⟩
      have J2 : ¬ ((x5 ≤ 0) ∨ ((g1 26 (x5 - 1)) ≤ p)) → Ev w Y_X3_offer 24 [some (vR 4), some (vI p), some (vI a), some (vI b), some (vI c), some (vI x5), none] [] g1 (rV K) := by
        intro hp
        have H := H.2 hp
        refine e_iinc (lv' := [some (vR 4), some (vI p), some (vI a), some (vI b), some (vI c), some (vI (x5 + (-1))), none]) (pc := 24) dX3_offer_24 rfl H.1 rfl rfl ?_
        have H := H.2
        refine e_goto (pc := 27) (tgt := 6) dX3_offer_27 (by decide) ?_
        obtain ⟨m, hm, H⟩ := H
        exact ih1 m hm _ _ H
      refine e_if_le (pc := 8) (tgt := 30) dX3_offer_8 (by decide) (fun c4 => ?_) (fun c4 => ?_)
      · have Ho := Ho.1 c4
        exact J1 (Or.inl c4)
      · have Ho := Ho.2 c4
        refine e_aload_n (pc := 11) dX3_offer_11 rfl rfl ?_
        refine e_getR (q := 4) (ci := 3) (k := 2) (y := 26) (C := RX3) (T := TX3) (N := 16) (pc := 12) dX3_offer_12 rfl rfl ev_in3 rfl ul_1_153 ⟨rfl, rfl⟩ rfl ?_
        refine e_iload (pc := 15) dX3_offer_15 rfl ?_
        refine e_iconst (pc := 17) dX3_offer_17 ⟨by decide, by decide⟩ ?_
        refine e_isub (pc := 18) dX3_offer_18 Ho.1 ?_
        have Ho := Ho.2
        refine e_iald (q := 26) (x := (g1 26 (x5 - 1))) (pc := 19) dX3_offer_19 rfl Ho.1 rfl ?_
        have Ho := Ho.2
        refine e_iload_n (pc := 20) dX3_offer_20 rfl rfl ?_
        refine e_icmp_le (pc := 21) (tgt := 30) dX3_offer_21 (by decide) (fun c5 => ?_) (fun c5 => ?_)
        · exact J1 (Or.inr c5)
        · exact J2 (fun z => z.elim c4 c5)
  refine e_aload_n (pc := 0) dX3_offer_0 rfl rfl ?_
  refine e_getI (q := 4) (ci := 3) (k := 15) (kz := 15) (C := RX3) (T := TX3) (N := 16) (x := (h 4 15)) (pc := 1) dX3_offer_1 rfl rfl rfl ev_in3 rfl ul_1_171 ⟨rfl, by decide⟩ rfl ?_
  refine e_istore (lv' := [some (vR 4), some (vI p), some (vI a), some (vI b), some (vI c), some (vI (h 4 15)), none]) (pc := 4) dX3_offer_4 rfl rfl ?_
  obtain ⟨m, H⟩ := H
  exact L1 m _ _ H
set_option maxRecDepth 100000 in
set_option maxHeartbeats 4000000 in
theorem c_X3_offer (w : WD) (p : Int) (a : Int) (b : Int) (c : Int) (h : HP) (K : HP → Prop)  (H : S_X3_offer p a b c h K) : Ev w Y_X3_offer 0 [some (vR 4), some (vI p), some (vI a), some (vI b), some (vI c), none, none] [] h (rV K) := by
  obtain ⟨⟨sz, P, A, B, C⟩, ⟨hz, h12, hrep⟩, HK⟩ := H
  simp only at hz h12 hrep
  have hpl := plN_le P p sz
  refine v_X3_offer w p a b c h K (fun n x5 g => ∃ k : Nat, x5 = (k : Int) ∧ k = n ∧ k ≤ sz ∧ g = h ∧ plN P p sz = plN P p k)
    (fun n x5 x6 g => ∃ k s : Nat, x5 = (k : Int) ∧ k = plN P p sz ∧ k < 12 ∧ s = min (sz + 1) 12 ∧ ((k : Int) ≤ x6 ∧ x6 < (s : Int)) ∧ n = x6.toNat ∧ (∀ q, q ≠ 26 → q ≠ 27 → q ≠ 28 → q ≠ 29 → q ≠ 4 → g q = h q) ∧ (∀ i : Int, i ≠ 15 → g 4 i = h 4 i) ∧ g 4 15 = (s : Int) ∧ (∀ i : Int, 0 ≤ i → i ≤ x6 → i < (sz : Int) → g 26 i = P i ∧ g 27 i = A i ∧ g 28 i = B i ∧ g 29 i = C i) ∧ (∀ i : Int, x6 < i → i < (s : Int) → g 26 i = P (i - 1) ∧ g 27 i = A (i - 1) ∧ g 28 i = B (i - 1) ∧ g 29 i = C (i - 1))) ⟨sz, sz, hz, rfl, Nat.le_refl _, rfl, rfl⟩ ?_ ?_
  · rintro n x5 g ⟨k, rfl, rfl, hk, rfl, hp⟩
    refine ⟨⟨fun _ => trivial, fun _ => ⟨⟨by omega, by omega⟩, by omega, trivial⟩⟩, fun z => ?_, fun z => ⟨⟨by omega, by omega⟩, k - 1, ?_, k - 1, by omega, rfl, by omega, rfl, ?_⟩⟩
    · have hpk : plN P p sz = k := by
        rw [hp]
        cases k with
        | zero => rfl
        | succ k =>
          simp only [plN]
          rw [if_neg]
          intro y
          rcases z with z | z
          · omega
          · have := (hrep (k : Int) (by omega) (by omega)).1
            rw [show ((k + 1 : Nat) : Int) - 1 = (k : Int) by omega, this] at z
            omega
      rw [hz]
      refine ⟨fun y => ⟨fun x => ⟨⟨by omega, by omega⟩, ((sz : Int) - 1).toNat, k, 12, rfl, hpk.symm, by omega, by omega, by omega, rfl, fun _ _ _ _ _ _ => rfl, fun _ _ => rfl, by omega, fun i i0 i1 i2 => hrep i i0 i2, fun i i0 i1 => by omega⟩, fun x => ⟨⟨by omega, by omega⟩, ⟨by omega, by omega⟩, ((sz : Int) + 1 - 1).toNat, k, sz + 1, rfl, hpk.symm, by omega, by omega, by omega, rfl, fun q _ _ _ _ e => sth_ne e, fun i e => by rw [sth_eq, us_n e], by rw [sth_eq, us_s]; omega, fun i i0 i1 i2 => by rw [sth_ne (by decide), sth_ne (by decide), sth_ne (by decide), sth_ne (by decide)]; exact hrep i i0 i2, fun i i0 i1 => by omega⟩⟩, fun y => HK g (fun _ _ _ _ _ _ => rfl) (fun _ _ => rfl) ?_⟩
      unfold ofr
      simp only
      rw [if_pos (by omega)]
      exact ⟨hz, h12, hrep⟩
    · omega
    · rw [hp]
      obtain ⟨j, rfl⟩ : ∃ j, k = j + 1 := ⟨k - 1, by omega⟩
      have := (hrep (j : Int) (by omega) (by omega)).1
      rw [show ((j + 1 : Nat) : Int) - 1 = (j : Int) by omega, this] at z
      simp only [plN, Nat.add_sub_cancel]
      rw [if_pos (by omega)]
  · rintro n x5 x6 g ⟨k, s, rfl, hk, hk12, hs, h6, rfl, f1, f2, f3, f4, f5⟩
    refine ⟨fun z => ⟨by omega, by omega, by omega, by omega, HK _ (fun q a1 a2 a3 a4 a5 => by rw [sth_ne a4, sth_ne a3, sth_ne a2, sth_ne a1]; exact f1 q a1 a2 a3 a4 a5) (fun i y => by rw [sth_ne (by decide), sth_ne (by decide), sth_ne (by decide), sth_ne (by decide)]; exact f2 i y) ?_⟩, fun z => ?_⟩
    · have e6 : x6 = (k : Int) := by omega
      subst e6
      unfold ofr
      simp only
      rw [if_neg (by omega), ← hk]
      refine ⟨by rw [sth_ne (by decide), sth_ne (by decide), sth_ne (by decide), sth_ne (by decide), f3, hs], by omega, fun i i0 i1 => ?_⟩
      simp only at i1 ⊢
      rw [sth_ne (by decide), sth_ne (by decide), sth_ne (by decide), sth_eq, sth_ne (by decide), sth_ne (by decide), sth_eq, sth_ne (by decide), sth_ne (by decide), sth_eq, sth_ne (by decide), sth_ne (by decide), sth_eq, sth_ne (by decide), sth_ne (by decide), sth_ne (by decide)]
      refine ⟨ins_row (n := (s : Int)) (fun i j0 j1 => (f4 i j0 (by omega) (by omega)).1) (fun i j0 j1 => (f5 i j0 j1).1) i i0 (by omega), ins_row (n := (s : Int)) (fun i j0 j1 => (f4 i j0 (by omega) (by omega)).2.1) (fun i j0 j1 => (f5 i j0 j1).2.1) i i0 (by omega), ins_row (n := (s : Int)) (fun i j0 j1 => (f4 i j0 (by omega) (by omega)).2.2.1) (fun i j0 j1 => (f5 i j0 j1).2.2.1) i i0 (by omega), ins_row (n := (s : Int)) (fun i j0 j1 => (f4 i j0 (by omega) (by omega)).2.2.2) (fun i j0 j1 => (f5 i j0 j1).2.2.2) i i0 (by omega)⟩
    · have h1 := f4 (x6 - 1) (by omega) (by omega) (by omega)
      refine ⟨⟨by omega, by omega⟩, by omega, by omega, ⟨by omega, by omega⟩, by omega, by omega, ⟨by omega, by omega⟩, by omega, by omega, ⟨by omega, by omega⟩, by omega, by omega, ⟨by omega, by omega⟩, (x6 + -1).toNat, by omega, k, s, rfl, hk, hk12, hs, by omega, rfl, fun q a1 a2 a3 a4 a5 => by rw [sth_ne a4, sth_ne a3, sth_ne a2, sth_ne a1]; exact f1 q a1 a2 a3 a4 a5, fun i y => by rw [sth_ne (by decide), sth_ne (by decide), sth_ne (by decide), sth_ne (by decide)]; exact f2 i y, by rw [sth_ne (by decide), sth_ne (by decide), sth_ne (by decide), sth_ne (by decide)]; exact f3, fun i i0 i1 i2 => ?_, fun i i0 i1 => ?_⟩
      · rw [sth_ne (by decide), sth_ne (by decide), sth_ne (by decide), sth_eq, sth_ne (by decide), sth_ne (by decide), sth_eq, sth_ne (by decide), sth_ne (by decide), sth_eq, sth_ne (by decide), sth_ne (by decide), sth_eq, sth_ne (by decide), sth_ne (by decide), sth_ne (by decide), us_n (by omega), us_n (by omega), us_n (by omega), us_n (by omega)]
        exact f4 i i0 (by omega) i2
      · rw [sth_ne (by decide), sth_ne (by decide), sth_ne (by decide), sth_eq, sth_ne (by decide), sth_ne (by decide), sth_eq, sth_ne (by decide), sth_ne (by decide), sth_eq, sth_ne (by decide), sth_ne (by decide), sth_eq, sth_ne (by decide), sth_ne (by decide), sth_ne (by decide)]
        by_cases e : i = x6
        · subst e
          rw [us_s, us_s, us_s, us_s]
          exact h1
        · rw [us_n e, us_n e, us_n e, us_n e]
          exact f5 i (by omega) i1
theorem rwW_b {h : HP} {n c : Int} {row : Nat → Int} {wd : Int} (hV : VOK h) (hH : HRD h) (hr : rowB row (h 3 7) c) (hw : 0 ≤ wd ∧ wd < h 3 6) : rowB (rwW (h 24) (h 25) (h 22) (h 23) wd row) (h 3 7) (c + 24) := by
  have h1 := (hV.2.1 wd hw.1 hw.2).2.2.2
  have h16 := hV.1
  intro j hj
  have := rwF_b (s := fun k => h 23 (4 * wd + (k : Int))) hr (doub hV hH) (m := (h 22 wd).toNat) (fun i hi => hV.2.2.1 _ (by omega) (by omega)) j hj
  unfold rwW
  omega
theorem row0_b {n : Int} (hn : n ≤ 8) : rowB row0 n 48 := fun j hj => by unfold row0; omega
theorem rowB_m {f : Nat → Int} {n c d : Int} (h : rowB f n c) (hc : c ≤ d) : rowB f n d := fun j hj => by have := h j hj; omega
theorem rowB_c {f g : Nat → Int} {n c : Int} (h : rowB f n c) (e : ∀ j : Nat, (j : Int) ≤ n → g j = f j) : rowB g n c := fun j hj => by rw [e j hj]; exact h j hj
def prC (h : HP) (a b c : Int) : Int := prR (h 24) (h 25) (h 22) (h 23) a b c (h 3 7).toNat
def frO (h h' : HP) : Prop := (∀ q, q ≠ 26 → q ≠ 27 → q ≠ 28 → q ≠ 29 → q ≠ 4 → q ≠ 32 → q ≠ 33 → q ≠ 34 → q ≠ 35 → h' q = h q) ∧ (∀ i : Int, i ≠ 15 → h' 4 i = h 4 i)
theorem frO_r (h : HP) : frO h h := ⟨fun _ _ _ _ _ _ _ _ _ _ => rfl, fun _ _ => rfl⟩
def S_X3_offerWithSort (a b lim : Int) (h : HP) (K : HP → Prop) : Prop := ∃ R : RD, (VOK h ∧ HRD h ∧ rpC h R ∧ (0 ≤ a ∧ a < h 3 6) ∧ (0 ≤ b ∧ b < h 3 6) ∧ ∀ j : Nat, (j : Int) ≤ h 3 7 → h 34 (j : Int) = rwW (h 24) (h 25) (h 22) (h 23) b (rwW (h 24) (h 25) (h 22) (h 23) a row0) j) ∧ ∀ h' : HP, frO h h' → h' 32 = h 32 → h' 33 = h 33 → rpC h' (rl3 (h 20) (prC h) lim a b (h 3 6).toNat R) → K h'
set_option maxRecDepth 100000 in
set_option maxHeartbeats 4000000 in
theorem v_X3_offerWithSort (w : WD) (a : Int) (b : Int) (lim : Int) (h : HP) (K : HP → Prop) 
    (I1 : Nat → Int → Int → HP → Prop)
    (H : (∃ m : Nat, I1 m (h 3 7) 0 h))
    (H1 : ∀ (n1 : Nat) (x4 : Int) (x5 : Int) (g1 : HP), I1 n1 x4 x5 g1 → (((g1 3 6) ≤ x5 → K g1) ∧ (¬ (g1 3 6) ≤ x5 → ((0 ≤ x5 ∧ x5 < 16) ∧ ((¬ (g1 20 x5) = 2 → ((iR (x5 + 1)) ∧ (∃ m : Nat, m < n1 ∧ I1 m x4 (x5 + 1) g1))) ∧ ((g1 20 x5) = 2 → (S_X7_priceWithWord 34 35 x5 g1 (fun h21 => ((0 ≤ x4 ∧ x4 < 9) ∧ ((lim < (h21 35 x4) → ((iR (x5 + 1)) ∧ (∃ m : Nat, m < n1 ∧ I1 m x4 (x5 + 1) h21))) ∧ (¬ lim < (h21 35 x4) → ((0 ≤ x4 ∧ x4 < 9) ∧ (S_X3_offer (h21 35 x4) a b x5 h21 (fun h22 => ((iR (x5 + 1)) ∧ (∃ m : Nat, m < n1 ∧ I1 m x4 (x5 + 1) h22)))))))))))))))) :
    Ev w Y_X3_offerWithSort 0 [some (vR 4), some (vI a), some (vI b), some (vI lim), none, none] [] h (rV K) := by
  have L1 : ∀ (n1 : Nat) (x4 : Int) (x5 : Int) (g1 : HP), I1 n1 x4 x5 g1 → Ev w Y_X3_offerWithSort 12 [some (vR 4), some (vI a), some (vI b), some (vI lim), some (vI x4), some (vI x5)] [] g1 (rV K) := by
    intro n1
    induction n1 using Nat.strongRecOn with
    | ind n1 ih1 =>
      intro x4 x5 g1 H
      have H := H1 n1 x4 x5 g1 H
      refine e_iload (pc := 12) dX3_offerWithSort_12 rfl ?_
      refine e_aload_n (pc := 14) dX3_offerWithSort_14 rfl rfl ?_
      refine e_getR (q := 4) (ci := 3) (k := 1) (y := 3) (C := RX3) (T := TX3) (N := 16) (pc := 15) dX3_offerWithSort_15 rfl rfl ev_in3 rfl ul_1_152 ⟨rfl, rfl⟩ rfl ?_
      refine e_getI (q := 3) (ci := 7) (k := 6) (kz := 6) (C := RX7) (T := TX7) (N := 8) (x := (g1 3 6)) (pc := 18) dX3_offerWithSort_18 rfl rfl rfl ev_in7 rfl ul_1_124 ⟨rfl, by decide⟩ rfl ?_
      refine e_icmp_ge (pc := 21) (tgt := 87) dX3_offerWithSort_21 (by decide) (fun c1 => ?_) (fun c1 => ?_)
      · have H := H.1 c1
        exact e_ret (pc := 87) (v := none) dX3_offerWithSort_87 rfl trivial ⟨rfl, H⟩
      · have H := H.2 c1
        refine e_aload_n (pc := 24) dX3_offerWithSort_24 rfl rfl ?_
        refine e_getR (q := 4) (ci := 3) (k := 1) (y := 3) (C := RX3) (T := TX3) (N := 16) (pc := 25) dX3_offerWithSort_25 rfl rfl ev_in3 rfl ul_1_152 ⟨rfl, rfl⟩ rfl ?_
        refine e_getR (q := 3) (ci := 7) (k := 0) (y := 20) (C := RX7) (T := TX7) (N := 8) (pc := 28) dX3_offerWithSort_28 rfl rfl ev_in7 rfl ul_1_117 ⟨rfl, rfl⟩ rfl ?_
        refine e_iload (pc := 31) dX3_offerWithSort_31 rfl ?_
        refine e_iald (q := 20) (x := (g1 20 x5)) (pc := 33) dX3_offerWithSort_33 rfl H.1 rfl ?_
        have H := H.2
        refine e_iconst (pc := 34) dX3_offerWithSort_34 ⟨by decide, by decide⟩ ?_
        refine e_icmp_ne (pc := 35) (tgt := 81) dX3_offerWithSort_35 (by decide) (fun c2 => ?_) (fun c2 => ?_)
        · have H := H.1 c2
          refine e_iinc (lv' := [some (vR 4), some (vI a), some (vI b), some (vI lim), some (vI x4), some (vI (x5 + 1))]) (pc := 81) dX3_offerWithSort_81 rfl H.1 rfl rfl ?_
          have H := H.2
          refine e_goto (pc := 84) (tgt := 12) dX3_offerWithSort_84 (by decide) ?_
          obtain ⟨m, hm, H⟩ := H
          exact ih1 m hm _ _ _ H
        · have H := H.2 c2
          refine e_aload_n (pc := 38) dX3_offerWithSort_38 rfl rfl ?_
          refine e_getR (q := 4) (ci := 3) (k := 1) (y := 3) (C := RX3) (T := TX3) (N := 16) (pc := 39) dX3_offerWithSort_39 rfl rfl ev_in3 rfl ul_1_152 ⟨rfl, rfl⟩ rfl ?_
          refine e_aload_n (pc := 42) dX3_offerWithSort_42 rfl rfl ?_
          refine e_getR (q := 4) (ci := 3) (k := 10) (y := 34) (C := RX3) (T := TX3) (N := 16) (pc := 43) dX3_offerWithSort_43 rfl rfl ev_in3 rfl ul_1_163 ⟨rfl, rfl⟩ rfl ?_
          refine e_aload_n (pc := 46) dX3_offerWithSort_46 rfl rfl ?_
          refine e_getR (q := 4) (ci := 3) (k := 11) (y := 35) (C := RX3) (T := TX3) (N := 16) (pc := 47) dX3_offerWithSort_47 rfl rfl ev_in3 rfl ul_1_164 ⟨rfl, rfl⟩ rfl ?_
          refine e_iload (pc := 50) dX3_offerWithSort_50 rfl ?_
          refine e_invV (pc := 52) (Y' := Y_X7_priceWithWord) (as := [vR 34, vR 35, vI x5]) (st := []) (lv0 := [some (vR 3), some (vR 34), some (vR 35), some (vI x5), none]) (q := 3) (ci := 7) (T := TX7) (N := 8) dX3_offerWithSort_52 m_X7_priceWithWord ul_3_57 ⟨ul_3_58, ul_3_59⟩ ⟨rfl, rfl⟩ rfl rfl rfl rfl rfl rfl rfl (c_X7_priceWithWord w 34 35 x5 g1 _ rfl rfl H) ?_
          rintro _ h21 ⟨rfl, H⟩
          show Ev w Y_X3_offerWithSort 55 [some (vR 4), some (vI a), some (vI b), some (vI lim), some (vI x4), some (vI x5)] [] h21 (rV K)
          refine e_aload_n (pc := 55) dX3_offerWithSort_55 rfl rfl ?_
          refine e_getR (q := 4) (ci := 3) (k := 11) (y := 35) (C := RX3) (T := TX3) (N := 16) (pc := 56) dX3_offerWithSort_56 rfl rfl ev_in3 rfl ul_1_164 ⟨rfl, rfl⟩ rfl ?_
          refine e_iload (pc := 59) dX3_offerWithSort_59 rfl ?_
          refine e_iald (q := 35) (x := (h21 35 x4)) (pc := 61) dX3_offerWithSort_61 rfl H.1 rfl ?_
          have H := H.2
          refine e_iload_n (pc := 62) dX3_offerWithSort_62 rfl rfl ?_
          refine e_icmp_gt (pc := 63) (tgt := 81) dX3_offerWithSort_63 (by decide) (fun c3 => ?_) (fun c3 => ?_)
          · have H := H.1 c3
            refine e_iinc (lv' := [some (vR 4), some (vI a), some (vI b), some (vI lim), some (vI x4), some (vI (x5 + 1))]) (pc := 81) dX3_offerWithSort_81 rfl H.1 rfl rfl ?_
            have H := H.2
            refine e_goto (pc := 84) (tgt := 12) dX3_offerWithSort_84 (by decide) ?_
            obtain ⟨m, hm, H⟩ := H
            exact ih1 m hm _ _ _ H
          · have H := H.2 c3
            refine e_aload_n (pc := 66) dX3_offerWithSort_66 rfl rfl ?_
            refine e_aload_n (pc := 67) dX3_offerWithSort_67 rfl rfl ?_
            refine e_getR (q := 4) (ci := 3) (k := 11) (y := 35) (C := RX3) (T := TX3) (N := 16) (pc := 68) dX3_offerWithSort_68 rfl rfl ev_in3 rfl ul_1_164 ⟨rfl, rfl⟩ rfl ?_
            refine e_iload (pc := 71) dX3_offerWithSort_71 rfl ?_
            refine e_iald (q := 35) (x := (h21 35 x4)) (pc := 73) dX3_offerWithSort_73 rfl H.1 rfl ?_
            have H := H.2
            refine e_iload_n (pc := 74) dX3_offerWithSort_74 rfl rfl ?_
            refine e_iload_n (pc := 75) dX3_offerWithSort_75 rfl rfl ?_
            refine e_iload (pc := 76) dX3_offerWithSort_76 rfl ?_
            refine e_invV (pc := 78) (Y' := Y_X3_offer) (as := [vI (h21 35 x4), vI a, vI b, vI x5]) (st := []) (lv0 := [some (vR 4), some (vI (h21 35 x4)), some (vI a), some (vI b), some (vI x5), none, none]) (q := 4) (ci := 3) (T := TX3) (N := 16) dX3_offerWithSort_78 m_X3_offer ul_3_73 ⟨ul_3_75, us_X3_offer⟩ ⟨rfl, rfl⟩ rfl rfl rfl rfl rfl rfl rfl (c_X3_offer w (h21 35 x4) a b x5 h21 _ H) ?_
            rintro _ h22 ⟨rfl, H⟩
            show Ev w Y_X3_offerWithSort 81 [some (vR 4), some (vI a), some (vI b), some (vI lim), some (vI x4), some (vI x5)] [] h22 (rV K)
            refine e_iinc (lv' := [some (vR 4), some (vI a), some (vI b), some (vI lim), some (vI x4), some (vI (x5 + 1))]) (pc := 81) dX3_offerWithSort_81 rfl H.1 rfl rfl ?_
            have H := H.2
            refine e_goto (pc := 84) (tgt := 12) dX3_offerWithSort_84 (by decide) ?_
            obtain ⟨m, hm, H⟩ := H
            exact ih1 m hm _ _ _ H
  refine e_aload_n (pc := 0) dX3_offerWithSort_0 rfl rfl ?_
  refine e_getR (q := 4) (ci := 3) (k := 1) (y := 3) (C := RX3) (T := TX3) (N := 16) (pc := 1) dX3_offerWithSort_1 rfl rfl ev_in3 rfl ul_1_152 ⟨rfl, rfl⟩ rfl ?_
  refine e_getI (q := 3) (ci := 7) (k := 7) (kz := 7) (C := RX7) (T := TX7) (N := 8) (x := (h 3 7)) (pc := 4) dX3_offerWithSort_4 rfl rfl rfl ev_in7 rfl ul_1_127 ⟨rfl, by decide⟩ rfl ?_
  refine e_istore (lv' := [some (vR 4), some (vI a), some (vI b), some (vI lim), some (vI (h 3 7)), none]) (pc := 7) dX3_offerWithSort_7 rfl rfl ?_
  refine e_iconst (pc := 9) dX3_offerWithSort_9 ⟨by decide, by decide⟩ ?_
  refine e_istore (lv' := [some (vR 4), some (vI a), some (vI b), some (vI lim), some (vI (h 3 7)), some (vI 0)]) (pc := 10) dX3_offerWithSort_10 rfl rfl ?_
  obtain ⟨m, H⟩ := H
  exact L1 m _ _ _ H
set_option maxRecDepth 100000 in
set_option maxHeartbeats 4000000 in
theorem c_X3_offerWithSort (w : WD) (a : Int) (b : Int) (lim : Int) (h : HP) (K : HP → Prop)  (H : S_X3_offerWithSort a b lim h K) : Ev w Y_X3_offerWithSort 0 [some (vR 4), some (vI a), some (vI b), some (vI lim), none, none] [] h (rV K) := by
  obtain ⟨R, ⟨hV, hH, hR, ha, hb, h34⟩, HK⟩ := H
  have hn := hH.1
  have h16 := hV.1
  have hB34 : rowB (rwW (h 24) (h 25) (h 22) (h 23) b (rwW (h 24) (h 25) (h 22) (h 23) a row0)) (h 3 7) 96 := rowB_m (rwW_b (n := 0) hV hH (rwW_b (n := 0) hV hH (row0_b hn.2) ha) hb) (by decide)
  refine v_X3_offerWithSort w a b lim h K (fun n x4 x5 g => ∃ k : Nat, x4 = h 3 7 ∧ x5 = (k : Int) ∧ (k : Int) ≤ h 3 6 ∧ n = (h 3 6 - (k : Int)).toNat ∧ frO h g ∧ g 32 = h 32 ∧ g 33 = h 33 ∧ g 34 = h 34 ∧ rpC g (rl3 (h 20) (prC h) lim a b k R)) ⟨(h 3 6).toNat, 0, rfl, rfl, by omega, by omega, frO_r h, rfl, rfl, rfl, hR⟩ ?_
  rintro n x4 x5 g ⟨k, rfl, rfl, hk, rfl, hf, e32, e33, e34, hr⟩
  have gq : ∀ q, q ≠ 26 → q ≠ 27 → q ≠ 28 → q ≠ 29 → q ≠ 4 → q ≠ 32 → q ≠ 33 → q ≠ 34 → q ≠ 35 → g q = h q := hf.1
  have g3 : g 3 = h 3 := gq 3 (by decide) (by decide) (by decide) (by decide) (by decide) (by decide) (by decide) (by decide) (by decide)
  have g20 : g 20 = h 20 := gq 20 (by decide) (by decide) (by decide) (by decide) (by decide) (by decide) (by decide) (by decide) (by decide)
  have g22 : g 22 = h 22 := gq 22 (by decide) (by decide) (by decide) (by decide) (by decide) (by decide) (by decide) (by decide) (by decide)
  have g23 : g 23 = h 23 := gq 23 (by decide) (by decide) (by decide) (by decide) (by decide) (by decide) (by decide) (by decide) (by decide)
  have g24 : g 24 = h 24 := gq 24 (by decide) (by decide) (by decide) (by decide) (by decide) (by decide) (by decide) (by decide) (by decide)
  have g25 : g 25 = h 25 := gq 25 (by decide) (by decide) (by decide) (by decide) (by decide) (by decide) (by decide) (by decide) (by decide)
  have g21 : g 21 = h 21 := gq 21 (by decide) (by decide) (by decide) (by decide) (by decide) (by decide) (by decide) (by decide) (by decide)
  have hVg : VOK g := VOK_c (by rw [g3]) g20 g21 g22 g23 g24 hV
  have hHg : HRD g := HRD_c (by rw [g3]) g25 hH
  rw [g3, g20]
  refine ⟨fun c => HK g hf e32 e33 (by rw [show (h 3 6).toNat = k by omega]; exact hr), fun c => ⟨by omega, fun c2 => ⟨⟨by omega, by omega⟩, (h 3 6 - ((k + 1 : Nat) : Int)).toNat, by omega, k + 1, rfl, by omega, by omega, rfl, hf, e32, e33, e34, ?_⟩, fun c2 => ⟨⟨by decide, by decide, by decide, by rw [g3]; omega, hVg, hHg, ?_⟩, fun h1 f1 f2 => ?_⟩⟩⟩
  · simp only [rl3]
    rw [if_neg (fun z => c2 z.1)]
    exact hr
  · rw [g3]
    refine rowB_c (rowB_m hB34 (by decide)) (fun j hj => ?_)
    rw [e34]; exact h34 j hj
  · have hpr : h1 35 (h 3 7) = prC h a b (k : Int) := by
      have := f2 (h 3 7).toNat (by rw [g3]; omega)
      rw [Int.toNat_of_nonneg hn.1, g22, g23, g24, g25] at this
      rw [this]
      unfold prC prR
      rw [if_neg (by omega)]
      unfold rwW
      exact rwF_rc (n := h 3 7) (fun j hj => by rw [e34]; exact h34 j hj) _ _ (by omega)
    have hf1 : frO h h1 := ⟨fun q z1 z2 z3 z4 z5 z6 z7 z8 z9 => by rw [f1 q z9]; exact gq q z1 z2 z3 z4 z5 z6 z7 z8 z9, fun i z => by rw [f1 4 (by decide)]; exact hf.2 i z⟩
    have hr1 : rpC h1 (rl3 (h 20) (prC h) lim a b k R) := rpC_c (by rw [f1 4 (by decide)]) (f1 _ (by decide)) (f1 _ (by decide)) (f1 _ (by decide)) (f1 _ (by decide)) hr
    show _ ∧ _
    rw [hpr]
    refine ⟨by omega, fun c3 => ⟨⟨by omega, by omega⟩, (h 3 6 - ((k + 1 : Nat) : Int)).toNat, by omega, k + 1, rfl, by omega, by omega, rfl, hf1, by rw [f1 _ (by decide)]; exact e32, by rw [f1 _ (by decide)]; exact e33, by rw [f1 _ (by decide)]; exact e34, ?_⟩, fun c3 => ⟨by omega, rl3 (h 20) (prC h) lim a b k R, hr1, fun h2 f3 f4 f5 => ⟨⟨by omega, by omega⟩, (h 3 6 - ((k + 1 : Nat) : Int)).toNat, by omega, k + 1, rfl, by omega, by omega, rfl, ?_, ?_, ?_, ?_, ?_⟩⟩⟩
    · simp only [rl3]
      rw [if_neg (fun z => by omega)]
      exact hr1
    · exact ⟨fun q z1 z2 z3 z4 z5 z6 z7 z8 z9 => by rw [f3 q z1 z2 z3 z4 z5]; exact hf1.1 q z1 z2 z3 z4 z5 z6 z7 z8 z9, fun i z => by rw [f4 i z]; exact hf1.2 i z⟩
    · rw [f3 _ (by decide) (by decide) (by decide) (by decide) (by decide), f1 _ (by decide)]; exact e32
    · rw [f3 _ (by decide) (by decide) (by decide) (by decide) (by decide), f1 _ (by decide)]; exact e33
    · rw [f3 _ (by decide) (by decide) (by decide) (by decide) (by decide), f1 _ (by decide)]; exact e34
    · simp only [rl3]
      rw [if_pos ⟨c2, by omega⟩]
      exact f5
