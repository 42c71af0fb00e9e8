/-! the relation between the cells of the class (c) and those of the reference (m) -/
def S_X8_word (kd nb n v : Int) (h : HP) (K : Int → HP → Prop) : Prop := (okW kd nb n v → S_X7_addWord kd nb n v h K) ∧ (¬ okW kd nb n v → K (-1) h)
theorem ro_num (w : WD) {s : Int} (h : 0 ≤ s ∧ s ≤ 3) : ro w 91 s - 1 = topN s := by
  rcases (show s = 0 ∨ s = 1 ∨ s = 2 ∨ s = 3 by omega) with rfl | rfl | rfl | rfl <;> rfl
set_option maxRecDepth 100000 in
set_option maxHeartbeats 4000000 in
theorem v_X8_word (w : WD) (kd : Int) (nb : Int) (n : Int) (v : Int) (h : HP) (K : Int → HP → Prop) 
    (H : ((((¬ (0 ≤ kd ∧ kd ≤ 3) → True) ∧ ((0 ≤ kd ∧ kd ≤ 3) → ((0 ≤ kd ∧ kd < 4) ∧ ((iR ((ro w 91 kd) - 1)) ∧ ((¬ (0 ≤ nb ∧ nb ≤ ((ro w 91 kd) - 1)) → True) ∧ ((0 ≤ nb ∧ nb ≤ ((ro w 91 kd) - 1)) → ((¬ (1 ≤ n ∧ n ≤ 4) → True) ∧ ((1 ≤ n ∧ n ≤ 4) → ((1 ≤ n ∧ n ≤ 8) ∧ True)))))))))) ∧ (((((0 ≤ kd ∧ kd ≤ 3)) ∧ (((0 ≤ nb ∧ nb ≤ ((ro w 91 kd) - 1))) ∧ (((1 ≤ n ∧ n ≤ 4)) ∧ ((0 ≤ v ∧ v < 16 ^ Int.toNat n))))) → (S_X7_addWord kd nb n v h (fun r21 h21 => K r21 h21))) ∧ (¬ (((0 ≤ kd ∧ kd ≤ 3)) ∧ (((0 ≤ nb ∧ nb ≤ ((ro w 91 kd) - 1))) ∧ (((1 ≤ n ∧ n ≤ 4)) ∧ ((0 ≤ v ∧ v < 16 ^ Int.toNat n))))) → K (-1) h)))) :
    Ev w Y_X8_word 0 [some (vR 0), some (vI kd), some (vI nb), some (vI n), some (vI v)] [] h (rI K) := by
  refine e_iload_n (pc := 0) dX8_word_0 rfl rfl ?_
  refine e_iconst (pc := 1) dX8_word_1 ⟨by decide, by decide⟩ ?_
  refine e_iconst (pc := 2) dX8_word_2 ⟨by decide, by decide⟩ ?_
  refine e_invS (pc := 3) (Y' := Y_X8_within) (as := [vI kd, vI 0, vI 3]) (st := []) (lv0 := [some (vI kd), some (vI 0), some (vI 3)]) dX8_word_3 m_X8_within ul_2_130 ul_2_131 ⟨rfl, rfl⟩ rfl rfl rfl rfl rfl (c_X8_within w kd 0 3 h) ?_
  rintro _ hz ⟨_, rfl, rfl, hh⟩
  rw [hh]
  show Ev w Y_X8_word 6 [some (vR 0), some (vI kd), some (vI nb), some (vI n), some (vI v)] [vI (b2i (0 ≤ kd ∧ kd ≤ 3))] h (rI K)
  have Ho := H.1
  have H := H.2
  have J1 : (((0 ≤ kd ∧ kd ≤ 3)) ∧ (((0 ≤ nb ∧ nb ≤ ((ro w 91 kd) - 1))) ∧ (((1 ≤ n ∧ n ≤ 4)) ∧ ((0 ≤ v ∧ v < 16 ^ Int.toNat n))))) → Ev w Y_X8_word 45 [some (vR 0), some (vI kd), some (vI nb), some (vI n), some (vI v)] [] h (rI K) := by
    intro hp
    have H := H.1 hp
    refine e_aload_n (pc := 45) dX8_word_45 rfl rfl ?_
    refine e_getR (q := 0) (ci := 8) (k := 2) (y := 3) (C := RX8) (T := TX8) (N := 9) (pc := 46) dX8_word_46 rfl rfl ev_in8 rfl ul_2_100 ⟨rfl, rfl⟩ rfl ?_
    refine e_iload_n (pc := 49) dX8_word_49 rfl rfl ?_
    refine e_iload_n (pc := 50) dX8_word_50 rfl rfl ?_
    refine e_iload_n (pc := 51) dX8_word_51 rfl rfl ?_
    refine e_iload (pc := 52) dX8_word_52 rfl ?_
    refine e_invV (pc := 54) (Y' := Y_X7_addWord) (as := [vI kd, vI nb, vI n, vI v]) (st := []) (lv0 := [some (vR 3), some (vI kd), some (vI nb), some (vI n), some (vI v), none]) (q := 3) (ci := 7) (T := TX7) (N := 8) dX8_word_54 m_X7_addWord ul_2_173 ⟨ul_2_174, ul_2_175⟩ ⟨rfl, rfl⟩ rfl rfl rfl rfl rfl rfl rfl (c_X7_addWord w kd nb n v h _ H) ?_
    rintro _ h21 ⟨r21, rfl, H⟩
    show Ev w Y_X8_word 57 [some (vR 0), some (vI kd), some (vI nb), some (vI n), some (vI v)] [vI r21] h21 (rI K)
    exact e_ret (pc := 57) (v := some (vI r21)) dX8_word_57 rfl trivial ⟨_, rfl, H⟩
  have J2 : ¬ (((0 ≤ kd ∧ kd ≤ 3)) ∧ (((0 ≤ nb ∧ nb ≤ ((ro w 91 kd) - 1))) ∧ (((1 ≤ n ∧ n ≤ 4)) ∧ ((0 ≤ v ∧ v < 16 ^ Int.toNat n))))) → Ev w Y_X8_word 43 [some (vR 0), some (vI kd), some (vI nb), some (vI n), some (vI v)] [] h (rI K) := by
    intro hp
    have H := H.2 hp
    refine e_iconst (pc := 43) dX8_word_43 ⟨by decide, by decide⟩ ?_
    exact e_ret (pc := 44) (v := some (vI (-1))) dX8_word_44 rfl trivial ⟨_, rfl, H⟩
  refine e_ifb_eq (pc := 6) (tgt := 43) dX8_word_6 (by decide) (fun c1 => ?_) (fun c1 => ?_)
  · have Ho := Ho.1 c1
    exact J2 (fun z => c1 z.1)
  · have Ho := Ho.2 c1
    refine e_iload_n (pc := 9) dX8_word_9 rfl rfl ?_
    refine e_iconst (pc := 10) dX8_word_10 ⟨by decide, by decide⟩ ?_
    refine e_gets (q := 91) (n := "NUMBERS_OF_KIND") (pc := 11) dX8_word_11 (by decide) ul_2_168 ?_
    refine e_iload_n (pc := 14) dX8_word_14 rfl rfl ?_
    refine e_rold (q := 91) (x := (ro w 91 kd)) (pc := 15) dX8_word_15 ⟨by decide, by decide⟩ Ho.1 rfl (ro_R w 91 _) ?_
    have Ho := Ho.2
    refine e_iconst (pc := 16) dX8_word_16 ⟨by decide, by decide⟩ ?_
    refine e_isub (pc := 17) dX8_word_17 Ho.1 ?_
    have Ho := Ho.2
    refine e_invS (pc := 18) (Y' := Y_X8_within) (as := [vI nb, vI 0, vI ((ro w 91 kd) - 1)]) (st := []) (lv0 := [some (vI nb), some (vI 0), some (vI ((ro w 91 kd) - 1))]) dX8_word_18 m_X8_within ul_2_130 ul_2_131 ⟨rfl, rfl⟩ rfl rfl rfl rfl rfl (c_X8_within w nb 0 ((ro w 91 kd) - 1) h) ?_
    rintro _ hz ⟨_, rfl, rfl, hh⟩
    rw [hh]
    show Ev w Y_X8_word 21 [some (vR 0), some (vI kd), some (vI nb), some (vI n), some (vI v)] [vI (b2i (0 ≤ nb ∧ nb ≤ ((ro w 91 kd) - 1)))] h (rI K)
    refine e_ifb_eq (pc := 21) (tgt := 43) dX8_word_21 (by decide) (fun c2 => ?_) (fun c2 => ?_)
    · have Ho := Ho.1 c2
      exact J2 (fun z => (fun z => c2 z.1) z.2)
    · have Ho := Ho.2 c2
      refine e_iload_n (pc := 24) dX8_word_24 rfl rfl ?_
      refine e_iconst (pc := 25) dX8_word_25 ⟨by decide, by decide⟩ ?_
      refine e_iconst (pc := 26) dX8_word_26 ⟨by decide, by decide⟩ ?_
      refine e_invS (pc := 27) (Y' := Y_X8_within) (as := [vI n, vI 1, vI 4]) (st := []) (lv0 := [some (vI n), some (vI 1), some (vI 4)]) dX8_word_27 m_X8_within ul_2_130 ul_2_131 ⟨rfl, rfl⟩ rfl rfl rfl rfl rfl (c_X8_within w n 1 4 h) ?_
      rintro _ hz ⟨_, rfl, rfl, hh⟩
      rw [hh]
      show Ev w Y_X8_word 30 [some (vR 0), some (vI kd), some (vI nb), some (vI n), some (vI v)] [vI (b2i (1 ≤ n ∧ n ≤ 4))] h (rI K)
      refine e_ifb_eq (pc := 30) (tgt := 43) dX8_word_30 (by decide) (fun c3 => ?_) (fun c3 => ?_)
      · have Ho := Ho.1 c3
        exact J2 (fun z => (fun z => (fun z => c3 z.1) z.2) z.2)
      · have Ho := Ho.2 c3
        refine e_iload_n (pc := 33) dX8_word_33 rfl rfl ?_
        refine e_iload (pc := 34) dX8_word_34 rfl ?_
        refine e_i2l (pc := 36) dX8_word_36 ?_
        refine e_invS (pc := 37) (Y' := Y_X8_fitsSounds) (as := [vI n, vL v]) (st := []) (lv0 := [some (vI n), some (vL v), none]) dX8_word_37 m_X8_fitsSounds ul_2_170 ul_2_171 ⟨rfl, rfl⟩ rfl rfl rfl rfl rfl (c_X8_fitsSounds w n v h Ho.1) ?_
        rintro _ hz ⟨_, rfl, rfl, hh⟩
        rw [hh]
        show Ev w Y_X8_word 40 [some (vR 0), some (vI kd), some (vI nb), some (vI n), some (vI v)] [vI (b2i (0 ≤ v ∧ v < 16 ^ Int.toNat n))] h (rI K)
        have Ho := Ho.2
        refine e_ifb_ne (pc := 40) (tgt := 45) dX8_word_40 (by decide) (fun c4 => ?_) (fun c4 => ?_)
        · exact J1 ⟨c1, ⟨c2, ⟨c3, c4⟩⟩⟩
        · exact J2 (fun z => (fun z => (fun z => c4 z.2) z.2) z.2)
set_option maxRecDepth 100000 in
set_option maxHeartbeats 4000000 in
theorem c_X8_word (w : WD) (kd : Int) (nb : Int) (n : Int) (v : Int) (h : HP) (K : Int → HP → Prop)  (H : S_X8_word kd nb n v h K) : Ev w Y_X8_word 0 [some (vR 0), some (vI kd), some (vI nb), some (vI n), some (vI v)] [] h (rI K) := by
  refine v_X8_word w kd nb n v h K ⟨⟨fun _ => trivial, fun c => ⟨by omega, ?_, fun _ => trivial, fun _ => ⟨fun _ => trivial, fun _ => ⟨by omega, trivial⟩⟩⟩⟩, fun c => H.1 ⟨c.1, by rw [← ro_num w c.1]; exact c.2.1, c.2.2⟩, fun c => H.2 (fun y => c ⟨y.1, by rw [ro_num w y.1]; exact y.2.1, y.2.2⟩)⟩
  rw [ro_num w c]
  unfold topN
  constructor <;> (repeat' split) <;> decide
def topB (s : Int) : Int := if s = 0 then 50 else if s = 1 then 20 else 100
theorem ro_bnd (w : WD) {s : Int} (h : 0 ≤ s ∧ s ≤ 2) : ro w 92 s = topB s := by
  rcases (show s = 0 ∨ s = 1 ∨ s = 2 by omega) with rfl | rfl | rfl <;> rfl
def okB (a b : Int) : Prop := (0 ≤ a ∧ a ≤ 2) ∧ 0 ≤ b ∧ b ≤ topB a
def S_X8_rule (a b : Int) (h : HP) (K : Int → HP → Prop) : Prop := (okB a b → K (h 54 a) (sth h 54 a b)) ∧ (¬ okB a b → K (-1) h)
set_option maxRecDepth 100000 in
set_option maxHeartbeats 4000000 in
theorem v_X8_rule (w : WD) (a : Int) (b : Int) (h : HP) (K : Int → HP → Prop) 
    (H : ((((¬ (0 ≤ a ∧ a ≤ 2) → True) ∧ ((0 ≤ a ∧ a ≤ 2) → ((0 ≤ a ∧ a < 3) ∧ True)))) ∧ (((((0 ≤ a ∧ a ≤ 2)) ∧ ((0 ≤ b ∧ b ≤ (ro w 92 a)))) → ((0 ≤ a ∧ a < 3) ∧ ((0 ≤ a ∧ a < 3) ∧ K (h 54 a) (sth h 54 a b)))) ∧ (¬ (((0 ≤ a ∧ a ≤ 2)) ∧ ((0 ≤ b ∧ b ≤ (ro w 92 a)))) → K (-1) h)))) :
    Ev w Y_X8_rule 0 [some (vR 0), some (vI a), some (vI b), none] [] h (rI K) := by
  refine e_iload_n (pc := 0) dX8_rule_0 rfl rfl ?_
  refine e_iconst (pc := 1) dX8_rule_1 ⟨by decide, by decide⟩ ?_
  refine e_iconst (pc := 2) dX8_rule_2 ⟨by decide, by decide⟩ ?_
  refine e_invS (pc := 3) (Y' := Y_X8_within) (as := [vI a, vI 0, vI 2]) (st := []) (lv0 := [some (vI a), some (vI 0), some (vI 2)]) dX8_rule_3 m_X8_within ul_2_130 ul_2_131 ⟨rfl, rfl⟩ rfl rfl rfl rfl rfl (c_X8_within w a 0 2 h) ?_
  rintro _ hz ⟨_, rfl, rfl, hh⟩
  rw [hh]
  show Ev w Y_X8_rule 6 [some (vR 0), some (vI a), some (vI b), none] [vI (b2i (0 ≤ a ∧ a ≤ 2))] h (rI K)
  have Ho := H.1
  have H := H.2
  have J1 : (((0 ≤ a ∧ a ≤ 2)) ∧ ((0 ≤ b ∧ b ≤ (ro w 92 a)))) → Ev w Y_X8_rule 24 [some (vR 0), some (vI a), some (vI b), none] [] h (rI K) := by
    intro hp
    have H := H.1 hp
    refine e_aload_n (pc := 24) dX8_rule_24 rfl rfl ?_
    refine e_getR (q := 0) (ci := 8) (k := 8) (y := 54) (C := RX8) (T := TX8) (N := 9) (pc := 25) dX8_rule_25 rfl rfl ev_in8 rfl ul_2_106 ⟨rfl, rfl⟩ rfl ?_
    refine e_iload_n (pc := 28) dX8_rule_28 rfl rfl ?_
    refine e_iald (q := 54) (x := (h 54 a)) (pc := 29) dX8_rule_29 rfl H.1 rfl ?_
    have H := H.2
    refine e_istore_n (lv' := [some (vR 0), some (vI a), some (vI b), some (vI (h 54 a))]) (pc := 30) dX8_rule_30 rfl rfl rfl ?_
    refine e_aload_n (pc := 31) dX8_rule_31 rfl rfl ?_
    refine e_getR (q := 0) (ci := 8) (k := 8) (y := 54) (C := RX8) (T := TX8) (N := 9) (pc := 32) dX8_rule_32 rfl rfl ev_in8 rfl ul_2_106 ⟨rfl, rfl⟩ rfl ?_
    refine e_iload_n (pc := 35) dX8_rule_35 rfl rfl ?_
    refine e_iload_n (pc := 36) dX8_rule_36 rfl rfl ?_
    refine e_iast (q := 54) (pc := 37) dX8_rule_37 rfl H.1 ?_
    have H := H.2
    refine e_iload_n (pc := 38) dX8_rule_38 rfl rfl ?_
    exact e_ret (pc := 39) (v := some (vI (h 54 a))) dX8_rule_39 rfl trivial ⟨_, rfl, H⟩
  have J2 : ¬ (((0 ≤ a ∧ a ≤ 2)) ∧ ((0 ≤ b ∧ b ≤ (ro w 92 a)))) → Ev w Y_X8_rule 22 [some (vR 0), some (vI a), some (vI b), none] [] h (rI K) := by
    intro hp
    have H := H.2 hp
    refine e_iconst (pc := 22) dX8_rule_22 ⟨by decide, by decide⟩ ?_
    exact e_ret (pc := 23) (v := some (vI (-1))) dX8_rule_23 rfl trivial ⟨_, rfl, H⟩
  refine e_ifb_eq (pc := 6) (tgt := 22) dX8_rule_6 (by decide) (fun c1 => ?_) (fun c1 => ?_)
  · have Ho := Ho.1 c1
    exact J2 (fun z => c1 z.1)
  · have Ho := Ho.2 c1
    refine e_iload_n (pc := 9) dX8_rule_9 rfl rfl ?_
    refine e_iconst (pc := 10) dX8_rule_10 ⟨by decide, by decide⟩ ?_
    refine e_gets (q := 92) (n := "TOP_OF_BOUND") (pc := 11) dX8_rule_11 (by decide) ul_2_181 ?_
    refine e_iload_n (pc := 14) dX8_rule_14 rfl rfl ?_
    refine e_rold (q := 92) (x := (ro w 92 a)) (pc := 15) dX8_rule_15 ⟨by decide, by decide⟩ Ho.1 rfl (ro_R w 92 _) ?_
    have Ho := Ho.2
    refine e_invS (pc := 16) (Y' := Y_X8_within) (as := [vI b, vI 0, vI (ro w 92 a)]) (st := []) (lv0 := [some (vI b), some (vI 0), some (vI (ro w 92 a))]) dX8_rule_16 m_X8_within ul_2_130 ul_2_131 ⟨rfl, rfl⟩ rfl rfl rfl rfl rfl (c_X8_within w b 0 (ro w 92 a) h) ?_
    rintro _ hz ⟨_, rfl, rfl, hh⟩
    rw [hh]
    show Ev w Y_X8_rule 19 [some (vR 0), some (vI a), some (vI b), none] [vI (b2i (0 ≤ b ∧ b ≤ (ro w 92 a)))] h (rI K)
    refine e_ifb_ne (pc := 19) (tgt := 24) dX8_rule_19 (by decide) (fun c2 => ?_) (fun c2 => ?_)
    · exact J1 ⟨c1, c2⟩
    · exact J2 (fun z => c2 z.2)
set_option maxRecDepth 100000 in
set_option maxHeartbeats 4000000 in
theorem c_X8_rule (w : WD) (a : Int) (b : Int) (h : HP) (K : Int → HP → Prop)  (H : S_X8_rule a b h K) : Ev w Y_X8_rule 0 [some (vR 0), some (vI a), some (vI b), none] [] h (rI K) := by
  exact v_X8_rule w a b h K ⟨⟨fun _ => trivial, fun c => ⟨by omega, trivial⟩⟩, fun c => ⟨by have := c.1; omega, by have := c.1; omega, H.1 ⟨c.1, by rw [← ro_bnd w c.1]; exact c.2⟩⟩, fun c => H.2 (fun y => c ⟨y.1, by rw [ro_bnd w y.1]; exact y.2⟩)⟩
def rHs (c m : HP) : Prop := HOK c ∧ mHOK m ∧ m 55 0 = c 1 7 ∧ m 56 = c 9 ∧ m 57 = c 10 ∧ m 58 = c 11 ∧ m 62 = c 14 ∧ (∀ t : Int, 0 ≤ t → t < 10 → m 60 t = dgt (c 1 8) t) ∧ (∀ t : Int, 0 ≤ t → t < c 1 7 → m 61 t = c 13 t) ∧ ∀ t : Int, c 1 7 ≤ t → t < 10 → c 13 t = -4
def rTx (c m : HP) : Prop := tOK c ∧ mtOK m ∧ m 55 16 = c 2 5 ∧ m 69 = c 16
def rRl (c m : HP) : Prop := fOK c ∧ mfOK m ∧ m 70 1 = c 2 6 ∧ ∀ k : Int, 0 ≤ k → k < c 2 6 → m 71 (240 + 6 * k) = c 18 k ∧ ∀ j : Nat, (j : Int) < nW (c 18 k) → m 71 (240 + 6 * k + 1 + (j : Int)) = c 19 (k * 5 + (j : Int))
def rVo (c m : HP) : Prop := VOK c ∧ mVOK m ∧ m 55 10 = c 3 6 ∧ m 64 = c 20 ∧ m 65 = c 21 ∧ m 66 = c 22 ∧ m 67 = c 23 ∧ m 63 = c 24 ∧ m 68 = c 54 ∧ ((0 ≤ c 54 0 ∧ c 54 0 ≤ 50) ∧ (0 ≤ c 54 1 ∧ c 54 1 ≤ 20) ∧ (0 ≤ c 54 2 ∧ c 54 2 ≤ 100)) ∧ ∀ j : Int, 0 ≤ j → j < 8 → (0 ≤ c 25 j ∧ c 25 j ≤ 15) ∧ m 84 j = c 25 j
def rHe (c m : HP) : Prop := EOK c ∧ mEOK m ∧ (c 4 12 = 0 ∨ c 4 12 = 1) ∧ m 55 20 = c 4 12 ∧ (c 4 12 = 1 → m 55 23 = c 4 15 ∧ m 55 21 = c 4 13 ∧ whM m = c 4 14 ∧ ∀ i : Int, 0 ≤ i → i < c 4 15 → m 72 i = c 26 i ∧ m 73 (3 * i) = c 27 i ∧ m 73 (3 * i + 1) = c 28 i ∧ m 73 (3 * i + 2) = nc (c 29 i) ∧ m 74 i = c 30 i ∧ m 75 i = c 31 i ∧ ∀ t : Int, c 1 7 ≤ t → t < 10 → ¬ mem (c 30 i) t)
def rDe (c m : HP) : Prop := (0 ≤ c 5 3 ∧ c 5 3 ≤ 200) ∧ m 55 29 = c 5 3 ∧ m 76 = c 36 ∧ m 77 = c 37 ∧ m 78 = c 38 ∧ (∀ i : Int, 0 ≤ i → i < c 5 3 → (0 ≤ c 36 i ∧ c 36 i < 1024) ∧ inS (c 37 i)) ∧ (∀ i : Int, c 5 3 ≤ i → c 38 i = 0) ∧ m 55 28 = c 5 4 ∧ (0 ≤ c 5 4 ∧ c 5 4 < 1024)
def stP (c m : HP) (s : Int) : Prop := ((c 39 s = -1 ∧ m 79 (5 * s) = 0 ∧ m 79 (5 * s + 1) = c 40 s ∧ m 79 (5 * s + 2) = 0) ∨ (0 ≤ c 39 s ∧ m 79 (5 * s) = 1 ∧ m 79 (5 * s + 1) = c 39 s ∧ m 79 (5 * s + 2) = c 40 s)) ∧ m 79 (5 * s + 3) = c 41 s ∧ m 79 (5 * s + 4) = c 42 s
def rSt (c m : HP) : Prop := SOK c ∧ MSOK m ∧ m 55 33 = c 6 7 ∧ ∀ s : Int, 0 ≤ s → s < c 6 7 → stP c m s
def rLg (c m : HP) : Prop := ∃ L : List LE, lgC c L ∧ lgM m L ∧ lgOK L (c 1 7)
def rNm (n : Nat) (c m : HP) : Prop := m 55 8 = c 1 9 ∧ m 55 35 = c 6 8 ∧ m 55 38 = c 8 7 ∧ (∀ t : Int, 0 ≤ t → t < 10 → m 59 t = c 12 t ∧ 0 ≤ c 12 t ∧ c 12 t ≤ 30000 * (n : Int)) ∧ (0 ≤ c 1 9 ∧ c 1 9 ≤ 100 * (n : Int)) ∧ (0 ≤ c 6 8 ∧ c 6 8 ≤ 30000 * (n : Int)) ∧ (0 ≤ c 8 7 ∧ c 8 7 ≤ 60 * (n : Int))
def Rel (n : Nat) (c m : HP) : Prop := rHs c m ∧ rTx c m ∧ rRl c m ∧ rVo c m ∧ rHe c m ∧ rDe c m ∧ rSt c m ∧ rLg c m ∧ rNm n c m
theorem rHs_c {c m c' m' : HP} (h : rHs c m) (e : c' 1 7 = c 1 7 ∧ c' 1 8 = c 1 8 ∧ c' 9 = c 9 ∧ c' 10 = c 10 ∧ c' 11 = c 11 ∧ c' 13 = c 13 ∧ c' 14 = c 14 ∧ c' 15 = c 15) (f : m' 55 0 = m 55 0 ∧ m' 56 = m 56 ∧ m' 57 = m 57 ∧ m' 58 = m 58 ∧ m' 60 = m 60 ∧ m' 61 = m 61 ∧ m' 62 = m 62) : rHs c' m' := by
  obtain ⟨e1, e2, e3, e4, e5, e6, e7, e8⟩ := e
  obtain ⟨f1, f2, f3, f4, f5, f6, f7⟩ := f
  unfold rHs
  rw [e1, e2, e3, e4, e5, e6, e7, f1, f2, f3, f4, f5, f6, f7]
  exact ⟨HOK_c e1 e2 e3 e4 e5 e7 e8 h.1, mHOK_c f1 f2 f3 f4 f5 f7 h.2.1, h.2.2⟩
theorem rTx_c {c m c' m' : HP} (h : rTx c m) (e : c' 2 5 = c 2 5 ∧ c' 16 = c 16) (f : m' 55 16 = m 55 16 ∧ m' 69 = m 69) : rTx c' m' := by
  unfold rTx tOK mtOK
  rw [e.1, e.2, f.1, f.2]
  exact h
theorem rRl_c {c m c' m' : HP} (h : rRl c m) (e : c' 2 6 = c 2 6 ∧ c' 18 = c 18 ∧ c' 19 = c 19) (f : m' 70 1 = m 70 1 ∧ m' 71 = m 71) : rRl c' m' := by
  unfold rRl fOK mfOK
  rw [e.1, e.2.1, e.2.2, f.1, f.2]
  exact h
theorem rVo_c {c m c' m' : HP} (h : rVo c m) (e : c' 3 6 = c 3 6 ∧ c' 20 = c 20 ∧ c' 21 = c 21 ∧ c' 22 = c 22 ∧ c' 23 = c 23 ∧ c' 24 = c 24 ∧ c' 25 = c 25 ∧ c' 54 = c 54) (f : m' 55 10 = m 55 10 ∧ m' 63 = m 63 ∧ m' 64 = m 64 ∧ m' 65 = m 65 ∧ m' 66 = m 66 ∧ m' 67 = m 67 ∧ m' 68 = m 68 ∧ m' 84 = m 84) : rVo c' m' := by
  obtain ⟨e1, e2, e3, e4, e5, e6, e7, e8⟩ := e
  obtain ⟨f1, f2, f3, f4, f5, f6, f7, f8⟩ := f
  unfold rVo VOK mVOK
  rw [e1, e2, e3, e4, e5, e6, e7, e8, f1, f2, f3, f4, f5, f6, f7, f8]
  exact h
theorem rHe_c {c m c' m' : HP} (h : rHe c m) (e : c' 4 12 = c 4 12 ∧ c' 4 13 = c 4 13 ∧ c' 4 14 = c 4 14 ∧ c' 4 15 = c 4 15 ∧ c' 26 = c 26 ∧ c' 27 = c 27 ∧ c' 28 = c 28 ∧ c' 29 = c 29 ∧ c' 30 = c 30 ∧ c' 31 = c 31 ∧ c' 3 6 = c 3 6 ∧ c' 20 = c 20 ∧ c' 1 7 = c 1 7) (f : m' 55 20 = m 55 20 ∧ m' 55 21 = m 55 21 ∧ m' 55 22 = m 55 22 ∧ m' 55 23 = m 55 23 ∧ m' 55 10 = m 55 10 ∧ m' 64 = m 64 ∧ m' 72 = m 72 ∧ m' 73 = m 73 ∧ m' 74 = m 74 ∧ m' 75 = m 75) : rHe c' m' := by
  obtain ⟨e1, e2, e3, e4, e5, e6, e7, e8, e9, e10, e11, e12, e13⟩ := e
  obtain ⟨f1, f2, f3, f4, f5, f6, f7, f8, f9, f10⟩ := f
  unfold rHe EOK mEOK whM
  rw [e1, e2, e3, e4, e5, e6, e7, e8, e9, e10, e11, e12, e13, f1, f2, f3, f4, f5, f6, f7, f8, f9, f10]
  exact h
theorem rDe_c {c m c' m' : HP} (h : rDe c m) (e : c' 5 3 = c 5 3 ∧ c' 5 4 = c 5 4 ∧ c' 36 = c 36 ∧ c' 37 = c 37 ∧ c' 38 = c 38) (f : m' 55 29 = m 55 29 ∧ m' 55 28 = m 55 28 ∧ m' 76 = m 76 ∧ m' 77 = m 77 ∧ m' 78 = m 78) : rDe c' m' := by
  obtain ⟨e1, e2, e3, e4, e5⟩ := e
  obtain ⟨f1, f2, f3, f4, f5⟩ := f
  unfold rDe
  rw [e1, e2, e3, e4, e5, f1, f2, f3, f4, f5]
  exact h
theorem rSt_c {c m c' m' : HP} (h : rSt c m) (e : c' 6 7 = c 6 7 ∧ c' 39 = c 39 ∧ c' 40 = c 40 ∧ c' 41 = c 41 ∧ c' 42 = c 42 ∧ c' 1 7 = c 1 7) (f : m' 55 33 = m 55 33 ∧ m' 55 0 = m 55 0 ∧ m' 79 = m 79) : rSt c' m' := by
  obtain ⟨e1, e2, e3, e4, e5, e6⟩ := e
  obtain ⟨f1, f2, f3⟩ := f
  unfold rSt SOK MSOK stP
  rw [e1, e2, e3, e4, e5, e6, f1, f2, f3]
  exact h
theorem rLg_c {c m c' m' : HP} (h : rLg c m) (e : c' 8 6 = c 8 6 ∧ c' 48 = c 48 ∧ c' 49 = c 49 ∧ c' 50 = c 50 ∧ c' 51 = c 51 ∧ c' 52 = c 52 ∧ c' 1 7 = c 1 7) (f : m' 55 36 = m 55 36 ∧ m' 80 = m 80) : rLg c' m' := by
  obtain ⟨e1, e2, e3, e4, e5, e6, e7⟩ := e
  unfold rLg lgC lgM leC leM
  rw [e1, e2, e3, e4, e5, e6, e7, f.1, f.2]
  exact h
theorem rNm_c {n : Nat} {c m c' m' : HP} (h : rNm n c m) (e : c' 1 9 = c 1 9 ∧ c' 12 = c 12 ∧ c' 6 8 = c 6 8 ∧ c' 8 7 = c 8 7) (f : m' 55 8 = m 55 8 ∧ m' 59 = m 59 ∧ m' 55 35 = m 55 35 ∧ m' 55 38 = m 55 38) : rNm (n + 1) c' m' := by
  obtain ⟨e1, e2, e3, e4⟩ := e
  obtain ⟨f1, f2, f3, f4⟩ := f
  unfold rNm at h ⊢
  rw [e1, e2, e3, e4, f1, f2, f3, f4]
  exact ⟨h.1, h.2.1, h.2.2.1, fun t a b => ⟨(h.2.2.2.1 t a b).1, (h.2.2.2.1 t a b).2.1, by have := (h.2.2.2.1 t a b).2.2; omega⟩, by have := h.2.2.2.2.1; omega, by have := h.2.2.2.2.2.1; omega, by have := h.2.2.2.2.2.2; omega⟩
theorem rNm_s {n : Nat} {c m c' m' : HP} (h : rNm n c m) (e : c' 1 9 = c 1 9 ∧ c' 12 = c 12 ∧ c' 6 8 = c 6 8 ∧ c' 8 7 = c 8 7) (f : m' 55 8 = m 55 8 ∧ m' 59 = m 59 ∧ m' 55 35 = m 55 35 ∧ m' 55 38 = m 55 38) : rNm n c' m' := by
  obtain ⟨e1, e2, e3, e4⟩ := e
  obtain ⟨f1, f2, f3, f4⟩ := f
  unfold rNm at h ⊢
  rw [e1, e2, e3, e4, f1, f2, f3, f4]
  exact h
theorem Rel_c {n : Nat} {c m c' m' : HP} (h : Rel n c m) (e : ∀ q, q < 55 → c' q = c q) (f : ∀ q, 55 ≤ q → m' q = m q) : Rel n c' m' := by
  obtain ⟨h1, h2, h3, h4, h5, h6, h7, h8, h9⟩ := h
  exact ⟨rHs_c h1 (by (repeat' apply And.intro) <;> first | (apply e <;> decide) | (refine congrFun ?_ _; apply e <;> decide) | rfl) (by (repeat' apply And.intro) <;> first | (apply f <;> decide) | (refine congrFun ?_ _; apply f <;> decide) | rfl), rTx_c h2 (by (repeat' apply And.intro) <;> first | (apply e <;> decide) | (refine congrFun ?_ _; apply e <;> decide) | rfl) (by (repeat' apply And.intro) <;> first | (apply f <;> decide) | (refine congrFun ?_ _; apply f <;> decide) | rfl), rRl_c h3 (by (repeat' apply And.intro) <;> first | (apply e <;> decide) | (refine congrFun ?_ _; apply e <;> decide) | rfl) (by (repeat' apply And.intro) <;> first | (apply f <;> decide) | (refine congrFun ?_ _; apply f <;> decide) | rfl), rVo_c h4 (by (repeat' apply And.intro) <;> first | (apply e <;> decide) | (refine congrFun ?_ _; apply e <;> decide) | rfl) (by (repeat' apply And.intro) <;> first | (apply f <;> decide) | (refine congrFun ?_ _; apply f <;> decide) | rfl), rHe_c h5 (by (repeat' apply And.intro) <;> first | (apply e <;> decide) | (refine congrFun ?_ _; apply e <;> decide) | rfl) (by (repeat' apply And.intro) <;> first | (apply f <;> decide) | (refine congrFun ?_ _; apply f <;> decide) | rfl), rDe_c h6 (by (repeat' apply And.intro) <;> first | (apply e <;> decide) | (refine congrFun ?_ _; apply e <;> decide) | rfl) (by (repeat' apply And.intro) <;> first | (apply f <;> decide) | (refine congrFun ?_ _; apply f <;> decide) | rfl), rSt_c h7 (by (repeat' apply And.intro) <;> first | (apply e <;> decide) | (refine congrFun ?_ _; apply e <;> decide) | rfl) (by (repeat' apply And.intro) <;> first | (apply f <;> decide) | (refine congrFun ?_ _; apply f <;> decide) | rfl), rLg_c h8 (by (repeat' apply And.intro) <;> first | (apply e <;> decide) | (refine congrFun ?_ _; apply e <;> decide) | rfl) (by (repeat' apply And.intro) <;> first | (apply f <;> decide) | (refine congrFun ?_ _; apply f <;> decide) | rfl), rNm_s h9 (by (repeat' apply And.intro) <;> first | (apply e <;> decide) | (refine congrFun ?_ _; apply e <;> decide) | rfl) (by (repeat' apply And.intro) <;> first | (apply f <;> decide) | (refine congrFun ?_ _; apply f <;> decide) | rfl)⟩
/-- nothing changed -/
theorem Rel_u {n : Nat} {c : HP} (h : Rel n c c) : Rel (n + 1) c c := by
  obtain ⟨h1, h2, h3, h4, h5, h6, h7, h8, h9⟩ := h
  exact ⟨h1, h2, h3, h4, h5, h6, h7, h8, rNm_c h9 ⟨rfl, rfl, rfl, rfl⟩ ⟨rfl, rfl, rfl, rfl⟩⟩
def Fin (n : Nat) (r : Int) (r' : Int) (m' : HP) : Prop := r = r' ∧ Rel (n + 1) m' m'
theorem Fin_u {n : Nat} {r r' : Int} {c : HP} (h : Rel n c c) (e : r = r') : Fin n r r' c := ⟨e, Rel_u h⟩
theorem Fin_m {n : Nat} {r r' : Int} {c' m' : HP} (h : Rel (n + 1) c' m') (e : r = r') (f : ∀ q, q < 55 → m' q = c' q) : Fin n r r' m' := ⟨e, Rel_c h f (fun _ _ => rfl)⟩
/-! rights and bars alike -/
theorem let_eq {c m : HP} {k fo t hr : Int} (hr : rRl c m) (hh : rHs c m) (hk : 0 ≤ k ∧ k < c 2 6) {hour : Int} : cLet c k fo t hour ↔ mLet m k fo t hour := by
  obtain ⟨_, _, _, h4⟩ := hr
  obtain ⟨e1, e2⟩ := h4 k hk.1 hk.2
  unfold cLet mLet
  rw [e1, hh.2.2.2.1, hh.2.2.2.2.1]
  by_cases z : c 18 k = 114
  · have w : nW (c 18 k) = 5 := by rw [z]; rfl
    have a0 := e2 0 (by rw [w]; decide)
    have a1 := e2 1 (by rw [w]; decide)
    have a2 := e2 2 (by rw [w]; decide)
    have a3 := e2 3 (by rw [w]; decide)
    have a4 := e2 4 (by rw [w]; decide)
    rw [show 240 + 6 * k + 1 = 240 + 6 * k + 1 + ((0 : Nat) : Int) by omega, show 240 + 6 * k + 2 = 240 + 6 * k + 1 + ((1 : Nat) : Int) by omega, show 240 + 6 * k + 3 = 240 + 6 * k + 1 + ((2 : Nat) : Int) by omega, show 240 + 6 * k + 4 = 240 + 6 * k + 1 + ((3 : Nat) : Int) by omega, show 240 + 6 * k + 5 = 240 + 6 * k + 1 + ((4 : Nat) : Int) by omega, a0, a1, a2, a3, a4]
    rw [show k * 5 + ((0 : Nat) : Int) = k * 5 by omega]
    exact Iff.rfl
  · exact ⟨fun y => absurd y.1 z, fun y => absurd y.1 z⟩
theorem emp_eq {c m : HP} (hh : rHs c m) {t : Int} (ht : 0 ≤ t ∧ t < 10) : c 15 (c 9 t) = 0 ↔ ∀ f : Int, 0 ≤ f → f < 6 → ¬ m 62 f = m 56 t := by
  have h9 := (hh.1.2.1 t ht.1 ht.2).1
  rw [hh.1.2.2.2.2.2 (c 9 t) h9.1 (by omega), hh.2.2.2.1, hh.2.2.2.2.2.2.1]
  constructor
  · intro y f f0 f1 e
    have := cnt_lt (p := fun _ => False) (q := fun f => c 14 f = c 9 t) (n := 6) (fun _ _ _ z => z.elim) ⟨f, f0, f1, e, fun z => z⟩
    have := cnt_b (fun _ => False) 6
    omega
  · intro y
    have h0 := cnt_b (fun f => c 14 f = c 9 t) 6
    apply Classical.byContradiction
    intro z
    obtain ⟨i, a, b, d⟩ := cnt_ex (p := fun f => c 14 f = c 9 t) (n := 6) (by omega)
    exact y i a b d
theorem bar_eq {c m : HP} {k : Int} (hr : rRl c m) (hh : rHs c m) (hk : 0 ≤ k ∧ k < c 2 6) {s s' : Int → Int} (hs : ∀ t : Int, 0 ≤ t → t < 10 → s t = s' t) : cBar c k s ↔ mBrF m k s' := by
  obtain ⟨h1, _, _, h4⟩ := hr
  obtain ⟨e1, e2⟩ := h4 k hk.1 hk.2
  have ho := h1.2 k hk.1 hk.2
  unfold cBar mBrF iBar
  rw [e1]
  rcases ho with o | o | o
  · rw [o.1]
    exact ⟨fun y => by rcases y with y | y <;> exact absurd y.1 (by decide), fun y => by rcases y with y | y <;> exact absurd y.1 (by decide)⟩
  · have w : nW (c 18 k) = 4 := by rw [o.1]; rfl
    have a0 := e2 0 (by rw [w]; decide)
    have a1 := e2 1 (by rw [w]; decide)
    have a2 := e2 2 (by rw [w]; decide)
    have a3 := e2 3 (by rw [w]; decide)
    rw [show 240 + 6 * k + 1 = 240 + 6 * k + 1 + ((0 : Nat) : Int) by omega, show 240 + 6 * k + 2 = 240 + 6 * k + 1 + ((1 : Nat) : Int) by omega, show 240 + 6 * k + 3 = 240 + 6 * k + 1 + ((2 : Nat) : Int) by omega, show 240 + 6 * k + 4 = 240 + 6 * k + 1 + ((3 : Nat) : Int) by omega, a0, a1, a2, a3]
    rw [show k * 5 + ((0 : Nat) : Int) = k * 5 by omega, show k * 5 + ((1 : Nat) : Int) = k * 5 + 1 by omega, show k * 5 + ((2 : Nat) : Int) = k * 5 + 2 by omega, show k * 5 + ((3 : Nat) : Int) = k * 5 + 3 by omega]
    rw [hs _ o.2.1.1 o.2.1.2, hs _ o.2.2.2.1.1 o.2.2.2.1.2, o.1]
    exact ⟨fun y => by rcases y with y | y; exact Or.inl y; exact absurd y.1 (by decide), fun y => by rcases y with y | y; exact Or.inl y; exact absurd y.1 (by decide)⟩
  · have w : nW (c 18 k) = 2 := by rw [o.1]; rfl
    have a0 := e2 0 (by rw [w]; decide)
    have a1 := e2 1 (by rw [w]; decide)
    rw [show 240 + 6 * k + 1 = 240 + 6 * k + 1 + ((0 : Nat) : Int) by omega, show 240 + 6 * k + 2 = 240 + 6 * k + 1 + ((1 : Nat) : Int) by omega, a0, a1]
    rw [show k * 5 + ((0 : Nat) : Int) = k * 5 by omega, show k * 5 + ((1 : Nat) : Int) = k * 5 + 1 by omega]
    rw [hs _ o.2.1.1 o.2.1.2, o.1]
    have he := emp_eq hh (t := c 19 (k * 5)) o.2.1
    exact ⟨fun y => by rcases y with y | y; exact absurd y.1 (by decide); exact Or.inr ⟨y.1, y.2.1, he.mp y.2.2⟩, fun y => by rcases y with y | y; exact absurd y.1 (by decide); exact Or.inr ⟨y.1, y.2.1, he.mpr y.2.2⟩⟩
theorem nb_eq {c m : HP} (hr : rRl c m) (hh : rHs c m) {f f' g g' : Int → Int} (h1 : agr 10 f g) (h2 : agr 10 f' g') : cNB c f f' ↔ mNB m g g' := by
  unfold cNB mNB
  have e := hr.2.2.1
  rw [e]
  exact ⟨fun ⟨k, a, b, d, e⟩ => ⟨k, a, b, (bar_eq hr hh ⟨a, b⟩ h2).mp d, fun y => e ((bar_eq hr hh ⟨a, b⟩ h1).mpr y)⟩, fun ⟨k, a, b, d, e⟩ => ⟨k, a, b, (bar_eq hr hh ⟨a, b⟩ h2).mpr d, fun y => e ((bar_eq hr hh ⟨a, b⟩ h1).mp y)⟩⟩
