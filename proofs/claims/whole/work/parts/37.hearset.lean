/-! what is heard: the cells that are set -/
theorem HOK_c {h h' : HP} (h1 : h' 1 7 = h 1 7) (h2 : h' 1 8 = h 1 8) (h3 : h' 9 = h 9) (h4 : h' 10 = h 10) (h5 : h' 11 = h 11) (h6 : h' 14 = h 14) (h7 : h' 15 = h 15) (hf : HOK h) : HOK h' := by unfold HOK; rw [h1, h2, h3, h4, h5, h6, h7]; exact hf
def S_X3_begin (a1 : Int) (a2 : Int) (h : HP) (K : HP → Prop) : Prop :=
  K (sth (sth (sth (sth h 4 12 1) 4 13 a1) 4 14 a2) 4 15 0)
set_option maxRecDepth 100000 in
set_option maxHeartbeats 4000000 in
theorem v_X3_begin (w : WD) (a1 : Int) (a2 : Int) (h : HP) (K : HP → Prop) 
    (H : K (sth (sth (sth (sth h 4 12 1) 4 13 a1) 4 14 a2) 4 15 0)) :
    Ev w Y_X3_begin 0 [some (vR 4), some (vI a1), some (vI a2)] [] h (rV K) := by
  refine e_aload_n (pc := 0) dX3_begin_0 rfl rfl ?_
  refine e_iconst (pc := 1) dX3_begin_1 ⟨by decide, by decide⟩ ?_
  refine e_put (q := 4) (ci := 3) (k := 12) (kz := 12) (C := RX3) (T := TX3) (N := 16) (ty := .boolean) (pc := 2) dX3_begin_2 rfl rfl rfl ev_in3 tyX3 tyX3_ok nmX3 rfl ul_1_165 ⟨rfl, by decide⟩ rfl (tyX3_ok 12 (by decide)) (Or.inr ⟨rfl, (Or.inr rfl)⟩) ?_
  refine e_aload_n (pc := 5) dX3_begin_5 rfl rfl ?_
  refine e_iload_n (pc := 6) dX3_begin_6 rfl rfl ?_
  refine e_put (q := 4) (ci := 3) (k := 13) (kz := 13) (C := RX3) (T := TX3) (N := 16) (ty := .int) (pc := 7) dX3_begin_7 rfl rfl rfl ev_in3 tyX3 tyX3_ok nmX3 rfl ul_1_167 ⟨rfl, by decide⟩ rfl (tyX3_ok 13 (by decide)) (Or.inl rfl) ?_
  refine e_aload_n (pc := 10) dX3_begin_10 rfl rfl ?_
  refine e_iload_n (pc := 11) dX3_begin_11 rfl rfl ?_
  refine e_put (q := 4) (ci := 3) (k := 14) (kz := 14) (C := RX3) (T := TX3) (N := 16) (ty := .int) (pc := 12) dX3_begin_12 rfl rfl rfl ev_in3 tyX3 tyX3_ok nmX3 rfl ul_1_169 ⟨rfl, by decide⟩ rfl (tyX3_ok 14 (by decide)) (Or.inl rfl) ?_
  refine e_aload_n (pc := 15) dX3_begin_15 rfl rfl ?_
  refine e_iconst (pc := 16) dX3_begin_16 ⟨by decide, by decide⟩ ?_
  refine e_put (q := 4) (ci := 3) (k := 15) (kz := 15) (C := RX3) (T := TX3) (N := 16) (ty := .int) (pc := 17) dX3_begin_17 rfl rfl rfl ev_in3 tyX3 tyX3_ok nmX3 rfl ul_1_171 ⟨rfl, by decide⟩ rfl (tyX3_ok 15 (by decide)) (Or.inl rfl) ?_
  exact e_ret (pc := 20) (v := none) dX3_begin_20 rfl trivial ⟨rfl, H⟩
theorem c_X3_begin (w : WD) (a1 : Int) (a2 : Int) (h : HP) (K : HP → Prop)  (H : S_X3_begin a1 a2 h K) : Ev w Y_X3_begin 0 [some (vR 4), some (vI a1), some (vI a2)] [] h (rV K) := v_X3_begin w a1 a2 h K  H
def S_X3_end  (h : HP) (K : HP → Prop) : Prop :=
  K (sth (sth h 4 12 0) 4 15 0)
set_option maxRecDepth 100000 in
set_option maxHeartbeats 4000000 in
theorem v_X3_end (w : WD)  (h : HP) (K : HP → Prop) 
    (H : K (sth (sth h 4 12 0) 4 15 0)) :
    Ev w Y_X3_end 0 [some (vR 4)] [] h (rV K) := by
  refine e_aload_n (pc := 0) dX3_end_0 rfl rfl ?_
  refine e_iconst (pc := 1) dX3_end_1 ⟨by decide, by decide⟩ ?_
  refine e_put (q := 4) (ci := 3) (k := 12) (kz := 12) (C := RX3) (T := TX3) (N := 16) (ty := .boolean) (pc := 2) dX3_end_2 rfl rfl rfl ev_in3 tyX3 tyX3_ok nmX3 rfl ul_1_165 ⟨rfl, by decide⟩ rfl (tyX3_ok 12 (by decide)) (Or.inr ⟨rfl, (Or.inl rfl)⟩) ?_
  refine e_aload_n (pc := 5) dX3_end_5 rfl rfl ?_
  refine e_iconst (pc := 6) dX3_end_6 ⟨by decide, by decide⟩ ?_
  refine e_put (q := 4) (ci := 3) (k := 15) (kz := 15) (C := RX3) (T := TX3) (N := 16) (ty := .int) (pc := 7) dX3_end_7 rfl rfl rfl ev_in3 tyX3 tyX3_ok nmX3 rfl ul_1_171 ⟨rfl, by decide⟩ rfl (tyX3_ok 15 (by decide)) (Or.inl rfl) ?_
  exact e_ret (pc := 10) (v := none) dX3_end_10 rfl trivial ⟨rfl, H⟩
theorem c_X3_end (w : WD)  (h : HP) (K : HP → Prop)  (H : S_X3_end  h K) : Ev w Y_X3_end 0 [some (vR 4)] [] h (rV K) := v_X3_end w  h K  H
def S_X3_tell (a1 : Int) (a2 : Int) (h : HP) (K : Int → HP → Prop) : Prop :=
  (((((h 4 12) = 0) ∨ (¬ a1 < (h 4 15))) → K (-4) h) ∧ (¬ (((h 4 12) = 0) ∨ (¬ a1 < (h 4 15))) → ((a2 = 0 → ((0 ≤ a1 ∧ a1 < 12) ∧ K (h 26 a1) h)) ∧ ((a2 = 1 → ((0 ≤ a1 ∧ a1 < 12) ∧ K (h 27 a1) h)) ∧ ((a2 = 2 → ((0 ≤ a1 ∧ a1 < 12) ∧ K (h 28 a1) h)) ∧ ((a2 = 3 → ((0 ≤ a1 ∧ a1 < 12) ∧ ((((¬ (h 29 a1) = (-1) → ((0 ≤ a1 ∧ a1 < 12) ∧ True)) ∧ ((h 29 a1) = (-1) → True))) ∧ K (cif (¬ (h 29 a1) = (-1)) (h 29 a1) (-4)) h))) ∧ ((a2 < 0 ∨ 3 < a2) → ((0 ≤ a1 ∧ a1 < 12) ∧ K (h 30 a1) h))))))))
set_option maxRecDepth 100000 in
set_option maxHeartbeats 4000000 in
theorem v_X3_tell (w : WD) (a1 : Int) (a2 : Int) (h : HP) (K : Int → HP → Prop) 
    (H : (((((h 4 12) = 0) ∨ (¬ a1 < (h 4 15))) → K (-4) h) ∧ (¬ (((h 4 12) = 0) ∨ (¬ a1 < (h 4 15))) → ((a2 = 0 → ((0 ≤ a1 ∧ a1 < 12) ∧ K (h 26 a1) h)) ∧ ((a2 = 1 → ((0 ≤ a1 ∧ a1 < 12) ∧ K (h 27 a1) h)) ∧ ((a2 = 2 → ((0 ≤ a1 ∧ a1 < 12) ∧ K (h 28 a1) h)) ∧ ((a2 = 3 → ((0 ≤ a1 ∧ a1 < 12) ∧ ((((¬ (h 29 a1) = (-1) → ((0 ≤ a1 ∧ a1 < 12) ∧ True)) ∧ ((h 29 a1) = (-1) → True))) ∧ K (cif (¬ (h 29 a1) = (-1)) (h 29 a1) (-4)) h))) ∧ ((a2 < 0 ∨ 3 < a2) → ((0 ≤ a1 ∧ a1 < 12) ∧ K (h 30 a1) h))))))))) :
    Ev w Y_X3_tell 0 [some (vR 4), some (vI a1), some (vI a2)] [] h (rI K) := by
  refine e_aload_n (pc := 0) dX3_tell_0 rfl rfl ?_
  refine e_getI (q := 4) (ci := 3) (k := 12) (kz := 12) (C := RX3) (T := TX3) (N := 16) (x := (h 4 12)) (pc := 1) dX3_tell_1 rfl rfl rfl ev_in3 rfl ul_1_165 ⟨rfl, by decide⟩ rfl ?_
  have J1 : (((h 4 12) = 0) ∨ (¬ a1 < (h 4 15))) → Ev w Y_X3_tell 15 [some (vR 4), some (vI a1), some (vI a2)] [] h (rI K) := by
    intro hp
    have H := H.1 hp
    refine e_bipush (pc := 15) dX3_tell_15 ⟨by decide, by decide⟩ (by decide) ?_
    exact e_ret (pc := 17) (v := some (vI (-4))) dX3_tell_17 rfl trivial ⟨_, rfl, H⟩
  have J2 : ¬ (((h 4 12) = 0) ∨ (¬ a1 < (h 4 15))) → Ev w Y_X3_tell 18 [some (vR 4), some (vI a1), some (vI a2)] [] h (rI K) := by
    intro hp
    have H := H.2 hp
    refine e_iload_n (pc := 18) dX3_tell_18 rfl rfl ?_
    refine e_table (pc := 19) dX3_tell_19 (fun c1 => ?_) (fun c2 c3 => ?_)
    · have H := H.2.2.2.2 c1
      refine ⟨91, by decide, ?_⟩
      refine e_aload_n (pc := 91) dX3_tell_91 rfl rfl ?_
      refine e_getR (q := 4) (ci := 3) (k := 6) (y := 30) (C := RX3) (T := TX3) (N := 16) (pc := 92) dX3_tell_92 rfl rfl ev_in3 rfl ul_1_158 ⟨rfl, rfl⟩ rfl ?_
      refine e_iload_n (pc := 95) dX3_tell_95 rfl rfl ?_
      refine e_iald (q := 30) (x := (h 30 a1)) (pc := 96) dX3_tell_96 rfl H.1 rfl ?_
      have H := H.2
      exact e_ret (pc := 97) (v := some (vI (h 30 a1))) dX3_tell_97 rfl trivial ⟨_, rfl, H⟩
    · have c1 : a2 = 0 ∨ a2 = 1 ∨ a2 = 2 ∨ a2 = 3 := by omega
      rcases c1 with c1 | c1 | c1 | c1
      · have H := H.1 c1
        refine ⟨29, 48, by rw [c1]; rfl, by decide, ?_⟩
        refine e_aload_n (pc := 48) dX3_tell_48 rfl rfl ?_
        refine e_getR (q := 4) (ci := 3) (k := 2) (y := 26) (C := RX3) (T := TX3) (N := 16) (pc := 49) dX3_tell_49 rfl rfl ev_in3 rfl ul_1_153 ⟨rfl, rfl⟩ rfl ?_
        refine e_iload_n (pc := 52) dX3_tell_52 rfl rfl ?_
        refine e_iald (q := 26) (x := (h 26 a1)) (pc := 53) dX3_tell_53 rfl H.1 rfl ?_
        have H := H.2
        exact e_ret (pc := 54) (v := some (vI (h 26 a1))) dX3_tell_54 rfl trivial ⟨_, rfl, H⟩
      · have H := H.2.1 c1
        refine ⟨36, 55, by rw [c1]; rfl, by decide, ?_⟩
        refine e_aload_n (pc := 55) dX3_tell_55 rfl rfl ?_
        refine e_getR (q := 4) (ci := 3) (k := 3) (y := 27) (C := RX3) (T := TX3) (N := 16) (pc := 56) dX3_tell_56 rfl rfl ev_in3 rfl ul_1_154 ⟨rfl, rfl⟩ rfl ?_
        refine e_iload_n (pc := 59) dX3_tell_59 rfl rfl ?_
        refine e_iald (q := 27) (x := (h 27 a1)) (pc := 60) dX3_tell_60 rfl H.1 rfl ?_
        have H := H.2
        exact e_ret (pc := 61) (v := some (vI (h 27 a1))) dX3_tell_61 rfl trivial ⟨_, rfl, H⟩
      · have H := H.2.2.1 c1
        refine ⟨43, 62, by rw [c1]; rfl, by decide, ?_⟩
        refine e_aload_n (pc := 62) dX3_tell_62 rfl rfl ?_
        refine e_getR (q := 4) (ci := 3) (k := 4) (y := 28) (C := RX3) (T := TX3) (N := 16) (pc := 63) dX3_tell_63 rfl rfl ev_in3 rfl ul_1_156 ⟨rfl, rfl⟩ rfl ?_
        refine e_iload_n (pc := 66) dX3_tell_66 rfl rfl ?_
        refine e_iald (q := 28) (x := (h 28 a1)) (pc := 67) dX3_tell_67 rfl H.1 rfl ?_
        have H := H.2
        exact e_ret (pc := 68) (v := some (vI (h 28 a1))) dX3_tell_68 rfl trivial ⟨_, rfl, H⟩
      · have H := H.2.2.2.1 c1
        refine ⟨50, 69, by rw [c1]; rfl, by decide, ?_⟩
        refine e_aload_n (pc := 69) dX3_tell_69 rfl rfl ?_
        refine e_getR (q := 4) (ci := 3) (k := 5) (y := 29) (C := RX3) (T := TX3) (N := 16) (pc := 70) dX3_tell_70 rfl rfl ev_in3 rfl ul_1_157 ⟨rfl, rfl⟩ rfl ?_
        refine e_iload_n (pc := 73) dX3_tell_73 rfl rfl ?_
        refine e_iald (q := 29) (x := (h 29 a1)) (pc := 74) dX3_tell_74 rfl H.1 rfl ?_
        have H := H.2
        refine e_iconst (pc := 75) dX3_tell_75 ⟨by decide, by decide⟩ ?_
        have J : Ev w Y_X3_tell 90 [some (vR 4), some (vI a1), some (vI a2)] [vI (cif (¬ (h 29 a1) = (-1)) (h 29 a1) (-4))] h (rI K) := by
          have H := H.2
          exact e_ret (pc := 90) (v := some (vI (cif (¬ (h 29 a1) = (-1)) (h 29 a1) (-4)))) dX3_tell_90 rfl trivial ⟨_, rfl, H⟩
        have Ho := H.1
        refine e_icmp_ne (pc := 76) (tgt := 84) dX3_tell_76 (by decide) (fun c4 => ?_) (fun c4 => ?_)
        · have Ho := Ho.1 c4
          refine e_aload_n (pc := 84) dX3_tell_84 rfl rfl ?_
          refine e_getR (q := 4) (ci := 3) (k := 5) (y := 29) (C := RX3) (T := TX3) (N := 16) (pc := 85) dX3_tell_85 rfl rfl ev_in3 rfl ul_1_157 ⟨rfl, rfl⟩ rfl ?_
          refine e_iload_n (pc := 88) dX3_tell_88 rfl rfl ?_
          refine e_iald (q := 29) (x := (h 29 a1)) (pc := 89) dX3_tell_89 rfl Ho.1 rfl ?_
          have Ho := Ho.2
          exact e_top (cif_t c4) J
        · have Ho := Ho.2 c4
          refine e_bipush (pc := 79) dX3_tell_79 ⟨by decide, by decide⟩ (by decide) ?_
          refine e_goto (pc := 81) (tgt := 90) dX3_tell_81 (by decide) ?_
          exact e_top (cif_f (fun z => z c4)) J
  refine e_if_eq (pc := 4) (tgt := 15) dX3_tell_4 (by decide) (fun c5 => ?_) (fun c5 => ?_)
  · exact J1 (Or.inl c5)
  · refine e_iload_n (pc := 7) dX3_tell_7 rfl rfl ?_
    refine e_aload_n (pc := 8) dX3_tell_8 rfl rfl ?_
    refine e_getI (q := 4) (ci := 3) (k := 15) (kz := 15) (C := RX3) (T := TX3) (N := 16) (x := (h 4 15)) (pc := 9) dX3_tell_9 rfl rfl rfl ev_in3 rfl ul_1_171 ⟨rfl, by decide⟩ rfl ?_
    refine e_icmp_lt (pc := 12) (tgt := 18) dX3_tell_12 (by decide) (fun c6 => ?_) (fun c6 => ?_)
    · exact J2 (fun z => z.elim c5 (fun z => z c6))
    · exact J1 (Or.inr c6)
theorem c_X3_tell (w : WD) (a1 : Int) (a2 : Int) (h : HP) (K : Int → HP → Prop)  (H : S_X3_tell a1 a2 h K) : Ev w Y_X3_tell 0 [some (vR 4), some (vI a1), some (vI a2)] [] h (rI K) := v_X3_tell w a1 a2 h K  H
noncomputable def mnC (h : HP) (dl i : Int) : Int := bset (fun t => t < h 1 7 ∧ ((¬ h 20 (h 28 i) = 3 ∧ h 10 t = h 21 (h 28 i) ∧ h 9 t = cif (h 29 i = -1) (h 14 (h 4 13)) (h 21 (h 29 i))) ∨ (h 20 (h 28 i) = 3 ∧ mem dl t)) ∧ h 21 (h 27 i) ≤ top (h 10 t)) 10
def S_X3_findMeant (dl : Int) (h : HP) (K : HP → Prop) : Prop := (HOK h ∧ VOK h ∧ EOK h ∧ (0 ≤ dl ∧ dl < 1024)) ∧ ∀ h' : HP, (∀ q, q ≠ 30 → h' q = h q) → (∀ i : Int, 0 ≤ i → i < h 4 15 → h' 30 i = mnC h dl i) → (∀ i : Int, i < 0 ∨ h 4 15 ≤ i → h' 30 i = h 30 i) → K h'
theorem EOK_30 {h g : HP} (hE : EOK h) (hg : ∀ q, q ≠ 30 → g q = h q) (hb : ∀ i : Int, 0 ≤ i → i < 12 → 0 ≤ g 30 i ∧ g 30 i < 1024) : EOK g := by
  unfold EOK
  rw [hg 4 (by decide), hg 31 (by decide), hg 27 (by decide), hg 28 (by decide), hg 29 (by decide), hg 3 (by decide), hg 20 (by decide)]
  exact ⟨hE.1, hE.2.1, fun i a b => ⟨hb i a b, (hE.2.2.1 i a b).2⟩, hE.2.2.2⟩
theorem EOK_31 {h g : HP} (hE : EOK h) (hg : ∀ q, q ≠ 31 → g q = h q) (hb : ∀ i : Int, 0 ≤ i → i < 12 → g 31 i = 0 ∨ g 31 i = 1) : EOK g := by
  unfold EOK
  rw [hg 4 (by decide), hg 30 (by decide), hg 27 (by decide), hg 28 (by decide), hg 29 (by decide), hg 3 (by decide), hg 20 (by decide)]
  exact ⟨hE.1, hE.2.1, fun i a b => ⟨(hE.2.2.1 i a b).1, hb i a b⟩, hE.2.2.2⟩
set_option maxRecDepth 100000 in
set_option maxHeartbeats 4000000 in
theorem v_X3_findMeant (w : WD) (dl : Int) (h : HP) (K : HP → Prop) 
    (I1 : Nat → Int → HP → Prop)
    (H : (∃ m : Nat, I1 m 0 h))
    (H1 : ∀ (n1 : Nat) (x2 : Int) (g1 : HP), I1 n1 x2 g1 → (((g1 4 15) ≤ x2 → K g1) ∧ (¬ (g1 4 15) ≤ x2 → ((0 ≤ x2 ∧ x2 < 12) ∧ ((0 ≤ (g1 28 x2) ∧ (g1 28 x2) < 16) ∧ ((((¬ (g1 20 (g1 28 x2)) = 3 → ((HOK g1 ∧ VOK g1 ∧ EOK g1 ∧ 0 ≤ x2 ∧ x2 < g1 4 15) ∧ True)) ∧ ((g1 20 (g1 28 x2)) = 3 → True))) ∧ ((0 ≤ x2 ∧ x2 < 12) ∧ ((g1 3 6 ≤ 16) ∧ ((HOK g1 ∧ (0 ≤ (cif (¬ (g1 20 (g1 28 x2)) = 3) (bset (fun t => t < g1 1 7 ∧ g1 10 t = g1 21 (g1 28 x2) ∧ g1 9 t = cif (g1 29 x2 = -1) (g1 14 (g1 4 13)) (g1 21 (g1 29 x2))) 10) dl) ∧ (cif (¬ (g1 20 (g1 28 x2)) = 3) (bset (fun t => t < g1 1 7 ∧ g1 10 t = g1 21 (g1 28 x2) ∧ g1 9 t = cif (g1 29 x2 = -1) (g1 14 (g1 4 13)) (g1 21 (g1 29 x2))) 10) dl) < 1024)) ∧ ((0 ≤ x2 ∧ x2 < 12) ∧ ((iR (x2 + 1)) ∧ (∃ m : Nat, m < n1 ∧ I1 m (x2 + 1) (sth g1 30 x2 (bset (fun t => t < g1 1 7 ∧ mem (cif (¬ (g1 20 (g1 28 x2)) = 3) (bset (fun t => t < g1 1 7 ∧ g1 10 t = g1 21 (g1 28 x2) ∧ g1 9 t = cif (g1 29 x2 = -1) (g1 14 (g1 4 13)) (g1 21 (g1 29 x2))) 10) dl) t ∧ 0 ≤ (cif (0 ≤ (g1 27 x2) ∧ (g1 27 x2) < g1 3 6) (g1 21 (g1 27 x2)) 0) ∧ (cif (0 ≤ (g1 27 x2) ∧ (g1 27 x2) < g1 3 6) (g1 21 (g1 27 x2)) 0) ≤ top (g1 10 t)) 10)))))))))))))) :
    Ev w Y_X3_findMeant 0 [some (vR 4), some (vI dl), none, none] [] h (rV K) := by
  have L1 : ∀ (n1 : Nat) (x2 : Int) (g1 : HP), I1 n1 x2 g1 → Ev w Y_X3_findMeant 2 [some (vR 4), some (vI dl), some (vI x2), none] [] g1 (rV K) := by
    intro n1
    induction n1 using Nat.strongRecOn with
    | ind n1 ih1 =>
      intro x2 g1 H
      have H := H1 n1 x2 g1 H
      refine e_iload_n (pc := 2) dX3_findMeant_2 rfl rfl ?_
      refine e_aload_n (pc := 3) dX3_findMeant_3 rfl rfl ?_
      refine e_getI (q := 4) (ci := 3) (k := 15) (kz := 15) (C := RX3) (T := TX3) (N := 16) (x := (g1 4 15)) (pc := 4) dX3_findMeant_4 rfl rfl rfl ev_in3 rfl ul_1_171 ⟨rfl, by decide⟩ rfl ?_
      refine e_icmp_ge (pc := 7) (tgt := 71) dX3_findMeant_7 (by decide) (fun c1 => ?_) (fun c1 => ?_)
      · have H := H.1 c1
        exact e_ret (pc := 71) (v := none) dX3_findMeant_71 rfl trivial ⟨rfl, H⟩
      · have H := H.2 c1
        refine e_aload_n (pc := 10) dX3_findMeant_10 rfl rfl ?_
        refine e_getR (q := 4) (ci := 3) (k := 1) (y := 3) (C := RX3) (T := TX3) (N := 16) (pc := 11) dX3_findMeant_11 rfl rfl ev_in3 rfl ul_1_152 ⟨rfl, rfl⟩ rfl ?_
        refine e_getR (q := 3) (ci := 7) (k := 0) (y := 20) (C := RX7) (T := TX7) (N := 8) (pc := 14) dX3_findMeant_14 rfl rfl ev_in7 rfl ul_1_117 ⟨rfl, rfl⟩ rfl ?_
        refine e_aload_n (pc := 17) dX3_findMeant_17 rfl rfl ?_
        refine e_getR (q := 4) (ci := 3) (k := 4) (y := 28) (C := RX3) (T := TX3) (N := 16) (pc := 18) dX3_findMeant_18 rfl rfl ev_in3 rfl ul_1_156 ⟨rfl, rfl⟩ rfl ?_
        refine e_iload_n (pc := 21) dX3_findMeant_21 rfl rfl ?_
        refine e_iald (q := 28) (x := (g1 28 x2)) (pc := 22) dX3_findMeant_22 rfl H.1 rfl ?_
        have H := H.2
        refine e_iald (q := 20) (x := (g1 20 (g1 28 x2))) (pc := 23) dX3_findMeant_23 rfl H.1 rfl ?_
        have H := H.2
        refine e_iconst (pc := 24) dX3_findMeant_24 ⟨by decide, by decide⟩ ?_
        have J : Ev w Y_X3_findMeant 37 [some (vR 4), some (vI dl), some (vI x2), none] [vI (cif (¬ (g1 20 (g1 28 x2)) = 3) (bset (fun t => t < g1 1 7 ∧ g1 10 t = g1 21 (g1 28 x2) ∧ g1 9 t = cif (g1 29 x2 = -1) (g1 14 (g1 4 13)) (g1 21 (g1 29 x2))) 10) dl)] g1 (rV K) := by
          have H := H.2
          refine e_istore_n (lv' := [some (vR 4), some (vI dl), some (vI x2), some (vI (cif (¬ (g1 20 (g1 28 x2)) = 3) (bset (fun t => t < g1 1 7 ∧ g1 10 t = g1 21 (g1 28 x2) ∧ g1 9 t = cif (g1 29 x2 = -1) (g1 14 (g1 4 13)) (g1 21 (g1 29 x2))) 10) dl))]) (pc := 37) dX3_findMeant_37 rfl rfl rfl ?_
          refine e_aload_n (pc := 38) dX3_findMeant_38 rfl rfl ?_
          refine e_getR (q := 4) (ci := 3) (k := 6) (y := 30) (C := RX3) (T := TX3) (N := 16) (pc := 39) dX3_findMeant_39 rfl rfl ev_in3 rfl ul_1_158 ⟨rfl, rfl⟩ rfl ?_
          refine e_iload_n (pc := 42) dX3_findMeant_42 rfl rfl ?_
          refine e_aload_n (pc := 43) dX3_findMeant_43 rfl rfl ?_
          refine e_getR (q := 4) (ci := 3) (k := 0) (y := 1) (C := RX3) (T := TX3) (N := 16) (pc := 44) dX3_findMeant_44 rfl rfl ev_in3 rfl ul_1_151 ⟨rfl, rfl⟩ rfl ?_
          refine e_iload_n (pc := 47) dX3_findMeant_47 rfl rfl ?_
          refine e_aload_n (pc := 48) dX3_findMeant_48 rfl rfl ?_
          refine e_getR (q := 4) (ci := 3) (k := 1) (y := 3) (C := RX3) (T := TX3) (N := 16) (pc := 49) dX3_findMeant_49 rfl rfl ev_in3 rfl ul_1_152 ⟨rfl, rfl⟩ rfl ?_
          refine e_aload_n (pc := 52) dX3_findMeant_52 rfl rfl ?_
          refine e_getR (q := 4) (ci := 3) (k := 3) (y := 27) (C := RX3) (T := TX3) (N := 16) (pc := 53) dX3_findMeant_53 rfl rfl ev_in3 rfl ul_1_154 ⟨rfl, rfl⟩ rfl ?_
          refine e_iload_n (pc := 56) dX3_findMeant_56 rfl rfl ?_
          refine e_iald (q := 27) (x := (g1 27 x2)) (pc := 57) dX3_findMeant_57 rfl H.1 rfl ?_
          have H := H.2
          refine e_invV (pc := 58) (Y' := Y_X7_numberOf) (as := [vI (g1 27 x2)]) (st := [vI (cif (¬ (g1 20 (g1 28 x2)) = 3) (bset (fun t => t < g1 1 7 ∧ g1 10 t = g1 21 (g1 28 x2) ∧ g1 9 t = cif (g1 29 x2 = -1) (g1 14 (g1 4 13)) (g1 21 (g1 29 x2))) 10) dl), vR 1, vI x2, vR 30]) (lv0 := [some (vR 3), some (vI (g1 27 x2))]) (q := 3) (ci := 7) (T := TX7) (N := 8) dX3_findMeant_58 m_X7_numberOf ul_3_89 ⟨ul_3_90, ul_3_91⟩ ⟨rfl, rfl⟩ rfl rfl rfl rfl rfl rfl rfl (c_X7_numberOf w (g1 27 x2) g1 H.1) ?_
          rintro _ hz ⟨_, rfl, rfl, hh⟩
          rw [hh]
          show Ev w Y_X3_findMeant 61 [some (vR 4), some (vI dl), some (vI x2), some (vI (cif (¬ (g1 20 (g1 28 x2)) = 3) (bset (fun t => t < g1 1 7 ∧ g1 10 t = g1 21 (g1 28 x2) ∧ g1 9 t = cif (g1 29 x2 = -1) (g1 14 (g1 4 13)) (g1 21 (g1 29 x2))) 10) dl))] [vI (cif (0 ≤ (g1 27 x2) ∧ (g1 27 x2) < g1 3 6) (g1 21 (g1 27 x2)) 0), vI (cif (¬ (g1 20 (g1 28 x2)) = 3) (bset (fun t => t < g1 1 7 ∧ g1 10 t = g1 21 (g1 28 x2) ∧ g1 9 t = cif (g1 29 x2 = -1) (g1 14 (g1 4 13)) (g1 21 (g1 29 x2))) 10) dl), vR 1, vI x2, vR 30] g1 (rV K)
          have H := H.2
          refine e_invV (pc := 61) (Y' := Y_X4_thingsThatCanBe) (as := [vI (cif (¬ (g1 20 (g1 28 x2)) = 3) (bset (fun t => t < g1 1 7 ∧ g1 10 t = g1 21 (g1 28 x2) ∧ g1 9 t = cif (g1 29 x2 = -1) (g1 14 (g1 4 13)) (g1 21 (g1 29 x2))) 10) dl), vI (cif (0 ≤ (g1 27 x2) ∧ (g1 27 x2) < g1 3 6) (g1 21 (g1 27 x2)) 0)]) (st := [vI x2, vR 30]) (lv0 := [some (vR 1), some (vI (cif (¬ (g1 20 (g1 28 x2)) = 3) (bset (fun t => t < g1 1 7 ∧ g1 10 t = g1 21 (g1 28 x2) ∧ g1 9 t = cif (g1 29 x2 = -1) (g1 14 (g1 4 13)) (g1 21 (g1 29 x2))) 10) dl)), some (vI (cif (0 ≤ (g1 27 x2) ∧ (g1 27 x2) < g1 3 6) (g1 21 (g1 27 x2)) 0)), none, none]) (q := 1) (ci := 4) (T := TX4) (N := 10) dX3_findMeant_61 m_X4_thingsThatCanBe ul_3_97 ⟨ul_3_98, ul_3_99⟩ ⟨rfl, rfl⟩ rfl rfl rfl rfl rfl rfl rfl (c_X4_thingsThatCanBe w (cif (¬ (g1 20 (g1 28 x2)) = 3) (bset (fun t => t < g1 1 7 ∧ g1 10 t = g1 21 (g1 28 x2) ∧ g1 9 t = cif (g1 29 x2 = -1) (g1 14 (g1 4 13)) (g1 21 (g1 29 x2))) 10) dl) (cif (0 ≤ (g1 27 x2) ∧ (g1 27 x2) < g1 3 6) (g1 21 (g1 27 x2)) 0) g1 H.1) ?_
          rintro _ hz ⟨_, rfl, rfl, hh⟩
          rw [hh]
          show Ev w Y_X3_findMeant 64 [some (vR 4), some (vI dl), some (vI x2), some (vI (cif (¬ (g1 20 (g1 28 x2)) = 3) (bset (fun t => t < g1 1 7 ∧ g1 10 t = g1 21 (g1 28 x2) ∧ g1 9 t = cif (g1 29 x2 = -1) (g1 14 (g1 4 13)) (g1 21 (g1 29 x2))) 10) dl))] [vI (bset (fun t => t < g1 1 7 ∧ mem (cif (¬ (g1 20 (g1 28 x2)) = 3) (bset (fun t => t < g1 1 7 ∧ g1 10 t = g1 21 (g1 28 x2) ∧ g1 9 t = cif (g1 29 x2 = -1) (g1 14 (g1 4 13)) (g1 21 (g1 29 x2))) 10) dl) t ∧ 0 ≤ (cif (0 ≤ (g1 27 x2) ∧ (g1 27 x2) < g1 3 6) (g1 21 (g1 27 x2)) 0) ∧ (cif (0 ≤ (g1 27 x2) ∧ (g1 27 x2) < g1 3 6) (g1 21 (g1 27 x2)) 0) ≤ top (g1 10 t)) 10), vI x2, vR 30] g1 (rV K)
          have H := H.2
          refine e_iast (q := 30) (pc := 64) dX3_findMeant_64 rfl H.1 ?_
          have H := H.2
          refine e_iinc (lv' := [some (vR 4), some (vI dl), some (vI (x2 + 1)), some (vI (cif (¬ (g1 20 (g1 28 x2)) = 3) (bset (fun t => t < g1 1 7 ∧ g1 10 t = g1 21 (g1 28 x2) ∧ g1 9 t = cif (g1 29 x2 = -1) (g1 14 (g1 4 13)) (g1 21 (g1 29 x2))) 10) dl))]) (pc := 65) dX3_findMeant_65 rfl H.1 rfl rfl ?_
          have H := H.2
          refine e_goto (pc := 68) (tgt := 2) dX3_findMeant_68 (by decide) ?_
          refine e_mask [true, true, true, false] rfl ?_
          obtain ⟨m, hm, H⟩ := H
          exact ih1 m hm _ _ H
        have Ho := H.1
        refine e_icmp_ne (pc := 25) (tgt := 32) dX3_findMeant_25 (by decide) (fun c2 => ?_) (fun c2 => ?_)
        · have Ho := Ho.1 c2
          refine e_aload_n (pc := 32) dX3_findMeant_32 rfl rfl ?_
          refine e_iload_n (pc := 33) dX3_findMeant_33 rfl rfl ?_
          refine e_invV (pc := 34) (Y' := Y_X3_thingsNamed) (as := [vI x2]) (st := []) (lv0 := [some (vR 4), some (vI x2), none]) (q := 4) (ci := 3) (T := TX3) (N := 16) dX3_findMeant_34 m_X3_thingsNamed ul_3_85 ⟨ul_3_87, us_X3_thingsNamed⟩ ⟨rfl, rfl⟩ rfl rfl rfl rfl rfl rfl rfl (c_X3_thingsNamed w x2 g1 Ho.1) ?_
          rintro _ hz ⟨_, rfl, rfl, hh⟩
          rw [hh]
          show Ev w Y_X3_findMeant 37 [some (vR 4), some (vI dl), some (vI x2), none] [vI (bset (fun t => t < g1 1 7 ∧ g1 10 t = g1 21 (g1 28 x2) ∧ g1 9 t = cif (g1 29 x2 = -1) (g1 14 (g1 4 13)) (g1 21 (g1 29 x2))) 10)] g1 (rV K)
          have Ho := Ho.2
          exact e_top (cif_t c2) J
        · have Ho := Ho.2 c2
          refine e_iload_n (pc := 28) dX3_findMeant_28 rfl rfl ?_
          refine e_goto (pc := 29) (tgt := 37) dX3_findMeant_29 (by decide) ?_
          exact e_top (cif_f (fun z => z c2)) J
  refine e_iconst (pc := 0) dX3_findMeant_0 ⟨by decide, by decide⟩ ?_
  refine e_istore_n (lv' := [some (vR 4), some (vI dl), some (vI 0), none]) (pc := 1) dX3_findMeant_1 rfl rfl rfl ?_
  obtain ⟨m, H⟩ := H
  exact L1 m _ _ H
set_option maxRecDepth 100000 in
set_option maxHeartbeats 4000000 in
theorem c_X3_findMeant (w : WD) (dl : Int) (h : HP) (K : HP → Prop)  (H : S_X3_findMeant dl h K) : Ev w Y_X3_findMeant 0 [some (vR 4), some (vI dl), none, none] [] h (rV K) := by
  obtain ⟨⟨hH, hV, hE, hd⟩, HK⟩ := H
  have h15 := hE.1
  refine v_X3_findMeant w dl h K (fun n x2 g => ∃ k : Nat, x2 = (k : Int) ∧ (k : Int) ≤ h 4 15 ∧ n = (h 4 15 - (k : Int)).toNat ∧ (∀ q, q ≠ 30 → g q = h q) ∧ (∀ i : Int, 0 ≤ i → i < (k : Int) → g 30 i = mnC h dl i) ∧ (∀ i : Int, i < 0 ∨ (k : Int) ≤ i → g 30 i = h 30 i)) ⟨(h 4 15).toNat, 0, rfl, by omega, by omega, fun _ _ => rfl, fun i a b => by omega, fun _ _ => rfl⟩ ?_
  rintro n x2 g ⟨k, rfl, hk, rfl, hg, hl, hr⟩
  have hHg : HOK g := HOK_c (by rw [hg 1 (by decide)]) (by rw [hg 1 (by decide)]) (hg _ (by decide)) (hg _ (by decide)) (hg _ (by decide)) (hg _ (by decide)) (hg _ (by decide)) hH
  have hVg : VOK g := VOK_c (by rw [hg 3 (by decide)]) (hg _ (by decide)) (hg _ (by decide)) (hg _ (by decide)) (hg _ (by decide)) (hg _ (by decide)) hV
  have hEg : EOK g := EOK_30 hE hg (fun i a b => by
    by_cases c : i < (k : Int)
    · rw [hl i a c]; exact bset_b _
    · rw [hr i (by omega)]; exact (hE.2.2.1 i a b).1)
  rw [hg 4 (by decide), hg 28 (by decide), hg 20 (by decide), hg 1 (by decide), hg 10 (by decide), hg 21 (by decide), hg 9 (by decide), hg 29 (by decide), hg 14 (by decide), hg 3 (by decide), hg 27 (by decide)]
  refine ⟨fun c => HK g hg (fun i a b => hl i a (by omega)) (fun i a => hr i (by omega)), fun c => ?_⟩
  have hw := hE.2.2.2 (k : Int) (by omega) (by omega)
  have hn := EOK_n hV hE (i := (k : Int)) (by omega)
  have h16 := hV.1
  have e1 : cif (0 ≤ h 27 (k : Int) ∧ h 27 (k : Int) < h 3 6) (h 21 (h 27 (k : Int))) 0 = h 21 (h 27 (k : Int)) := cif_t ⟨hw.1.1, hw.1.2.1⟩
  refine ⟨by omega, by omega, ⟨fun _ => ⟨⟨hHg, hVg, hEg, by omega, by omega⟩, trivial⟩, fun _ => trivial⟩, by omega, h16.2, ⟨hHg, ?_⟩, by omega, ⟨by omega, by omega⟩, (h 4 15 - ((k + 1 : Nat) : Int)).toNat, by omega, k + 1, by omega, by omega, rfl, fun q z => by rw [sth_ne z]; exact hg q z, fun i a b => ?_, fun i a => ?_⟩
  · by_cases c3 : h 20 (h 28 (k : Int)) = 3
    · rw [cif_f (fun z => z c3)]; exact hd
    · rw [cif_t c3]; exact bset_b _
  · rw [sth_eq]
    by_cases e : i = (k : Int)
    · subst e
      rw [us_s, e1]
      unfold mnC
      refine bset_c (fun t ta tb => ?_)
      by_cases c3 : h 20 (h 28 (k : Int)) = 3
      · rw [cif_f (fun z => z c3)]
        exact ⟨fun y => ⟨y.1, Or.inr ⟨c3, y.2.1⟩, y.2.2.2⟩, fun y => ⟨y.1, by rcases y.2.1 with z | z; exact absurd c3 z.1; exact z.2, hn.1, y.2.2⟩⟩
      · rw [cif_t c3, mem_bset ta]
        exact ⟨fun y => ⟨y.1, Or.inl ⟨c3, y.2.1.2.2⟩, y.2.2.2⟩, fun y => ⟨y.1, by rcases y.2.1 with z | z; exact ⟨tb, y.1, z.2⟩; exact absurd z.1 c3, hn.1, y.2.2⟩⟩
    · rw [us_n e]; exact hl i a (by omega)
  · rw [sth_eq, us_n (by omega)]; exact hr i (by omega)
def opC (h : HP) (mg i : Int) : Prop := ¬ h 30 i = 0 ∧ h 26 i ≤ h 26 (fsN (fun j => ¬ h 30 j = 0) (h 4 15).toNat) + mg
def S_X3_findOpen (mg : Int) (h : HP) (K : HP → Prop) : Prop := ((0 ≤ h 4 15 ∧ h 4 15 ≤ 12) ∧ (0 ≤ mg ∧ mg ≤ 1000) ∧ ∀ i : Int, 0 ≤ i → i < h 4 15 → 0 ≤ h 26 i ∧ h 26 i ≤ 1000) ∧ ∀ h' : HP, (∀ q, q ≠ 31 → h' q = h q) → (∀ i : Int, 0 ≤ i → i < h 4 15 → h' 31 i = b2i (opC h mg i)) → (∀ i : Int, i < 0 ∨ h 4 15 ≤ i → h' 31 i = h 31 i) → K h'
set_option maxRecDepth 100000 in
set_option maxHeartbeats 4000000 in
theorem v_X3_findOpen (w : WD) (mg : Int) (h : HP) (K : HP → Prop) 
    (I1 : Nat → Int → Int → Int → HP → Prop)
    (H : (∃ m : Nat, I1 m 0 0 0 h))
    (H1 : ∀ (n1 : Nat) (x2 : Int) (x3 : Int) (x4 : Int) (g1 : HP), I1 n1 x2 x3 x4 g1 → (((g1 4 15) ≤ x4 → K g1) ∧ (¬ (g1 4 15) ≤ x4 → ((((¬ x2 = 0 → True) ∧ (x2 = 0 → ((0 ≤ x4 ∧ x4 < 12) ∧ True)))) ∧ ((((¬ x2 = 0) ∨ ((g1 30 x4) = 0)) → ((0 ≤ x4 ∧ x4 < 12) ∧ (((((g1 30 x4) = 0 → True) ∧ (¬ (g1 30 x4) = 0 → ((0 ≤ x4 ∧ x4 < 12) ∧ True)))) ∧ ((0 ≤ x4 ∧ x4 < 12) ∧ ((iR (x4 + 1)) ∧ (∃ m : Nat, m < n1 ∧ I1 m x2 x3 (x4 + 1) (sth g1 31 x4 (b2i ((¬ (g1 30 x4) = 0) ∧ (¬ x3 < (g1 26 x4))))))))))) ∧ (¬ ((¬ x2 = 0) ∨ ((g1 30 x4) = 0)) → ((0 ≤ x4 ∧ x4 < 12) ∧ ((iR ((g1 26 x4) + mg)) ∧ ((0 ≤ x4 ∧ x4 < 12) ∧ (((((g1 30 x4) = 0 → True) ∧ (¬ (g1 30 x4) = 0 → ((0 ≤ x4 ∧ x4 < 12) ∧ True)))) ∧ ((0 ≤ x4 ∧ x4 < 12) ∧ ((iR (x4 + 1)) ∧ (∃ m : Nat, m < n1 ∧ I1 m 1 ((g1 26 x4) + mg) (x4 + 1) (sth g1 31 x4 (b2i ((¬ (g1 30 x4) = 0) ∧ (¬ ((g1 26 x4) + mg) < (g1 26 x4)))))))))))))))))) :
    Ev w Y_X3_findOpen 0 [some (vR 4), some (vI mg), none, none, none] [] h (rV K) := by
  have L1 : ∀ (n1 : Nat) (x2 : Int) (x3 : Int) (x4 : Int) (g1 : HP), I1 n1 x2 x3 x4 g1 → Ev w Y_X3_findOpen 7 [some (vR 4), some (vI mg), some (vI x2), some (vI x3), some (vI x4)] [] g1 (rV K) := by
    intro n1
    induction n1 using Nat.strongRecOn with
    | ind n1 ih1 =>
      intro x2 x3 x4 g1 H
      have H := H1 n1 x2 x3 x4 g1 H
      refine e_iload (pc := 7) dX3_findOpen_7 rfl ?_
      refine e_aload_n (pc := 9) dX3_findOpen_9 rfl rfl ?_
      refine e_getI (q := 4) (ci := 3) (k := 15) (kz := 15) (C := RX3) (T := TX3) (N := 16) (x := (g1 4 15)) (pc := 10) dX3_findOpen_10 rfl rfl rfl ev_in3 rfl ul_1_171 ⟨rfl, by decide⟩ rfl ?_
      refine e_icmp_ge (pc := 13) (tgt := 81) dX3_findOpen_13 (by decide) (fun c1 => ?_) (fun c1 => ?_)
      · have H := H.1 c1
        exact e_ret (pc := 81) (v := none) dX3_findOpen_81 rfl trivial ⟨rfl, H⟩
      · have H := H.2 c1
        refine e_iload_n (pc := 16) dX3_findOpen_16 rfl rfl ?_
        have Ho := H.1
        have H := H.2
        have J1 : ((¬ x2 = 0) ∨ ((g1 30 x4) = 0)) → Ev w Y_X3_findOpen 42 [some (vR 4), some (vI mg), some (vI x2), some (vI x3), some (vI x4)] [] g1 (rV K) := by
          intro hp
          have H := H.1 hp
          refine e_aload_n (pc := 42) dX3_findOpen_42 rfl rfl ?_
          refine e_getR (q := 4) (ci := 3) (k := 7) (y := 31) (C := RX3) (T := TX3) (N := 16) (pc := 43) dX3_findOpen_43 rfl rfl ev_in3 rfl ul_1_160 ⟨rfl, rfl⟩ rfl ?_
          refine e_iload (pc := 46) dX3_findOpen_46 rfl ?_
          refine e_aload_n (pc := 48) dX3_findOpen_48 rfl rfl ?_
          refine e_getR (q := 4) (ci := 3) (k := 6) (y := 30) (C := RX3) (T := TX3) (N := 16) (pc := 49) dX3_findOpen_49 rfl rfl ev_in3 rfl ul_1_158 ⟨rfl, rfl⟩ rfl ?_
          refine e_iload (pc := 52) dX3_findOpen_52 rfl ?_
          refine e_iald (q := 30) (x := (g1 30 x4)) (pc := 54) dX3_findOpen_54 rfl H.1 rfl ?_
          have H := H.2
          have J : Ev w Y_X3_findOpen 74 [some (vR 4), some (vI mg), some (vI x2), some (vI x3), some (vI x4)] [vI (b2i ((¬ (g1 30 x4) = 0) ∧ (¬ x3 < (g1 26 x4)))), vI x4, vR 31] g1 (rV K) := by
            have H := H.2
            refine e_zast (q := 31) (pc := 74) dX3_findOpen_74 rfl H.1 (b2i_01 _) ?_
            have H := H.2
            refine e_iinc (lv' := [some (vR 4), some (vI mg), some (vI x2), some (vI x3), some (vI (x4 + 1))]) (pc := 75) dX3_findOpen_75 rfl H.1 rfl rfl ?_
            have H := H.2
            refine e_goto (pc := 78) (tgt := 7) dX3_findOpen_78 (by decide) ?_
            obtain ⟨m, hm, H⟩ := H
            exact ih1 m hm _ _ _ _ H
          have Ho := H.1
          refine e_if_eq (pc := 55) (tgt := 73) dX3_findOpen_55 (by decide) (fun c2 => ?_) (fun c2 => ?_)
          · have Ho := Ho.1 c2
            refine e_iconst (pc := 73) dX3_findOpen_73 ⟨by decide, by decide⟩ ?_
            exact e_top (b2i_f (fun z => (fun z => z c2) z.1)) J
          · have Ho := Ho.2 c2
            refine e_aload_n (pc := 58) dX3_findOpen_58 rfl rfl ?_
            refine e_getR (q := 4) (ci := 3) (k := 2) (y := 26) (C := RX3) (T := TX3) (N := 16) (pc := 59) dX3_findOpen_59 rfl rfl ev_in3 rfl ul_1_153 ⟨rfl, rfl⟩ rfl ?_
            refine e_iload (pc := 62) dX3_findOpen_62 rfl ?_
            refine e_iald (q := 26) (x := (g1 26 x4)) (pc := 64) dX3_findOpen_64 rfl Ho.1 rfl ?_
            have Ho := Ho.2
            refine e_iload_n (pc := 65) dX3_findOpen_65 rfl rfl ?_
            refine e_icmp_gt (pc := 66) (tgt := 73) dX3_findOpen_66 (by decide) (fun c3 => ?_) (fun c3 => ?_)
            · refine e_iconst (pc := 73) dX3_findOpen_73 ⟨by decide, by decide⟩ ?_
              exact e_top (b2i_f (fun z => (fun z => z c3) z.2)) J
            · refine e_iconst (pc := 69) dX3_findOpen_69 ⟨by decide, by decide⟩ ?_
              refine e_goto (pc := 70) (tgt := 74) dX3_findOpen_70 (by decide) ?_
              exact e_top (b2i_t ⟨c2, c3⟩) J
        have J2 : ¬ ((¬ x2 = 0) ∨ ((g1 30 x4) = 0)) → Ev w Y_X3_findOpen 30 [some (vR 4), some (vI mg), some (vI x2), some (vI x3), some (vI x4)] [] g1 (rV K) := by
          intro hp
          have H := H.2 hp
          refine e_iconst (pc := 30) dX3_findOpen_30 ⟨by decide, by decide⟩ ?_
          refine e_istore_n (lv' := [some (vR 4), some (vI mg), some (vI 1), some (vI x3), some (vI x4)]) (pc := 31) dX3_findOpen_31 rfl rfl rfl ?_
          refine e_aload_n (pc := 32) dX3_findOpen_32 rfl rfl ?_
          refine e_getR (q := 4) (ci := 3) (k := 2) (y := 26) (C := RX3) (T := TX3) (N := 16) (pc := 33) dX3_findOpen_33 rfl rfl ev_in3 rfl ul_1_153 ⟨rfl, rfl⟩ rfl ?_
          refine e_iload (pc := 36) dX3_findOpen_36 rfl ?_
          refine e_iald (q := 26) (x := (g1 26 x4)) (pc := 38) dX3_findOpen_38 rfl H.1 rfl ?_
          have H := H.2
          refine e_iload_n (pc := 39) dX3_findOpen_39 rfl rfl ?_
          refine e_iadd (pc := 40) dX3_findOpen_40 H.1 ?_
          have H := H.2
          refine e_istore_n (lv' := [some (vR 4), some (vI mg), some (vI 1), some (vI ((g1 26 x4) + mg)), some (vI x4)]) (pc := 41) dX3_findOpen_41 rfl rfl rfl ?_
          refine e_aload_n (pc := 42) dX3_findOpen_42 rfl rfl ?_
          refine e_getR (q := 4) (ci := 3) (k := 7) (y := 31) (C := RX3) (T := TX3) (N := 16) (pc := 43) dX3_findOpen_43 rfl rfl ev_in3 rfl ul_1_160 ⟨rfl, rfl⟩ rfl ?_
          refine e_iload (pc := 46) dX3_findOpen_46 rfl ?_
          refine e_aload_n (pc := 48) dX3_findOpen_48 rfl rfl ?_
          refine e_getR (q := 4) (ci := 3) (k := 6) (y := 30) (C := RX3) (T := TX3) (N := 16) (pc := 49) dX3_findOpen_49 rfl rfl ev_in3 rfl ul_1_158 ⟨rfl, rfl⟩ rfl ?_
          refine e_iload (pc := 52) dX3_findOpen_52 rfl ?_
          refine e_iald (q := 30) (x := (g1 30 x4)) (pc := 54) dX3_findOpen_54 rfl H.1 rfl ?_
          have H := H.2
          have J : Ev w Y_X3_findOpen 74 [some (vR 4), some (vI mg), some (vI 1), some (vI ((g1 26 x4) + mg)), some (vI x4)] [vI (b2i ((¬ (g1 30 x4) = 0) ∧ (¬ ((g1 26 x4) + mg) < (g1 26 x4)))), vI x4, vR 31] g1 (rV K) := by
            have H := H.2
            refine e_zast (q := 31) (pc := 74) dX3_findOpen_74 rfl H.1 (b2i_01 _) ?_
            have H := H.2
            refine e_iinc (lv' := [some (vR 4), some (vI mg), some (vI 1), some (vI ((g1 26 x4) + mg)), some (vI (x4 + 1))]) (pc := 75) dX3_findOpen_75 rfl H.1 rfl rfl ?_
            have H := H.2
            refine e_goto (pc := 78) (tgt := 7) dX3_findOpen_78 (by decide) ?_
            obtain ⟨m, hm, H⟩ := H
            exact ih1 m hm _ _ _ _ H
          have Ho := H.1
          refine e_if_eq (pc := 55) (tgt := 73) dX3_findOpen_55 (by decide) (fun c4 => ?_) (fun c4 => ?_)
          · have Ho := Ho.1 c4
            refine e_iconst (pc := 73) dX3_findOpen_73 ⟨by decide, by decide⟩ ?_
            exact e_top (b2i_f (fun z => (fun z => z c4) z.1)) J
          · have Ho := Ho.2 c4
            refine e_aload_n (pc := 58) dX3_findOpen_58 rfl rfl ?_
            refine e_getR (q := 4) (ci := 3) (k := 2) (y := 26) (C := RX3) (T := TX3) (N := 16) (pc := 59) dX3_findOpen_59 rfl rfl ev_in3 rfl ul_1_153 ⟨rfl, rfl⟩ rfl ?_
            refine e_iload (pc := 62) dX3_findOpen_62 rfl ?_
            refine e_iald (q := 26) (x := (g1 26 x4)) (pc := 64) dX3_findOpen_64 rfl Ho.1 rfl ?_
            have Ho := Ho.2
            refine e_iload_n (pc := 65) dX3_findOpen_65 rfl rfl ?_
            refine e_icmp_gt (pc := 66) (tgt := 73) dX3_findOpen_66 (by decide) (fun c5 => ?_) (fun c5 => ?_)
            · refine e_iconst (pc := 73) dX3_findOpen_73 ⟨by decide, by decide⟩ ?_
              exact e_top (b2i_f (fun z => (fun z => z c5) z.2)) J
            · refine e_iconst (pc := 69) dX3_findOpen_69 ⟨by decide, by decide⟩ ?_
              refine e_goto (pc := 70) (tgt := 74) dX3_findOpen_70 (by decide) ?_
              exact e_top (b2i_t ⟨c4, c5⟩) J
        refine e_if_ne (pc := 17) (tgt := 42) dX3_findOpen_17 (by decide) (fun c6 => ?_) (fun c6 => ?_)
        · have Ho := Ho.1 c6
          exact J1 (Or.inl c6)
        · have Ho := Ho.2 c6
          refine e_aload_n (pc := 20) dX3_findOpen_20 rfl rfl ?_
          refine e_getR (q := 4) (ci := 3) (k := 6) (y := 30) (C := RX3) (T := TX3) (N := 16) (pc := 21) dX3_findOpen_21 rfl rfl ev_in3 rfl ul_1_158 ⟨rfl, rfl⟩ rfl ?_
          refine e_iload (pc := 24) dX3_findOpen_24 rfl ?_
          refine e_iald (q := 30) (x := (g1 30 x4)) (pc := 26) dX3_findOpen_26 rfl Ho.1 rfl ?_
          have Ho := Ho.2
          refine e_if_eq (pc := 27) (tgt := 42) dX3_findOpen_27 (by decide) (fun c7 => ?_) (fun c7 => ?_)
          · exact J1 (Or.inr c7)
          · exact J2 (fun z => z.elim (fun z => z c6) c7)
  refine e_iconst (pc := 0) dX3_findOpen_0 ⟨by decide, by decide⟩ ?_
  refine e_istore_n (lv' := [some (vR 4), some (vI mg), some (vI 0), none, none]) (pc := 1) dX3_findOpen_1 rfl rfl rfl ?_
  refine e_iconst (pc := 2) dX3_findOpen_2 ⟨by decide, by decide⟩ ?_
  refine e_istore_n (lv' := [some (vR 4), some (vI mg), some (vI 0), some (vI 0), none]) (pc := 3) dX3_findOpen_3 rfl rfl rfl ?_
  refine e_iconst (pc := 4) dX3_findOpen_4 ⟨by decide, by decide⟩ ?_
  refine e_istore (lv' := [some (vR 4), some (vI mg), some (vI 0), some (vI 0), some (vI 0)]) (pc := 5) dX3_findOpen_5 rfl rfl ?_
  obtain ⟨m, H⟩ := H
  exact L1 m _ _ _ _ H
set_option maxRecDepth 100000 in
set_option maxHeartbeats 4000000 in
theorem c_X3_findOpen (w : WD) (mg : Int) (h : HP) (K : HP → Prop)  (H : S_X3_findOpen mg h K) : Ev w Y_X3_findOpen 0 [some (vR 4), some (vI mg), none, none, none] [] h (rV K) := by
  obtain ⟨⟨h15, hm, hp⟩, HK⟩ := H
  refine v_X3_findOpen w mg h K (fun n x2 x3 x4 g => ∃ k : Nat, x4 = (k : Int) ∧ (k : Int) ≤ h 4 15 ∧ n = (h 4 15 - (k : Int)).toNat ∧ (∀ q, q ≠ 31 → g q = h q) ∧ (∀ i : Int, 0 ≤ i → i < (k : Int) → g 31 i = b2i (opC h mg i)) ∧ (∀ i : Int, i < 0 ∨ (k : Int) ≤ i → g 31 i = h 31 i) ∧ ((x2 = 0 ∧ ∀ i : Int, 0 ≤ i → i < (k : Int) → h 30 i = 0) ∨ (x2 = 1 ∧ x3 = h 26 (fsN (fun j => ¬ h 30 j = 0) (h 4 15).toNat) + mg))) ⟨(h 4 15).toNat, 0, rfl, by omega, by omega, fun _ _ => rfl, fun i a b => by omega, fun _ _ => rfl, Or.inl ⟨rfl, fun i a b => by omega⟩⟩ ?_
  rintro n x2 x3 x4 g ⟨k, rfl, hk, rfl, hg, hl, hr, hx⟩
  rw [hg 4 (by decide), hg 30 (by decide), hg 26 (by decide)]
  have st : ∀ (v : Int), v = b2i (opC h mg (k : Int)) → (k : Int) < h 4 15 → (∀ q, q ≠ 31 → sth g 31 (k : Int) v q = h q) ∧ (∀ i : Int, 0 ≤ i → i < ((k + 1 : Nat) : Int) → sth g 31 (k : Int) v 31 i = b2i (opC h mg i)) ∧ (∀ i : Int, i < 0 ∨ ((k + 1 : Nat) : Int) ≤ i → sth g 31 (k : Int) v 31 i = h 31 i) := fun v hv hk2 => by
    refine ⟨fun q z => by rw [sth_ne z]; exact hg q z, fun i a b => ?_, fun i a => ?_⟩
    · rw [sth_eq]
      by_cases e : i = (k : Int)
      · subst e; rw [us_s]; exact hv
      · rw [us_n e]; exact hl i a (by omega)
    · rw [sth_eq, us_n (by omega)]; exact hr i (by omega)
  refine ⟨fun c => HK g hg (fun i a b => hl i a (by omega)) (fun i a => hr i (by omega)), fun c => ⟨⟨fun _ => trivial, fun _ => ⟨by omega, trivial⟩⟩, fun z => ?_, fun z => ?_⟩⟩
  · have hv : b2i (¬ h 30 (k : Int) = 0 ∧ ¬ x3 < h 26 (k : Int)) = b2i (opC h mg (k : Int)) := by
      refine b2i_c ?_
      unfold opC
      rcases hx with ⟨x, y⟩ | ⟨x, y⟩
      · rcases z with z | z
        · exact absurd x z
        · exact ⟨fun u => absurd z u.1, fun u => absurd z u.1⟩
      · rw [y]
        exact ⟨fun u => ⟨u.1, by omega⟩, fun u => ⟨u.1, by omega⟩⟩
    have hs := st _ hv (by omega)
    refine ⟨by omega, ⟨fun _ => trivial, fun _ => ⟨by omega, trivial⟩⟩, by omega, ⟨by omega, by omega⟩, (h 4 15 - ((k + 1 : Nat) : Int)).toNat, by omega, k + 1, by omega, by omega, rfl, hs.1, hs.2.1, hs.2.2, ?_⟩
    rcases hx with ⟨x, y⟩ | y
    · refine Or.inl ⟨x, fun i a b => ?_⟩
      by_cases e : i = (k : Int)
      · subst e
        rcases z with z | z
        · exact absurd x z
        · exact z
      · exact y i a (by omega)
    · exact Or.inr y
  · have z1 : x2 = 0 := Classical.byContradiction (fun u => z (Or.inl u))
    have z2 : ¬ h 30 (k : Int) = 0 := fun u => z (Or.inr u)
    have hF : fsN (fun j => ¬ h 30 j = 0) (h 4 15).toNat = (k : Int) := by
      rcases hx with ⟨x, y⟩ | ⟨x, y⟩
      · exact fsN_at (k := k) (fun i a b u => u (y i a b)) z2 (by omega)
      · omega
    have hpk := hp (k : Int) (by omega) (by omega)
    have hv : b2i (¬ h 30 (k : Int) = 0 ∧ ¬ (h 26 (k : Int) + mg) < h 26 (k : Int)) = b2i (opC h mg (k : Int)) := by
      refine b2i_c ?_
      unfold opC
      rw [hF]
      exact ⟨fun u => ⟨u.1, by omega⟩, fun u => ⟨u.1, by omega⟩⟩
    have hs := st _ hv (by omega)
    exact ⟨by omega, ⟨by omega, by omega⟩, by omega, ⟨fun _ => trivial, fun _ => ⟨by omega, trivial⟩⟩, by omega, ⟨by omega, by omega⟩, (h 4 15 - ((k + 1 : Nat) : Int)).toNat, by omega, k + 1, by omega, by omega, rfl, hs.1, hs.2.1, hs.2.2, Or.inr ⟨rfl, by rw [hF]⟩⟩
noncomputable def opW (h : HP) (pt wd : Int) : Int := cnt (fun i => h 31 i = 1 ∧ wrd h i pt = wd) (h 4 15).toNat
def S_X3_keepOnly (pt wd : Int) (h : HP) (K : Int → HP → Prop) : Prop := EOK h ∧ ((h 4 12 = 0 ∨ opW h pt wd = 0) → K (-2) h) ∧ (¬ (h 4 12 = 0 ∨ opW h pt wd = 0) → ∀ h' : HP, (∀ q, q ≠ 31 → h' q = h q) → (∀ i : Int, 0 ≤ i → i < h 4 15 → h' 31 i = b2i (h 31 i = 1 ∧ wrd h i pt = wd)) → (∀ i : Int, i < 0 ∨ h 4 15 ≤ i → h' 31 i = h 31 i) → K (opW h pt wd) h')
theorem wrd_c {h g : HP} (h1 : g 27 = h 27) (h2 : g 28 = h 28) (h3 : g 29 = h 29) (i pt : Int) : wrd g i pt = wrd h i pt := by unfold wrd; rw [h1, h2, h3]
set_option maxRecDepth 100000 in
set_option maxHeartbeats 4000000 in
theorem v_X3_keepOnly (w : WD) (pt : Int) (wd : Int) (h : HP) (K : Int → HP → Prop) 
    (I1 : Nat → Int → Int → HP → Prop)
    (H : (((((h 4 12) = 0 → True) ∧ (¬ (h 4 12) = 0 → ((EOK h) ∧ True)))) ∧ ((¬ (cif ((h 4 12) = 0) 0 (cnt (fun i => h 31 i = 1 ∧ wrd h i pt = wd) (h 4 15).toNat)) = 0 → (∃ m : Nat, I1 m (cif ((h 4 12) = 0) 0 (cnt (fun i => h 31 i = 1 ∧ wrd h i pt = wd) (h 4 15).toNat)) 0 h)) ∧ ((cif ((h 4 12) = 0) 0 (cnt (fun i => h 31 i = 1 ∧ wrd h i pt = wd) (h 4 15).toNat)) = 0 → K (-2) h))))
    (H1 : ∀ (n1 : Nat) (x3 : Int) (x4 : Int) (g1 : HP), I1 n1 x3 x4 g1 → (((g1 4 15) ≤ x4 → K x3 g1) ∧ (¬ (g1 4 15) ≤ x4 → ((0 ≤ x4 ∧ x4 < 12) ∧ (((((g1 31 x4) = 0 → True) ∧ (¬ (g1 31 x4) = 0 → ((0 ≤ x4 ∧ x4 < 12) ∧ True)))) ∧ ((0 ≤ x4 ∧ x4 < 12) ∧ ((iR (x4 + 1)) ∧ (∃ m : Nat, m < n1 ∧ I1 m x3 (x4 + 1) (sth g1 31 x4 (b2i ((¬ (g1 31 x4) = 0) ∧ ((wrd g1 x4 pt) = wd)))))))))))) :
    Ev w Y_X3_keepOnly 0 [some (vR 4), some (vI pt), some (vI wd), none, none] [] h (rI K) := by
  have L1 : ∀ (n1 : Nat) (x3 : Int) (x4 : Int) (g1 : HP), I1 n1 x3 x4 g1 → Ev w Y_X3_keepOnly 28 [some (vR 4), some (vI pt), some (vI wd), some (vI x3), some (vI x4)] [] g1 (rI K) := by
    intro n1
    induction n1 using Nat.strongRecOn with
    | ind n1 ih1 =>
      intro x3 x4 g1 H
      have H := H1 n1 x3 x4 g1 H
      refine e_iload (pc := 28) dX3_keepOnly_28 rfl ?_
      refine e_aload_n (pc := 30) dX3_keepOnly_30 rfl rfl ?_
      refine e_getI (q := 4) (ci := 3) (k := 15) (kz := 15) (C := RX3) (T := TX3) (N := 16) (x := (g1 4 15)) (pc := 31) dX3_keepOnly_31 rfl rfl rfl ev_in3 rfl ul_1_171 ⟨rfl, by decide⟩ rfl ?_
      refine e_icmp_ge (pc := 34) (tgt := 76) dX3_keepOnly_34 (by decide) (fun c3 => ?_) (fun c3 => ?_)
      · have H := H.1 c3
        refine e_iload_n (pc := 76) dX3_keepOnly_76 rfl rfl ?_
        exact e_ret (pc := 77) (v := some (vI x3)) dX3_keepOnly_77 rfl trivial ⟨_, rfl, H⟩
      · have H := H.2 c3
        refine e_aload_n (pc := 37) dX3_keepOnly_37 rfl rfl ?_
        refine e_getR (q := 4) (ci := 3) (k := 7) (y := 31) (C := RX3) (T := TX3) (N := 16) (pc := 38) dX3_keepOnly_38 rfl rfl ev_in3 rfl ul_1_160 ⟨rfl, rfl⟩ rfl ?_
        refine e_iload (pc := 41) dX3_keepOnly_41 rfl ?_
        refine e_aload_n (pc := 43) dX3_keepOnly_43 rfl rfl ?_
        refine e_getR (q := 4) (ci := 3) (k := 7) (y := 31) (C := RX3) (T := TX3) (N := 16) (pc := 44) dX3_keepOnly_44 rfl rfl ev_in3 rfl ul_1_160 ⟨rfl, rfl⟩ rfl ?_
        refine e_iload (pc := 47) dX3_keepOnly_47 rfl ?_
        refine e_zald (q := 31) (x := (g1 31 x4)) (pc := 49) dX3_keepOnly_49 rfl H.1 rfl ?_
        have H := H.2
        have J : Ev w Y_X3_keepOnly 69 [some (vR 4), some (vI pt), some (vI wd), some (vI x3), some (vI x4)] [vI (b2i ((¬ (g1 31 x4) = 0) ∧ ((wrd g1 x4 pt) = wd))), vI x4, vR 31] g1 (rI K) := by
          have H := H.2
          refine e_zast (q := 31) (pc := 69) dX3_keepOnly_69 rfl H.1 (b2i_01 _) ?_
          have H := H.2
          refine e_iinc (lv' := [some (vR 4), some (vI pt), some (vI wd), some (vI x3), some (vI (x4 + 1))]) (pc := 70) dX3_keepOnly_70 rfl H.1 rfl rfl ?_
          have H := H.2
          refine e_goto (pc := 73) (tgt := 28) dX3_keepOnly_73 (by decide) ?_
          obtain ⟨m, hm, H⟩ := H
          exact ih1 m hm _ _ _ H
        have Ho := H.1
        refine e_if_eq (pc := 50) (tgt := 68) dX3_keepOnly_50 (by decide) (fun c4 => ?_) (fun c4 => ?_)
        · have Ho := Ho.1 c4
          refine e_iconst (pc := 68) dX3_keepOnly_68 ⟨by decide, by decide⟩ ?_
          exact e_top (b2i_f (fun z => (fun z => z c4) z.1)) J
        · have Ho := Ho.2 c4
          refine e_aload_n (pc := 53) dX3_keepOnly_53 rfl rfl ?_
          refine e_iload (pc := 54) dX3_keepOnly_54 rfl ?_
          refine e_iload_n (pc := 56) dX3_keepOnly_56 rfl rfl ?_
          refine e_invV (pc := 57) (Y' := Y_X3_wordAt) (as := [vI x4, vI pt]) (st := [vI x4, vR 31]) (lv0 := [some (vR 4), some (vI x4), some (vI pt)]) (q := 4) (ci := 3) (T := TX3) (N := 16) dX3_keepOnly_57 m_X3_wordAt ul_3_158 ⟨ul_3_160, us_X3_wordAt⟩ ⟨rfl, rfl⟩ rfl rfl rfl rfl rfl rfl rfl (c_X3_wordAt w x4 pt g1 Ho.1) ?_
          rintro _ hz ⟨_, rfl, rfl, hh⟩
          rw [hh]
          show Ev w Y_X3_keepOnly 60 [some (vR 4), some (vI pt), some (vI wd), some (vI x3), some (vI x4)] [vI (wrd g1 x4 pt), vI x4, vR 31] g1 (rI K)
          have Ho := Ho.2
          refine e_iload_n (pc := 60) dX3_keepOnly_60 rfl rfl ?_
          refine e_icmp_ne (pc := 61) (tgt := 68) dX3_keepOnly_61 (by decide) (fun c5 => ?_) (fun c5 => ?_)
          · refine e_iconst (pc := 68) dX3_keepOnly_68 ⟨by decide, by decide⟩ ?_
            exact e_top (b2i_f (fun z => c5 z.2)) J
          · refine e_iconst (pc := 64) dX3_keepOnly_64 ⟨by decide, by decide⟩ ?_
            refine e_goto (pc := 65) (tgt := 69) dX3_keepOnly_65 (by decide) ?_
            exact e_top (b2i_t ⟨c4, c5⟩) J
  refine e_aload_n (pc := 0) dX3_keepOnly_0 rfl rfl ?_
  refine e_getI (q := 4) (ci := 3) (k := 12) (kz := 12) (C := RX3) (T := TX3) (N := 16) (x := (h 4 12)) (pc := 1) dX3_keepOnly_1 rfl rfl rfl ev_in3 rfl ul_1_165 ⟨rfl, by decide⟩ rfl ?_
  have J : Ev w Y_X3_keepOnly 17 [some (vR 4), some (vI pt), some (vI wd), none, none] [vI (cif ((h 4 12) = 0) 0 (cnt (fun i => h 31 i = 1 ∧ wrd h i pt = wd) (h 4 15).toNat))] h (rI K) := by
    have H := H.2
    refine e_istore_n (lv' := [some (vR 4), some (vI pt), some (vI wd), some (vI (cif ((h 4 12) = 0) 0 (cnt (fun i => h 31 i = 1 ∧ wrd h i pt = wd) (h 4 15).toNat))), none]) (pc := 17) dX3_keepOnly_17 rfl rfl rfl ?_
    refine e_iload_n (pc := 18) dX3_keepOnly_18 rfl rfl ?_
    refine e_if_ne (pc := 19) (tgt := 25) dX3_keepOnly_19 (by decide) (fun c1 => ?_) (fun c1 => ?_)
    · have H := H.1 c1
      refine e_iconst (pc := 25) dX3_keepOnly_25 ⟨by decide, by decide⟩ ?_
      refine e_istore (lv' := [some (vR 4), some (vI pt), some (vI wd), some (vI (cif ((h 4 12) = 0) 0 (cnt (fun i => h 31 i = 1 ∧ wrd h i pt = wd) (h 4 15).toNat))), some (vI 0)]) (pc := 26) dX3_keepOnly_26 rfl rfl ?_
      obtain ⟨m, H⟩ := H
      exact L1 m _ _ _ H
    · have H := H.2 c1
      refine e_bipush (pc := 22) dX3_keepOnly_22 ⟨by decide, by decide⟩ (by decide) ?_
      exact e_ret (pc := 24) (v := some (vI (-2))) dX3_keepOnly_24 rfl trivial ⟨_, rfl, H⟩
  have Ho := H.1
  refine e_if_eq (pc := 4) (tgt := 16) dX3_keepOnly_4 (by decide) (fun c2 => ?_) (fun c2 => ?_)
  · have Ho := Ho.1 c2
    refine e_iconst (pc := 16) dX3_keepOnly_16 ⟨by decide, by decide⟩ ?_
    exact e_top (cif_t c2) J
  · have Ho := Ho.2 c2
    refine e_aload_n (pc := 7) dX3_keepOnly_7 rfl rfl ?_
    refine e_iload_n (pc := 8) dX3_keepOnly_8 rfl rfl ?_
    refine e_iload_n (pc := 9) dX3_keepOnly_9 rfl rfl ?_
    refine e_invV (pc := 10) (Y' := Y_X3_openWith) (as := [vI pt, vI wd]) (st := []) (lv0 := [some (vR 4), some (vI pt), some (vI wd), none, none]) (q := 4) (ci := 3) (T := TX3) (N := 16) dX3_keepOnly_10 m_X3_openWith ul_3_162 ⟨ul_3_164, us_X3_openWith⟩ ⟨rfl, rfl⟩ rfl rfl rfl rfl rfl rfl rfl (c_X3_openWith w pt wd h Ho.1) ?_
    rintro _ hz ⟨_, rfl, rfl, hh⟩
    rw [hh]
    show Ev w Y_X3_keepOnly 13 [some (vR 4), some (vI pt), some (vI wd), none, none] [vI (cnt (fun i => h 31 i = 1 ∧ wrd h i pt = wd) (h 4 15).toNat)] h (rI K)
    have Ho := Ho.2
    refine e_goto (pc := 13) (tgt := 17) dX3_keepOnly_13 (by decide) ?_
    exact e_top (cif_f c2) J
set_option maxRecDepth 100000 in
set_option maxHeartbeats 4000000 in
theorem c_X3_keepOnly (w : WD) (pt : Int) (wd : Int) (h : HP) (K : Int → HP → Prop)  (H : S_X3_keepOnly pt wd h K) : Ev w Y_X3_keepOnly 0 [some (vR 4), some (vI pt), some (vI wd), none, none] [] h (rI K) := by
  obtain ⟨hE, H1, H2⟩ := H
  have h15 := hE.1
  refine v_X3_keepOnly w pt wd h K (fun n x3 x4 g => ¬ (h 4 12 = 0 ∨ opW h pt wd = 0) ∧ x3 = opW h pt wd ∧ ∃ k : Nat, x4 = (k : Int) ∧ (k : Int) ≤ h 4 15 ∧ n = (h 4 15 - (k : Int)).toNat ∧ (∀ q, q ≠ 31 → g q = h q) ∧ (∀ i : Int, 0 ≤ i → i < (k : Int) → g 31 i = b2i (h 31 i = 1 ∧ wrd h i pt = wd)) ∧ (∀ i : Int, i < 0 ∨ (k : Int) ≤ i → g 31 i = h 31 i)) ⟨⟨fun _ => trivial, fun _ => ⟨hE, trivial⟩⟩, fun z => ?_, fun z => ?_⟩ ?_
  · by_cases c : h 4 12 = 0
    · rw [cif_t c] at z; exact absurd rfl z
    · rw [cif_f c] at z ⊢
      exact ⟨(h 4 15).toNat, fun y => by rcases y with y | y; exact c y; exact z y, rfl, 0, rfl, by omega, by omega, fun _ _ => rfl, fun i a b => by omega, fun _ _ => rfl⟩
  · by_cases c : h 4 12 = 0
    · exact H1 (Or.inl c)
    · rw [cif_f c] at z
      exact H1 (Or.inr z)
  · rintro n x3 x4 g ⟨hz, rfl, k, rfl, hk, rfl, hg, hl, hr⟩
    rw [hg 4 (by decide), wrd_c (hg 27 (by decide)) (hg 28 (by decide)) (hg 29 (by decide)), hr (k : Int) (by omega)]
    refine ⟨fun c => H2 hz g hg (fun i a b => hl i a (by omega)) (fun i a => hr i (by omega)), fun c => ⟨by omega, ⟨fun _ => trivial, fun _ => ⟨by omega, trivial⟩⟩, by omega, ⟨by omega, by omega⟩, (h 4 15 - ((k + 1 : Nat) : Int)).toNat, by omega, hz, rfl, k + 1, by omega, by omega, rfl, fun q z => by rw [sth_ne z]; exact hg q z, fun i a b => ?_, fun i a => ?_⟩⟩
    · rw [sth_eq]
      by_cases e : i = (k : Int)
      · subst e
        rw [us_s]
        refine b2i_c ?_
        have h01 := (hE.2.2.1 (k : Int) (by omega) (by omega)).2
        exact ⟨fun y => ⟨by omega, y.2⟩, fun y => ⟨by omega, y.2⟩⟩
      · rw [us_n e]; exact hl i a (by omega)
    · rw [sth_eq, us_n (by omega)]; exact hr i (by omega)
def S_X8_hear (fo : Int) (su : Int) (n : Int) (v : Int) (h : HP) (K : Int → HP → Prop) : Prop :=
  ((((¬ (0 ≤ fo ∧ fo ≤ 5) → True) ∧ ((0 ≤ fo ∧ fo ≤ 5) → ((¬ (0 ≤ su ∧ su ≤ 100) → True) ∧ ((0 ≤ su ∧ su ≤ 100) → ((¬ (1 ≤ n ∧ n ≤ 8) → True) ∧ ((1 ≤ n ∧ n ≤ 8) → ((1 ≤ n ∧ n ≤ 8) ∧ True)))))))) ∧ (((((0 ≤ fo ∧ fo ≤ 5)) ∧ (((0 ≤ su ∧ su ≤ 100)) ∧ (((1 ≤ n ∧ n ≤ 8)) ∧ ((0 ≤ v ∧ v < 16 ^ Int.toNat n))))) → ((0 ≤ fo ∧ fo < 6) ∧ ((¬ (h 14 fo) = (-1) → (S_X7_listen n v h (fun h21 => (S_X3_begin fo (cif ((h21 54 2) ≤ su) fo 6) h21 (fun h22 => (S_X3_findReadings (h22 54 0) h22 (fun h23 => (S_X3_findMeant (h23 5 4) h23 (fun h24 => (S_X3_findOpen (h24 54 1) h24 (fun h25 => K (h25 4 15) h25))))))))))) ∧ ((h 14 fo) = (-1) → K (-2) h)))) ∧ (¬ (((0 ≤ fo ∧ fo ≤ 5)) ∧ (((0 ≤ su ∧ su ≤ 100)) ∧ (((1 ≤ n ∧ n ≤ 8)) ∧ ((0 ≤ v ∧ v < 16 ^ Int.toNat n))))) → K (-1) h)))
set_option maxRecDepth 100000 in
set_option maxHeartbeats 4000000 in
theorem v_X8_hear (w : WD) (fo : Int) (su : Int) (n : Int) (v : Int) (h : HP) (K : Int → HP → Prop) 
    (H : ((((¬ (0 ≤ fo ∧ fo ≤ 5) → True) ∧ ((0 ≤ fo ∧ fo ≤ 5) → ((¬ (0 ≤ su ∧ su ≤ 100) → True) ∧ ((0 ≤ su ∧ su ≤ 100) → ((¬ (1 ≤ n ∧ n ≤ 8) → True) ∧ ((1 ≤ n ∧ n ≤ 8) → ((1 ≤ n ∧ n ≤ 8) ∧ True)))))))) ∧ (((((0 ≤ fo ∧ fo ≤ 5)) ∧ (((0 ≤ su ∧ su ≤ 100)) ∧ (((1 ≤ n ∧ n ≤ 8)) ∧ ((0 ≤ v ∧ v < 16 ^ Int.toNat n))))) → ((0 ≤ fo ∧ fo < 6) ∧ ((¬ (h 14 fo) = (-1) → (S_X7_listen n v h (fun h21 => (S_X3_begin fo (cif ((h21 54 2) ≤ su) fo 6) h21 (fun h22 => (S_X3_findReadings (h22 54 0) h22 (fun h23 => (S_X3_findMeant (h23 5 4) h23 (fun h24 => (S_X3_findOpen (h24 54 1) h24 (fun h25 => K (h25 4 15) h25))))))))))) ∧ ((h 14 fo) = (-1) → K (-2) h)))) ∧ (¬ (((0 ≤ fo ∧ fo ≤ 5)) ∧ (((0 ≤ su ∧ su ≤ 100)) ∧ (((1 ≤ n ∧ n ≤ 8)) ∧ ((0 ≤ v ∧ v < 16 ^ Int.toNat n))))) → K (-1) h)))) :
    Ev w Y_X8_hear 0 [some (vR 0), some (vI fo), some (vI su), some (vI n), some (vL v), none] [] h (rI K) := by
  refine e_iload_n (pc := 0) dX8_hear_0 rfl rfl ?_
  refine e_iconst (pc := 1) dX8_hear_1 ⟨by decide, by decide⟩ ?_
  refine e_iconst (pc := 2) dX8_hear_2 ⟨by decide, by decide⟩ ?_
  refine e_invS (pc := 3) (Y' := Y_X8_within) (as := [vI fo, vI 0, vI 5]) (st := []) (lv0 := [some (vI fo), some (vI 0), some (vI 5)]) dX8_hear_3 m_X8_within ul_2_130 ul_2_131 ⟨rfl, rfl⟩ rfl rfl rfl rfl rfl (c_X8_within w fo 0 5 h) ?_
  rintro _ hz ⟨_, rfl, rfl, hh⟩
  rw [hh]
  show Ev w Y_X8_hear 6 [some (vR 0), some (vI fo), some (vI su), some (vI n), some (vL v), none] [vI (b2i (0 ≤ fo ∧ fo ≤ 5))] h (rI K)
  have Ho := H.1
  have H := H.2
  have J1 : (((0 ≤ fo ∧ fo ≤ 5)) ∧ (((0 ≤ su ∧ su ≤ 100)) ∧ (((1 ≤ n ∧ n ≤ 8)) ∧ ((0 ≤ v ∧ v < 16 ^ Int.toNat n))))) → Ev w Y_X8_hear 40 [some (vR 0), some (vI fo), some (vI su), some (vI n), some (vL v), none] [] h (rI K) := by
    intro hp
    have H := H.1 hp
    refine e_aload_n (pc := 40) dX8_hear_40 rfl rfl ?_
    refine e_getR (q := 0) (ci := 8) (k := 0) (y := 1) (C := RX8) (T := TX8) (N := 9) (pc := 41) dX8_hear_41 rfl rfl ev_in8 rfl ul_2_98 ⟨rfl, rfl⟩ rfl ?_
    refine e_getR (q := 1) (ci := 4) (k := 5) (y := 14) (C := RX4) (T := TX4) (N := 10) (pc := 44) dX8_hear_44 rfl rfl ev_in4 rfl ul_1_44 ⟨rfl, rfl⟩ rfl ?_
    refine e_iload_n (pc := 47) dX8_hear_47 rfl rfl ?_
    refine e_iald (q := 14) (x := (h 14 fo)) (pc := 48) dX8_hear_48 rfl H.1 rfl ?_
    have H := H.2
    refine e_iconst (pc := 49) dX8_hear_49 ⟨by decide, by decide⟩ ?_
    refine e_icmp_ne (pc := 50) (tgt := 56) dX8_hear_50 (by decide) (fun c1 => ?_) (fun c1 => ?_)
    · have H := H.1 c1
      refine e_aload_n (pc := 56) dX8_hear_56 rfl rfl ?_
      refine e_getR (q := 0) (ci := 8) (k := 2) (y := 3) (C := RX8) (T := TX8) (N := 9) (pc := 57) dX8_hear_57 rfl rfl ev_in8 rfl ul_2_100 ⟨rfl, rfl⟩ rfl ?_
      refine e_iload_n (pc := 60) dX8_hear_60 rfl rfl ?_
      refine e_lload (pc := 61) dX8_hear_61 rfl ?_
      refine e_invV (pc := 63) (Y' := Y_X7_listen) (as := [vI n, vL v]) (st := []) (lv0 := [some (vR 3), some (vI n), some (vL v), none, none]) (q := 3) (ci := 7) (T := TX7) (N := 8) dX8_hear_63 m_X7_listen ul_3_41 ⟨ul_3_42, ul_3_43⟩ ⟨rfl, rfl⟩ rfl rfl rfl rfl rfl rfl rfl (c_X7_listen w n v h _ H) ?_
      rintro _ h21 ⟨rfl, H⟩
      show Ev w Y_X8_hear 66 [some (vR 0), some (vI fo), some (vI su), some (vI n), some (vL v), none] [] h21 (rI K)
      refine e_aload_n (pc := 66) dX8_hear_66 rfl rfl ?_
      refine e_getR (q := 0) (ci := 8) (k := 3) (y := 4) (C := RX8) (T := TX8) (N := 9) (pc := 67) dX8_hear_67 rfl rfl ev_in8 rfl ul_2_101 ⟨rfl, rfl⟩ rfl ?_
      refine e_iload_n (pc := 70) dX8_hear_70 rfl rfl ?_
      refine e_iload_n (pc := 71) dX8_hear_71 rfl rfl ?_
      refine e_aload_n (pc := 72) dX8_hear_72 rfl rfl ?_
      refine e_getR (q := 0) (ci := 8) (k := 8) (y := 54) (C := RX8) (T := TX8) (N := 9) (pc := 73) dX8_hear_73 rfl rfl ev_in8 rfl ul_2_106 ⟨rfl, rfl⟩ rfl ?_
      refine e_iconst (pc := 76) dX8_hear_76 ⟨by decide, by decide⟩ ?_
      refine e_iald (q := 54) (x := (h21 54 2)) (pc := 77) dX8_hear_77 rfl ⟨by decide, by decide⟩ rfl ?_
      have J : Ev w Y_X8_hear 87 [some (vR 0), some (vI fo), some (vI su), some (vI n), some (vL v), none] [vI (cif ((h21 54 2) ≤ su) fo 6), vI fo, vR 4] h21 (rI K) := by
        refine e_invV (pc := 87) (Y' := Y_X3_begin) (as := [vI fo, vI (cif ((h21 54 2) ≤ su) fo 6)]) (st := []) (lv0 := [some (vR 4), some (vI fo), some (vI (cif ((h21 54 2) ≤ su) fo 6))]) (q := 4) (ci := 3) (T := TX3) (N := 16) dX8_hear_87 m_X3_begin ul_3_45 ⟨ul_3_46, ul_3_47⟩ ⟨rfl, rfl⟩ rfl rfl rfl rfl rfl rfl rfl (c_X3_begin w fo (cif ((h21 54 2) ≤ su) fo 6) h21 _ H) ?_
        rintro _ h22 ⟨rfl, H⟩
        show Ev w Y_X8_hear 90 [some (vR 0), some (vI fo), some (vI su), some (vI n), some (vL v), none] [] h22 (rI K)
        refine e_aload_n (pc := 90) dX8_hear_90 rfl rfl ?_
        refine e_getR (q := 0) (ci := 8) (k := 3) (y := 4) (C := RX8) (T := TX8) (N := 9) (pc := 91) dX8_hear_91 rfl rfl ev_in8 rfl ul_2_101 ⟨rfl, rfl⟩ rfl ?_
        refine e_aload_n (pc := 94) dX8_hear_94 rfl rfl ?_
        refine e_getR (q := 0) (ci := 8) (k := 8) (y := 54) (C := RX8) (T := TX8) (N := 9) (pc := 95) dX8_hear_95 rfl rfl ev_in8 rfl ul_2_106 ⟨rfl, rfl⟩ rfl ?_
        refine e_iconst (pc := 98) dX8_hear_98 ⟨by decide, by decide⟩ ?_
        refine e_iald (q := 54) (x := (h22 54 0)) (pc := 99) dX8_hear_99 rfl ⟨by decide, by decide⟩ rfl ?_
        refine e_invV (pc := 100) (Y' := Y_X3_findReadings) (as := [vI (h22 54 0)]) (st := []) (lv0 := [some (vR 4), some (vI (h22 54 0)), none]) (q := 4) (ci := 3) (T := TX3) (N := 16) dX8_hear_100 m_X3_findReadings ul_3_49 ⟨ul_3_50, ul_3_51⟩ ⟨rfl, rfl⟩ rfl rfl rfl rfl rfl rfl rfl (c_X3_findReadings w (h22 54 0) h22 _ H) ?_
        rintro _ h23 ⟨rfl, H⟩
        show Ev w Y_X8_hear 103 [some (vR 0), some (vI fo), some (vI su), some (vI n), some (vL v), none] [] h23 (rI K)
        refine e_aload_n (pc := 103) dX8_hear_103 rfl rfl ?_
        refine e_getR (q := 0) (ci := 8) (k := 3) (y := 4) (C := RX8) (T := TX8) (N := 9) (pc := 104) dX8_hear_104 rfl rfl ev_in8 rfl ul_2_101 ⟨rfl, rfl⟩ rfl ?_
        refine e_aload_n (pc := 107) dX8_hear_107 rfl rfl ?_
        refine e_getR (q := 0) (ci := 8) (k := 4) (y := 5) (C := RX8) (T := TX8) (N := 9) (pc := 108) dX8_hear_108 rfl rfl ev_in8 rfl ul_2_102 ⟨rfl, rfl⟩ rfl ?_
        refine e_getI (q := 5) (ci := 0) (k := 4) (kz := 4) (C := RX0) (T := TX0) (N := 5) (x := (h23 5 4)) (pc := 111) dX8_hear_111 rfl rfl rfl ev_in0 rfl ul_1_222 ⟨rfl, by decide⟩ rfl ?_
        refine e_invV (pc := 114) (Y' := Y_X3_findMeant) (as := [vI (h23 5 4)]) (st := []) (lv0 := [some (vR 4), some (vI (h23 5 4)), none, none]) (q := 4) (ci := 3) (T := TX3) (N := 16) dX8_hear_114 m_X3_findMeant ul_3_81 ⟨ul_3_82, ul_3_83⟩ ⟨rfl, rfl⟩ rfl rfl rfl rfl rfl rfl rfl (c_X3_findMeant w (h23 5 4) h23 _ H) ?_
        rintro _ h24 ⟨rfl, H⟩
        show Ev w Y_X8_hear 117 [some (vR 0), some (vI fo), some (vI su), some (vI n), some (vL v), none] [] h24 (rI K)
        refine e_aload_n (pc := 117) dX8_hear_117 rfl rfl ?_
        refine e_getR (q := 0) (ci := 8) (k := 3) (y := 4) (C := RX8) (T := TX8) (N := 9) (pc := 118) dX8_hear_118 rfl rfl ev_in8 rfl ul_2_101 ⟨rfl, rfl⟩ rfl ?_
        refine e_aload_n (pc := 121) dX8_hear_121 rfl rfl ?_
        refine e_getR (q := 0) (ci := 8) (k := 8) (y := 54) (C := RX8) (T := TX8) (N := 9) (pc := 122) dX8_hear_122 rfl rfl ev_in8 rfl ul_2_106 ⟨rfl, rfl⟩ rfl ?_
        refine e_iconst (pc := 125) dX8_hear_125 ⟨by decide, by decide⟩ ?_
        refine e_iald (q := 54) (x := (h24 54 1)) (pc := 126) dX8_hear_126 rfl ⟨by decide, by decide⟩ rfl ?_
        refine e_invV (pc := 127) (Y' := Y_X3_findOpen) (as := [vI (h24 54 1)]) (st := []) (lv0 := [some (vR 4), some (vI (h24 54 1)), none, none, none]) (q := 4) (ci := 3) (T := TX3) (N := 16) dX8_hear_127 m_X3_findOpen ul_3_111 ⟨ul_3_112, ul_3_113⟩ ⟨rfl, rfl⟩ rfl rfl rfl rfl rfl rfl rfl (c_X3_findOpen w (h24 54 1) h24 _ H) ?_
        rintro _ h25 ⟨rfl, H⟩
        show Ev w Y_X8_hear 130 [some (vR 0), some (vI fo), some (vI su), some (vI n), some (vL v), none] [] h25 (rI K)
        refine e_aload_n (pc := 130) dX8_hear_130 rfl rfl ?_
        refine e_getR (q := 0) (ci := 8) (k := 3) (y := 4) (C := RX8) (T := TX8) (N := 9) (pc := 131) dX8_hear_131 rfl rfl ev_in8 rfl ul_2_101 ⟨rfl, rfl⟩ rfl ?_
        refine e_getI (q := 4) (ci := 3) (k := 15) (kz := 15) (C := RX3) (T := TX3) (N := 16) (x := (h25 4 15)) (pc := 134) dX8_hear_134 rfl rfl rfl ev_in3 rfl ul_1_172 ⟨rfl, by decide⟩ rfl ?_
        exact e_ret (pc := 137) (v := some (vI (h25 4 15))) dX8_hear_137 rfl trivial ⟨_, rfl, H⟩
      refine e_icmp_ge (pc := 78) (tgt := 86) dX8_hear_78 (by decide) (fun c2 => ?_) (fun c2 => ?_)
      · refine e_iload_n (pc := 86) dX8_hear_86 rfl rfl ?_
        exact e_top (cif_t c2) J
      · refine e_bipush (pc := 81) dX8_hear_81 ⟨by decide, by decide⟩ (by decide) ?_
        refine e_goto (pc := 83) (tgt := 87) dX8_hear_83 (by decide) ?_
        exact e_top (cif_f c2) J
    · have H := H.2 c1
      refine e_bipush (pc := 53) dX8_hear_53 ⟨by decide, by decide⟩ (by decide) ?_
      exact e_ret (pc := 55) (v := some (vI (-2))) dX8_hear_55 rfl trivial ⟨_, rfl, H⟩
  have J2 : ¬ (((0 ≤ fo ∧ fo ≤ 5)) ∧ (((0 ≤ su ∧ su ≤ 100)) ∧ (((1 ≤ n ∧ n ≤ 8)) ∧ ((0 ≤ v ∧ v < 16 ^ Int.toNat n))))) → Ev w Y_X8_hear 38 [some (vR 0), some (vI fo), some (vI su), some (vI n), some (vL v), none] [] h (rI K) := by
    intro hp
    have H := H.2 hp
    refine e_iconst (pc := 38) dX8_hear_38 ⟨by decide, by decide⟩ ?_
    exact e_ret (pc := 39) (v := some (vI (-1))) dX8_hear_39 rfl trivial ⟨_, rfl, H⟩
  refine e_ifb_eq (pc := 6) (tgt := 38) dX8_hear_6 (by decide) (fun c3 => ?_) (fun c3 => ?_)
  · have Ho := Ho.1 c3
    exact J2 (fun z => c3 z.1)
  · have Ho := Ho.2 c3
    refine e_iload_n (pc := 9) dX8_hear_9 rfl rfl ?_
    refine e_iconst (pc := 10) dX8_hear_10 ⟨by decide, by decide⟩ ?_
    refine e_bipush (pc := 11) dX8_hear_11 ⟨by decide, by decide⟩ (by decide) ?_
    refine e_invS (pc := 13) (Y' := Y_X8_within) (as := [vI su, vI 0, vI 100]) (st := []) (lv0 := [some (vI su), some (vI 0), some (vI 100)]) dX8_hear_13 m_X8_within ul_2_130 ul_2_131 ⟨rfl, rfl⟩ rfl rfl rfl rfl rfl (c_X8_within w su 0 100 h) ?_
    rintro _ hz ⟨_, rfl, rfl, hh⟩
    rw [hh]
    show Ev w Y_X8_hear 16 [some (vR 0), some (vI fo), some (vI su), some (vI n), some (vL v), none] [vI (b2i (0 ≤ su ∧ su ≤ 100))] h (rI K)
    refine e_ifb_eq (pc := 16) (tgt := 38) dX8_hear_16 (by decide) (fun c4 => ?_) (fun c4 => ?_)
    · have Ho := Ho.1 c4
      exact J2 (fun z => (fun z => c4 z.1) z.2)
    · have Ho := Ho.2 c4
      refine e_iload_n (pc := 19) dX8_hear_19 rfl rfl ?_
      refine e_iconst (pc := 20) dX8_hear_20 ⟨by decide, by decide⟩ ?_
      refine e_bipush (pc := 21) dX8_hear_21 ⟨by decide, by decide⟩ (by decide) ?_
      refine e_invS (pc := 23) (Y' := Y_X8_within) (as := [vI n, vI 1, vI 8]) (st := []) (lv0 := [some (vI n), some (vI 1), some (vI 8)]) dX8_hear_23 m_X8_within ul_2_130 ul_2_131 ⟨rfl, rfl⟩ rfl rfl rfl rfl rfl (c_X8_within w n 1 8 h) ?_
      rintro _ hz ⟨_, rfl, rfl, hh⟩
      rw [hh]
      show Ev w Y_X8_hear 26 [some (vR 0), some (vI fo), some (vI su), some (vI n), some (vL v), none] [vI (b2i (1 ≤ n ∧ n ≤ 8))] h (rI K)
      refine e_ifb_eq (pc := 26) (tgt := 38) dX8_hear_26 (by decide) (fun c5 => ?_) (fun c5 => ?_)
      · have Ho := Ho.1 c5
        exact J2 (fun z => (fun z => (fun z => c5 z.1) z.2) z.2)
      · have Ho := Ho.2 c5
        refine e_iload_n (pc := 29) dX8_hear_29 rfl rfl ?_
        refine e_lload (pc := 30) dX8_hear_30 rfl ?_
        refine e_invS (pc := 32) (Y' := Y_X8_fitsSounds) (as := [vI n, vL v]) (st := []) (lv0 := [some (vI n), some (vL v), none]) dX8_hear_32 m_X8_fitsSounds ul_2_170 ul_2_171 ⟨rfl, rfl⟩ rfl rfl rfl rfl rfl (c_X8_fitsSounds w n v h Ho.1) ?_
        rintro _ hz ⟨_, rfl, rfl, hh⟩
        rw [hh]
        show Ev w Y_X8_hear 35 [some (vR 0), some (vI fo), some (vI su), some (vI n), some (vL v), none] [vI (b2i (0 ≤ v ∧ v < 16 ^ Int.toNat n))] h (rI K)
        have Ho := Ho.2
        refine e_ifb_ne (pc := 35) (tgt := 40) dX8_hear_35 (by decide) (fun c6 => ?_) (fun c6 => ?_)
        · exact J1 ⟨c3, ⟨c4, ⟨c5, c6⟩⟩⟩
        · exact J2 (fun z => (fun z => (fun z => c6 z.2) z.2) z.2)
theorem c_X8_hear (w : WD) (fo : Int) (su : Int) (n : Int) (v : Int) (h : HP) (K : Int → HP → Prop)  (H : S_X8_hear fo su n v h K) : Ev w Y_X8_hear 0 [some (vR 0), some (vI fo), some (vI su), some (vI n), some (vL v), none] [] h (rI K) := v_X8_hear w fo su n v h K  H
def S_X8_reading (a1 : Int) (a2 : Int) (h : HP) (K : Int → HP → Prop) : Prop :=
  ((((a1 < 0) ∨ (¬ (0 ≤ a2 ∧ a2 ≤ 4))) → K (-1) h) ∧ (¬ ((a1 < 0) ∨ (¬ (0 ≤ a2 ∧ a2 ≤ 4))) → (S_X3_tell a1 a2 h (fun r21 h21 => K r21 h21))))
set_option maxRecDepth 100000 in
set_option maxHeartbeats 4000000 in
theorem v_X8_reading (w : WD) (a1 : Int) (a2 : Int) (h : HP) (K : Int → HP → Prop) 
    (H : ((((a1 < 0) ∨ (¬ (0 ≤ a2 ∧ a2 ≤ 4))) → K (-1) h) ∧ (¬ ((a1 < 0) ∨ (¬ (0 ≤ a2 ∧ a2 ≤ 4))) → (S_X3_tell a1 a2 h (fun r21 h21 => K r21 h21))))) :
    Ev w Y_X8_reading 0 [some (vR 0), some (vI a1), some (vI a2)] [] h (rI K) := by
  refine e_iload_n (pc := 0) dX8_reading_0 rfl rfl ?_
  have J1 : ((a1 < 0) ∨ (¬ (0 ≤ a2 ∧ a2 ≤ 4))) → Ev w Y_X8_reading 13 [some (vR 0), some (vI a1), some (vI a2)] [] h (rI K) := by
    intro hp
    have H := H.1 hp
    refine e_iconst (pc := 13) dX8_reading_13 ⟨by decide, by decide⟩ ?_
    exact e_ret (pc := 14) (v := some (vI (-1))) dX8_reading_14 rfl trivial ⟨_, rfl, H⟩
  have J2 : ¬ ((a1 < 0) ∨ (¬ (0 ≤ a2 ∧ a2 ≤ 4))) → Ev w Y_X8_reading 15 [some (vR 0), some (vI a1), some (vI a2)] [] h (rI K) := by
    intro hp
    have H := H.2 hp
    refine e_aload_n (pc := 15) dX8_reading_15 rfl rfl ?_
    refine e_getR (q := 0) (ci := 8) (k := 3) (y := 4) (C := RX8) (T := TX8) (N := 9) (pc := 16) dX8_reading_16 rfl rfl ev_in8 rfl ul_2_101 ⟨rfl, rfl⟩ rfl ?_
    refine e_iload_n (pc := 19) dX8_reading_19 rfl rfl ?_
    refine e_iload_n (pc := 20) dX8_reading_20 rfl rfl ?_
    refine e_invV (pc := 21) (Y' := Y_X3_tell) (as := [vI a1, vI a2]) (st := []) (lv0 := [some (vR 4), some (vI a1), some (vI a2)]) (q := 4) (ci := 3) (T := TX3) (N := 16) dX8_reading_21 m_X3_tell ul_3_119 ⟨ul_3_120, ul_3_121⟩ ⟨rfl, rfl⟩ rfl rfl rfl rfl rfl rfl rfl (c_X3_tell w a1 a2 h _ H) ?_
    rintro _ h21 ⟨r21, rfl, H⟩
    show Ev w Y_X8_reading 24 [some (vR 0), some (vI a1), some (vI a2)] [vI r21] h21 (rI K)
    exact e_ret (pc := 24) (v := some (vI r21)) dX8_reading_24 rfl trivial ⟨_, rfl, H⟩
  refine e_if_lt (pc := 1) (tgt := 13) dX8_reading_1 (by decide) (fun c1 => ?_) (fun c1 => ?_)
  · exact J1 (Or.inl c1)
  · refine e_iload_n (pc := 4) dX8_reading_4 rfl rfl ?_
    refine e_iconst (pc := 5) dX8_reading_5 ⟨by decide, by decide⟩ ?_
    refine e_iconst (pc := 6) dX8_reading_6 ⟨by decide, by decide⟩ ?_
    refine e_invS (pc := 7) (Y' := Y_X8_within) (as := [vI a2, vI 0, vI 4]) (st := []) (lv0 := [some (vI a2), some (vI 0), some (vI 4)]) dX8_reading_7 m_X8_within ul_2_130 ul_2_131 ⟨rfl, rfl⟩ rfl rfl rfl rfl rfl (c_X8_within w a2 0 4 h) ?_
    rintro _ hz ⟨_, rfl, rfl, hh⟩
    rw [hh]
    show Ev w Y_X8_reading 10 [some (vR 0), some (vI a1), some (vI a2)] [vI (b2i (0 ≤ a2 ∧ a2 ≤ 4))] h (rI K)
    refine e_ifb_ne (pc := 10) (tgt := 15) dX8_reading_10 (by decide) (fun c2 => ?_) (fun c2 => ?_)
    · exact J2 (fun z => z.elim c1 (fun z => z c2))
    · exact J1 (Or.inr c2)
theorem c_X8_reading (w : WD) (a1 : Int) (a2 : Int) (h : HP) (K : Int → HP → Prop)  (H : S_X8_reading a1 a2 h K) : Ev w Y_X8_reading 0 [some (vR 0), some (vI a1), some (vI a2)] [] h (rI K) := v_X8_reading w a1 a2 h K  H
def S_X8_open  (h : HP) (K : Int → HP → Prop) : Prop :=
  (((((h 4 12) = 0 → True) ∧ (¬ (h 4 12) = 0 → ((HOK h ∧ VOK h ∧ EOK h) ∧ True)))) ∧ K (cif ((h 4 12) = 0) (-2) (unl h)) h)
set_option maxRecDepth 100000 in
set_option maxHeartbeats 4000000 in
theorem v_X8_open (w : WD)  (h : HP) (K : Int → HP → Prop) 
    (H : (((((h 4 12) = 0 → True) ∧ (¬ (h 4 12) = 0 → ((HOK h ∧ VOK h ∧ EOK h) ∧ True)))) ∧ K (cif ((h 4 12) = 0) (-2) (unl h)) h)) :
    Ev w Y_X8_open 0 [some (vR 0)] [] h (rI K) := by
  refine e_aload_n (pc := 0) dX8_open_0 rfl rfl ?_
  refine e_getR (q := 0) (ci := 8) (k := 3) (y := 4) (C := RX8) (T := TX8) (N := 9) (pc := 1) dX8_open_1 rfl rfl ev_in8 rfl ul_2_101 ⟨rfl, rfl⟩ rfl ?_
  refine e_getI (q := 4) (ci := 3) (k := 12) (kz := 12) (C := RX3) (T := TX3) (N := 16) (x := (h 4 12)) (pc := 4) dX8_open_4 rfl rfl rfl ev_in3 rfl ul_1_166 ⟨rfl, by decide⟩ rfl ?_
  have J : Ev w Y_X8_open 22 [some (vR 0)] [vI (cif ((h 4 12) = 0) (-2) (unl h))] h (rI K) := by
    have H := H.2
    exact e_ret (pc := 22) (v := some (vI (cif ((h 4 12) = 0) (-2) (unl h)))) dX8_open_22 rfl trivial ⟨_, rfl, H⟩
  have Ho := H.1
  refine e_if_eq (pc := 7) (tgt := 20) dX8_open_7 (by decide) (fun c1 => ?_) (fun c1 => ?_)
  · have Ho := Ho.1 c1
    refine e_bipush (pc := 20) dX8_open_20 ⟨by decide, by decide⟩ (by decide) ?_
    exact e_top (cif_t c1) J
  · have Ho := Ho.2 c1
    refine e_aload_n (pc := 10) dX8_open_10 rfl rfl ?_
    refine e_getR (q := 0) (ci := 8) (k := 3) (y := 4) (C := RX8) (T := TX8) (N := 9) (pc := 11) dX8_open_11 rfl rfl ev_in8 rfl ul_2_101 ⟨rfl, rfl⟩ rfl ?_
    refine e_invV (pc := 14) (Y' := Y_X3_unlike) (as := []) (st := []) (lv0 := [some (vR 4), none, none]) (q := 4) (ci := 3) (T := TX3) (N := 16) dX8_open_14 m_X3_unlike ul_3_127 ⟨ul_3_128, ul_3_129⟩ ⟨rfl, rfl⟩ rfl rfl rfl rfl rfl rfl rfl (c_X3_unlike w h Ho.1) ?_
    rintro _ hz ⟨_, rfl, rfl, hh⟩
    rw [hh]
    show Ev w Y_X8_open 17 [some (vR 0)] [vI (unl h)] h (rI K)
    have Ho := Ho.2
    refine e_goto (pc := 17) (tgt := 22) dX8_open_17 (by decide) ?_
    exact e_top (cif_f c1) J
theorem c_X8_open (w : WD)  (h : HP) (K : Int → HP → Prop)  (H : S_X8_open  h K) : Ev w Y_X8_open 0 [some (vR 0)] [] h (rI K) := v_X8_open w  h K  H
def S_X8_ask  (h : HP) (K : Int → HP → Prop) : Prop :=
  ((¬ (h 4 12) = 0 → ((HOK h ∧ VOK h ∧ EOK h) ∧ ((((2 ≤ (unl h) → ((EOK h) ∧ True)) ∧ (¬ 2 ≤ (unl h) → True))) ∧ K (cif (2 ≤ (unl h)) (pta (grt h 0 (h 4 15).toNat) (grt h 1 (h 4 15).toNat) (grt h 2 (h 4 15).toNat)) (-4)) h))) ∧ ((h 4 12) = 0 → K (-2) h))
set_option maxRecDepth 100000 in
set_option maxHeartbeats 4000000 in
theorem v_X8_ask (w : WD)  (h : HP) (K : Int → HP → Prop) 
    (H : ((¬ (h 4 12) = 0 → ((HOK h ∧ VOK h ∧ EOK h) ∧ ((((2 ≤ (unl h) → ((EOK h) ∧ True)) ∧ (¬ 2 ≤ (unl h) → True))) ∧ K (cif (2 ≤ (unl h)) (pta (grt h 0 (h 4 15).toNat) (grt h 1 (h 4 15).toNat) (grt h 2 (h 4 15).toNat)) (-4)) h))) ∧ ((h 4 12) = 0 → K (-2) h))) :
    Ev w Y_X8_ask 0 [some (vR 0)] [] h (rI K) := by
  refine e_aload_n (pc := 0) dX8_ask_0 rfl rfl ?_
  refine e_getR (q := 0) (ci := 8) (k := 3) (y := 4) (C := RX8) (T := TX8) (N := 9) (pc := 1) dX8_ask_1 rfl rfl ev_in8 rfl ul_2_101 ⟨rfl, rfl⟩ rfl ?_
  refine e_getI (q := 4) (ci := 3) (k := 12) (kz := 12) (C := RX3) (T := TX3) (N := 16) (x := (h 4 12)) (pc := 4) dX8_ask_4 rfl rfl rfl ev_in3 rfl ul_1_166 ⟨rfl, by decide⟩ rfl ?_
  refine e_if_ne (pc := 7) (tgt := 13) dX8_ask_7 (by decide) (fun c1 => ?_) (fun c1 => ?_)
  · have H := H.1 c1
    refine e_aload_n (pc := 13) dX8_ask_13 rfl rfl ?_
    refine e_getR (q := 0) (ci := 8) (k := 3) (y := 4) (C := RX8) (T := TX8) (N := 9) (pc := 14) dX8_ask_14 rfl rfl ev_in8 rfl ul_2_101 ⟨rfl, rfl⟩ rfl ?_
    refine e_invV (pc := 17) (Y' := Y_X3_unlike) (as := []) (st := []) (lv0 := [some (vR 4), none, none]) (q := 4) (ci := 3) (T := TX3) (N := 16) dX8_ask_17 m_X3_unlike ul_3_127 ⟨ul_3_128, ul_3_129⟩ ⟨rfl, rfl⟩ rfl rfl rfl rfl rfl rfl rfl (c_X3_unlike w h H.1) ?_
    rintro _ hz ⟨_, rfl, rfl, hh⟩
    rw [hh]
    show Ev w Y_X8_ask 20 [some (vR 0)] [vI (unl h)] h (rI K)
    have H := H.2
    refine e_iconst (pc := 20) dX8_ask_20 ⟨by decide, by decide⟩ ?_
    have J : Ev w Y_X8_ask 36 [some (vR 0)] [vI (cif (2 ≤ (unl h)) (pta (grt h 0 (h 4 15).toNat) (grt h 1 (h 4 15).toNat) (grt h 2 (h 4 15).toNat)) (-4))] h (rI K) := by
      have H := H.2
      exact e_ret (pc := 36) (v := some (vI (cif (2 ≤ (unl h)) (pta (grt h 0 (h 4 15).toNat) (grt h 1 (h 4 15).toNat) (grt h 2 (h 4 15).toNat)) (-4)))) dX8_ask_36 rfl trivial ⟨_, rfl, H⟩
    have Ho := H.1
    refine e_icmp_ge (pc := 21) (tgt := 29) dX8_ask_21 (by decide) (fun c2 => ?_) (fun c2 => ?_)
    · have Ho := Ho.1 c2
      refine e_aload_n (pc := 29) dX8_ask_29 rfl rfl ?_
      refine e_getR (q := 0) (ci := 8) (k := 3) (y := 4) (C := RX8) (T := TX8) (N := 9) (pc := 30) dX8_ask_30 rfl rfl ev_in8 rfl ul_2_101 ⟨rfl, rfl⟩ rfl ?_
      refine e_invV (pc := 33) (Y' := Y_X3_partToAsk) (as := []) (st := []) (lv0 := [some (vR 4), none, none]) (q := 4) (ci := 3) (T := TX3) (N := 16) dX8_ask_33 m_X3_partToAsk ul_3_150 ⟨ul_3_151, ul_3_152⟩ ⟨rfl, rfl⟩ rfl rfl rfl rfl rfl rfl rfl (c_X3_partToAsk w h Ho.1) ?_
      rintro _ hz ⟨_, rfl, rfl, hh⟩
      rw [hh]
      show Ev w Y_X8_ask 36 [some (vR 0)] [vI (pta (grt h 0 (h 4 15).toNat) (grt h 1 (h 4 15).toNat) (grt h 2 (h 4 15).toNat))] h (rI K)
      have Ho := Ho.2
      exact e_top (cif_t c2) J
    · have Ho := Ho.2 c2
      refine e_bipush (pc := 24) dX8_ask_24 ⟨by decide, by decide⟩ (by decide) ?_
      refine e_goto (pc := 26) (tgt := 36) dX8_ask_26 (by decide) ?_
      exact e_top (cif_f c2) J
  · have H := H.2 c1
    refine e_bipush (pc := 10) dX8_ask_10 ⟨by decide, by decide⟩ (by decide) ?_
    exact e_ret (pc := 12) (v := some (vI (-2))) dX8_ask_12 rfl trivial ⟨_, rfl, H⟩
theorem c_X8_ask (w : WD)  (h : HP) (K : Int → HP → Prop)  (H : S_X8_ask  h K) : Ev w Y_X8_ask 0 [some (vR 0)] [] h (rI K) := v_X8_ask w  h K  H
def S_X8_answer (a1 : Int) (a2 : Int) (h : HP) (K : Int → HP → Prop) : Prop :=
  ((((¬ (0 ≤ a1 ∧ a1 ≤ 2) → True) ∧ ((0 ≤ a1 ∧ a1 ≤ 2) → ((iR ((h 3 6) - 1)) ∧ True)))) ∧ (((((0 ≤ a1 ∧ a1 ≤ 2)) ∧ (((cif (¬ a1 = 2) 0 (-1)) ≤ a2 ∧ a2 ≤ ((h 3 6) - 1)))) → (S_X3_keepOnly a1 a2 h (fun r21 h21 => K r21 h21))) ∧ (¬ (((0 ≤ a1 ∧ a1 ≤ 2)) ∧ (((cif (¬ a1 = 2) 0 (-1)) ≤ a2 ∧ a2 ≤ ((h 3 6) - 1)))) → K (-1) h)))
set_option maxRecDepth 100000 in
set_option maxHeartbeats 4000000 in
theorem v_X8_answer (w : WD) (a1 : Int) (a2 : Int) (h : HP) (K : Int → HP → Prop) 
    (H : ((((¬ (0 ≤ a1 ∧ a1 ≤ 2) → True) ∧ ((0 ≤ a1 ∧ a1 ≤ 2) → ((iR ((h 3 6) - 1)) ∧ True)))) ∧ (((((0 ≤ a1 ∧ a1 ≤ 2)) ∧ (((cif (¬ a1 = 2) 0 (-1)) ≤ a2 ∧ a2 ≤ ((h 3 6) - 1)))) → (S_X3_keepOnly a1 a2 h (fun r21 h21 => K r21 h21))) ∧ (¬ (((0 ≤ a1 ∧ a1 ≤ 2)) ∧ (((cif (¬ a1 = 2) 0 (-1)) ≤ a2 ∧ a2 ≤ ((h 3 6) - 1)))) → K (-1) h)))) :
    Ev w Y_X8_answer 0 [some (vR 0), some (vI a1), some (vI a2), none] [] h (rI K) := by
  refine e_iload_n (pc := 0) dX8_answer_0 rfl rfl ?_
  refine e_iconst (pc := 1) dX8_answer_1 ⟨by decide, by decide⟩ ?_
  have J : Ev w Y_X8_answer 10 [some (vR 0), some (vI a1), some (vI a2), none] [vI (cif (¬ a1 = 2) 0 (-1))] h (rI K) := by
    refine e_istore_n (lv' := [some (vR 0), some (vI a1), some (vI a2), some (vI (cif (¬ a1 = 2) 0 (-1)))]) (pc := 10) dX8_answer_10 rfl rfl rfl ?_
    refine e_iload_n (pc := 11) dX8_answer_11 rfl rfl ?_
    refine e_iconst (pc := 12) dX8_answer_12 ⟨by decide, by decide⟩ ?_
    refine e_iconst (pc := 13) dX8_answer_13 ⟨by decide, by decide⟩ ?_
    refine e_invS (pc := 14) (Y' := Y_X8_within) (as := [vI a1, vI 0, vI 2]) (st := []) (lv0 := [some (vI a1), some (vI 0), some (vI 2)]) dX8_answer_14 m_X8_within ul_2_130 ul_2_131 ⟨rfl, rfl⟩ rfl rfl rfl rfl rfl (c_X8_within w a1 0 2 h) ?_
    rintro _ hz ⟨_, rfl, rfl, hh⟩
    rw [hh]
    show Ev w Y_X8_answer 17 [some (vR 0), some (vI a1), some (vI a2), some (vI (cif (¬ a1 = 2) 0 (-1)))] [vI (b2i (0 ≤ a1 ∧ a1 ≤ 2))] h (rI K)
    have Ho := H.1
    have H := H.2
    have J1 : (((0 ≤ a1 ∧ a1 ≤ 2)) ∧ (((cif (¬ a1 = 2) 0 (-1)) ≤ a2 ∧ a2 ≤ ((h 3 6) - 1)))) → Ev w Y_X8_answer 39 [some (vR 0), some (vI a1), some (vI a2), some (vI (cif (¬ a1 = 2) 0 (-1)))] [] h (rI K) := by
      intro hp
      have H := H.1 hp
      refine e_aload_n (pc := 39) dX8_answer_39 rfl rfl ?_
      refine e_getR (q := 0) (ci := 8) (k := 3) (y := 4) (C := RX8) (T := TX8) (N := 9) (pc := 40) dX8_answer_40 rfl rfl ev_in8 rfl ul_2_101 ⟨rfl, rfl⟩ rfl ?_
      refine e_iload_n (pc := 43) dX8_answer_43 rfl rfl ?_
      refine e_iload_n (pc := 44) dX8_answer_44 rfl rfl ?_
      refine e_invV (pc := 45) (Y' := Y_X3_keepOnly) (as := [vI a1, vI a2]) (st := []) (lv0 := [some (vR 4), some (vI a1), some (vI a2), none, none]) (q := 4) (ci := 3) (T := TX3) (N := 16) dX8_answer_45 m_X3_keepOnly ul_3_173 ⟨ul_3_174, ul_3_175⟩ ⟨rfl, rfl⟩ rfl rfl rfl rfl rfl rfl rfl (c_X3_keepOnly w a1 a2 h _ H) ?_
      rintro _ h21 ⟨r21, rfl, H⟩
      show Ev w Y_X8_answer 48 [some (vR 0), some (vI a1), some (vI a2), some (vI (cif (¬ a1 = 2) 0 (-1)))] [vI r21] h21 (rI K)
      exact e_ret (pc := 48) (v := some (vI r21)) dX8_answer_48 rfl trivial ⟨_, rfl, H⟩
    have J2 : ¬ (((0 ≤ a1 ∧ a1 ≤ 2)) ∧ (((cif (¬ a1 = 2) 0 (-1)) ≤ a2 ∧ a2 ≤ ((h 3 6) - 1)))) → Ev w Y_X8_answer 37 [some (vR 0), some (vI a1), some (vI a2), some (vI (cif (¬ a1 = 2) 0 (-1)))] [] h (rI K) := by
      intro hp
      have H := H.2 hp
      refine e_iconst (pc := 37) dX8_answer_37 ⟨by decide, by decide⟩ ?_
      exact e_ret (pc := 38) (v := some (vI (-1))) dX8_answer_38 rfl trivial ⟨_, rfl, H⟩
    refine e_ifb_eq (pc := 17) (tgt := 37) dX8_answer_17 (by decide) (fun c1 => ?_) (fun c1 => ?_)
    · have Ho := Ho.1 c1
      exact J2 (fun z => c1 z.1)
    · have Ho := Ho.2 c1
      refine e_iload_n (pc := 20) dX8_answer_20 rfl rfl ?_
      refine e_iload_n (pc := 21) dX8_answer_21 rfl rfl ?_
      refine e_aload_n (pc := 22) dX8_answer_22 rfl rfl ?_
      refine e_getR (q := 0) (ci := 8) (k := 2) (y := 3) (C := RX8) (T := TX8) (N := 9) (pc := 23) dX8_answer_23 rfl rfl ev_in8 rfl ul_2_100 ⟨rfl, rfl⟩ rfl ?_
      refine e_getI (q := 3) (ci := 7) (k := 6) (kz := 6) (C := RX7) (T := TX7) (N := 8) (x := (h 3 6)) (pc := 26) dX8_answer_26 rfl rfl rfl ev_in7 rfl ul_1_125 ⟨rfl, by decide⟩ rfl ?_
      refine e_iconst (pc := 29) dX8_answer_29 ⟨by decide, by decide⟩ ?_
      refine e_isub (pc := 30) dX8_answer_30 Ho.1 ?_
      have Ho := Ho.2
      refine e_invS (pc := 31) (Y' := Y_X8_within) (as := [vI a2, vI (cif (¬ a1 = 2) 0 (-1)), vI ((h 3 6) - 1)]) (st := []) (lv0 := [some (vI a2), some (vI (cif (¬ a1 = 2) 0 (-1))), some (vI ((h 3 6) - 1))]) dX8_answer_31 m_X8_within ul_2_130 ul_2_131 ⟨rfl, rfl⟩ rfl rfl rfl rfl rfl (c_X8_within w a2 (cif (¬ a1 = 2) 0 (-1)) ((h 3 6) - 1) h) ?_
      rintro _ hz ⟨_, rfl, rfl, hh⟩
      rw [hh]
      show Ev w Y_X8_answer 34 [some (vR 0), some (vI a1), some (vI a2), some (vI (cif (¬ a1 = 2) 0 (-1)))] [vI (b2i ((cif (¬ a1 = 2) 0 (-1)) ≤ a2 ∧ a2 ≤ ((h 3 6) - 1)))] h (rI K)
      refine e_ifb_ne (pc := 34) (tgt := 39) dX8_answer_34 (by decide) (fun c2 => ?_) (fun c2 => ?_)
      · exact J1 ⟨c1, c2⟩
      · exact J2 (fun z => c2 z.2)
  refine e_icmp_ne (pc := 2) (tgt := 9) dX8_answer_2 (by decide) (fun c3 => ?_) (fun c3 => ?_)
  · refine e_iconst (pc := 9) dX8_answer_9 ⟨by decide, by decide⟩ ?_
    exact e_top (cif_t c3) J
  · refine e_iconst (pc := 5) dX8_answer_5 ⟨by decide, by decide⟩ ?_
    refine e_goto (pc := 6) (tgt := 10) dX8_answer_6 (by decide) ?_
    exact e_top (cif_f (fun z => z c3)) J
theorem c_X8_answer (w : WD) (a1 : Int) (a2 : Int) (h : HP) (K : Int → HP → Prop)  (H : S_X8_answer a1 a2 h K) : Ev w Y_X8_answer 0 [some (vR 0), some (vI a1), some (vI a2), none] [] h (rI K) := v_X8_answer w a1 a2 h K  H
