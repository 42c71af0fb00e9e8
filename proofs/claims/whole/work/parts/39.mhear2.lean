/-! the reference: heard, answered -/
def S_X9_reading (a1 : Int) (a2 : Int) (h : HP) (K : Int → HP → Prop) : Prop :=
  ((((a1 < 0) ∨ (¬ (0 ≤ a2 ∧ a2 ≤ 4))) → K (-1) h) ∧ (¬ ((a1 < 0) ∨ (¬ (0 ≤ a2 ∧ a2 ≤ 4))) → (((((h 55 20) = 0) ∨ (¬ a1 < (h 55 23))) → K (-4) h) ∧ (¬ (((h 55 20) = 0) ∨ (¬ a1 < (h 55 23))) → ((((¬ a2 = 0 → ((¬ a2 = 4 → ((iR (3 * a1)) ∧ ((iR ((3 * a1) + a2)) ∧ ((iR (((3 * a1) + a2) - 1)) ∧ ((0 ≤ (((3 * a1) + a2) - 1) ∧ (((3 * a1) + a2) - 1) < 36) ∧ ((0 ≤ (h 73 (((3 * a1) + a2) - 1)) → ((iR (3 * a1)) ∧ ((iR ((3 * a1) + a2)) ∧ ((iR (((3 * a1) + a2) - 1)) ∧ ((0 ≤ (((3 * a1) + a2) - 1) ∧ (((3 * a1) + a2) - 1) < 36) ∧ True))))) ∧ (¬ 0 ≤ (h 73 (((3 * a1) + a2) - 1)) → True))))))) ∧ (a2 = 4 → ((0 ≤ a1 ∧ a1 < 12) ∧ True)))) ∧ (a2 = 0 → ((0 ≤ a1 ∧ a1 < 12) ∧ True)))) ∧ K (cif (¬ a2 = 0) (cif (¬ a2 = 4) (cif (0 ≤ (h 73 (((3 * a1) + a2) - 1))) (h 73 (((3 * a1) + a2) - 1)) (-4)) (h 74 a1)) (h 72 a1)) h)))))
set_option maxRecDepth 100000 in
set_option maxHeartbeats 4000000 in
theorem v_X9_reading (w : WD) (a1 : Int) (a2 : Int) (h : HP) (K : Int → HP → Prop) 
    (H : ((((a1 < 0) ∨ (¬ (0 ≤ a2 ∧ a2 ≤ 4))) → K (-1) h) ∧ (¬ ((a1 < 0) ∨ (¬ (0 ≤ a2 ∧ a2 ≤ 4))) → (((((h 55 20) = 0) ∨ (¬ a1 < (h 55 23))) → K (-4) h) ∧ (¬ (((h 55 20) = 0) ∨ (¬ a1 < (h 55 23))) → ((((¬ a2 = 0 → ((¬ a2 = 4 → ((iR (3 * a1)) ∧ ((iR ((3 * a1) + a2)) ∧ ((iR (((3 * a1) + a2) - 1)) ∧ ((0 ≤ (((3 * a1) + a2) - 1) ∧ (((3 * a1) + a2) - 1) < 36) ∧ ((0 ≤ (h 73 (((3 * a1) + a2) - 1)) → ((iR (3 * a1)) ∧ ((iR ((3 * a1) + a2)) ∧ ((iR (((3 * a1) + a2) - 1)) ∧ ((0 ≤ (((3 * a1) + a2) - 1) ∧ (((3 * a1) + a2) - 1) < 36) ∧ True))))) ∧ (¬ 0 ≤ (h 73 (((3 * a1) + a2) - 1)) → True))))))) ∧ (a2 = 4 → ((0 ≤ a1 ∧ a1 < 12) ∧ True)))) ∧ (a2 = 0 → ((0 ≤ a1 ∧ a1 < 12) ∧ True)))) ∧ K (cif (¬ a2 = 0) (cif (¬ a2 = 4) (cif (0 ≤ (h 73 (((3 * a1) + a2) - 1))) (h 73 (((3 * a1) + a2) - 1)) (-4)) (h 74 a1)) (h 72 a1)) h)))))) :
    Ev w Y_X9_reading 0 [some (vR 55), some (vI a1), some (vI a2)] [] h (rI K) := by
  refine e_iload_n (pc := 0) dX9_reading_0 rfl rfl ?_
  have J1 : ((a1 < 0) ∨ (¬ (0 ≤ a2 ∧ a2 ≤ 4))) → Ev w Y_X9_reading 16 [some (vR 55), some (vI a1), some (vI a2)] [] h (rI K) := by
    intro hp
    have H := H.1 hp
    refine e_iconst (pc := 16) dX9_reading_16 ⟨by decide, by decide⟩ ?_
    exact e_ret (pc := 17) (v := some (vI (-1))) dX9_reading_17 rfl trivial ⟨_, rfl, H⟩
  have J2 : ¬ ((a1 < 0) ∨ (¬ (0 ≤ a2 ∧ a2 ≤ 4))) → Ev w Y_X9_reading 18 [some (vR 55), some (vI a1), some (vI a2)] [] h (rI K) := by
    intro hp
    have H := H.2 hp
    refine e_aload_n (pc := 18) dX9_reading_18 rfl rfl ?_
    refine e_getI (q := 55) (ci := 9) (k := 20) (kz := 20) (C := RX9) (T := TX9) (N := 52) (x := (h 55 20)) (pc := 19) dX9_reading_19 rfl rfl rfl ev_in9 rfl ul_4_202 ⟨rfl, by decide⟩ rfl ?_
    have J1 : (((h 55 20) = 0) ∨ (¬ a1 < (h 55 23))) → Ev w Y_X9_reading 33 [some (vR 55), some (vI a1), some (vI a2)] [] h (rI K) := by
      intro hp
      have H := H.1 hp
      refine e_bipush (pc := 33) dX9_reading_33 ⟨by decide, by decide⟩ (by decide) ?_
      exact e_ret (pc := 35) (v := some (vI (-4))) dX9_reading_35 rfl trivial ⟨_, rfl, H⟩
    have J2 : ¬ (((h 55 20) = 0) ∨ (¬ a1 < (h 55 23))) → Ev w Y_X9_reading 36 [some (vR 55), some (vI a1), some (vI a2)] [] h (rI K) := by
      intro hp
      have H := H.2 hp
      refine e_iload_n (pc := 36) dX9_reading_36 rfl rfl ?_
      have J : Ev w Y_X9_reading 95 [some (vR 55), some (vI a1), some (vI a2)] [vI (cif (¬ a2 = 0) (cif (¬ a2 = 4) (cif (0 ≤ (h 73 (((3 * a1) + a2) - 1))) (h 73 (((3 * a1) + a2) - 1)) (-4)) (h 74 a1)) (h 72 a1))] h (rI K) := by
        have H := H.2
        exact e_ret (pc := 95) (v := some (vI (cif (¬ a2 = 0) (cif (¬ a2 = 4) (cif (0 ≤ (h 73 (((3 * a1) + a2) - 1))) (h 73 (((3 * a1) + a2) - 1)) (-4)) (h 74 a1)) (h 72 a1)))) dX9_reading_95 rfl trivial ⟨_, rfl, H⟩
      have Ho := H.1
      refine e_if_ne (pc := 37) (tgt := 49) dX9_reading_37 (by decide) (fun c1 => ?_) (fun c1 => ?_)
      · have Ho := Ho.1 c1
        refine e_iload_n (pc := 49) dX9_reading_49 rfl rfl ?_
        refine e_iconst (pc := 50) dX9_reading_50 ⟨by decide, by decide⟩ ?_
        refine e_icmp_ne (pc := 51) (tgt := 63) dX9_reading_51 (by decide) (fun c2 => ?_) (fun c2 => ?_)
        · have Ho := Ho.1 c2
          refine e_aload_n (pc := 63) dX9_reading_63 rfl rfl ?_
          refine e_getR (q := 55) (ci := 9) (k := 25) (y := 73) (C := RX9) (T := TX9) (N := 52) (pc := 64) dX9_reading_64 rfl rfl ev_in9 rfl ul_4_207 ⟨rfl, rfl⟩ rfl ?_
          refine e_iconst (pc := 67) dX9_reading_67 ⟨by decide, by decide⟩ ?_
          refine e_iload_n (pc := 68) dX9_reading_68 rfl rfl ?_
          refine e_imul (pc := 69) dX9_reading_69 Ho.1 ?_
          have Ho := Ho.2
          refine e_iload_n (pc := 70) dX9_reading_70 rfl rfl ?_
          refine e_iadd (pc := 71) dX9_reading_71 Ho.1 ?_
          have Ho := Ho.2
          refine e_iconst (pc := 72) dX9_reading_72 ⟨by decide, by decide⟩ ?_
          refine e_isub (pc := 73) dX9_reading_73 Ho.1 ?_
          have Ho := Ho.2
          refine e_iald (q := 73) (x := (h 73 (((3 * a1) + a2) - 1))) (pc := 74) dX9_reading_74 rfl Ho.1 rfl ?_
          have Ho := Ho.2
          refine e_if_ge (pc := 75) (tgt := 83) dX9_reading_75 (by decide) (fun c3 => ?_) (fun c3 => ?_)
          · have Ho := Ho.1 c3
            refine e_aload_n (pc := 83) dX9_reading_83 rfl rfl ?_
            refine e_getR (q := 55) (ci := 9) (k := 25) (y := 73) (C := RX9) (T := TX9) (N := 52) (pc := 84) dX9_reading_84 rfl rfl ev_in9 rfl ul_4_207 ⟨rfl, rfl⟩ rfl ?_
            refine e_iconst (pc := 87) dX9_reading_87 ⟨by decide, by decide⟩ ?_
            refine e_iload_n (pc := 88) dX9_reading_88 rfl rfl ?_
            refine e_imul (pc := 89) dX9_reading_89 Ho.1 ?_
            have Ho := Ho.2
            refine e_iload_n (pc := 90) dX9_reading_90 rfl rfl ?_
            refine e_iadd (pc := 91) dX9_reading_91 Ho.1 ?_
            have Ho := Ho.2
            refine e_iconst (pc := 92) dX9_reading_92 ⟨by decide, by decide⟩ ?_
            refine e_isub (pc := 93) dX9_reading_93 Ho.1 ?_
            have Ho := Ho.2
            refine e_iald (q := 73) (x := (h 73 (((3 * a1) + a2) - 1))) (pc := 94) dX9_reading_94 rfl Ho.1 rfl ?_
            have Ho := Ho.2
            exact e_top ((cif_t c1).trans ((cif_t c2).trans (cif_t c3))) J
          · have Ho := Ho.2 c3
            refine e_bipush (pc := 78) dX9_reading_78 ⟨by decide, by decide⟩ (by decide) ?_
            refine e_goto (pc := 80) (tgt := 95) dX9_reading_80 (by decide) ?_
            exact e_top ((cif_t c1).trans ((cif_t c2).trans (cif_f c3))) J
        · have Ho := Ho.2 c2
          refine e_aload_n (pc := 54) dX9_reading_54 rfl rfl ?_
          refine e_getR (q := 55) (ci := 9) (k := 26) (y := 74) (C := RX9) (T := TX9) (N := 52) (pc := 55) dX9_reading_55 rfl rfl ev_in9 rfl ul_4_208 ⟨rfl, rfl⟩ rfl ?_
          refine e_iload_n (pc := 58) dX9_reading_58 rfl rfl ?_
          refine e_iald (q := 74) (x := (h 74 a1)) (pc := 59) dX9_reading_59 rfl Ho.1 rfl ?_
          have Ho := Ho.2
          refine e_goto (pc := 60) (tgt := 95) dX9_reading_60 (by decide) ?_
          exact e_top ((cif_t c1).trans (cif_f (fun z => z c2))) J
      · have Ho := Ho.2 c1
        refine e_aload_n (pc := 40) dX9_reading_40 rfl rfl ?_
        refine e_getR (q := 55) (ci := 9) (k := 24) (y := 72) (C := RX9) (T := TX9) (N := 52) (pc := 41) dX9_reading_41 rfl rfl ev_in9 rfl ul_4_206 ⟨rfl, rfl⟩ rfl ?_
        refine e_iload_n (pc := 44) dX9_reading_44 rfl rfl ?_
        refine e_iald (q := 72) (x := (h 72 a1)) (pc := 45) dX9_reading_45 rfl Ho.1 rfl ?_
        have Ho := Ho.2
        refine e_goto (pc := 46) (tgt := 95) dX9_reading_46 (by decide) ?_
        exact e_top (cif_f (fun z => z c1)) J
    refine e_if_eq (pc := 22) (tgt := 33) dX9_reading_22 (by decide) (fun c4 => ?_) (fun c4 => ?_)
    · exact J1 (Or.inl c4)
    · refine e_iload_n (pc := 25) dX9_reading_25 rfl rfl ?_
      refine e_aload_n (pc := 26) dX9_reading_26 rfl rfl ?_
      refine e_getI (q := 55) (ci := 9) (k := 23) (kz := 23) (C := RX9) (T := TX9) (N := 52) (x := (h 55 23)) (pc := 27) dX9_reading_27 rfl rfl rfl ev_in9 rfl ul_4_205 ⟨rfl, by decide⟩ rfl ?_
      refine e_icmp_lt (pc := 30) (tgt := 36) dX9_reading_30 (by decide) (fun c5 => ?_) (fun c5 => ?_)
      · exact J2 (fun z => z.elim c4 (fun z => z c5))
      · exact J1 (Or.inr c5)
  refine e_if_lt (pc := 1) (tgt := 16) dX9_reading_1 (by decide) (fun c6 => ?_) (fun c6 => ?_)
  · exact J1 (Or.inl c6)
  · refine e_iload_n (pc := 4) dX9_reading_4 rfl rfl ?_
    refine e_i2l (pc := 5) dX9_reading_5 ?_
    refine e_lconst (x := 0) (pc := 6) dX9_reading_6 ⟨by decide, by decide⟩ (by decide) ?_
    refine e_ldc2 (x := 4) (pc := 7) dX9_reading_7 ul_5_103 ⟨by decide, by decide⟩ ?_
    refine e_invS (pc := 10) (Y' := Y_X9_in) (as := [vL a2, vL 0, vL 4]) (st := []) (lv0 := [some (vL a2), none, some (vL 0), none, some (vL 4), none]) dX9_reading_10 m_X9_in ul_5_104 ul_5_105 ⟨rfl, rfl⟩ rfl rfl rfl rfl rfl (c_X9_in w a2 0 4 h) ?_
    rintro _ hz ⟨_, rfl, rfl, hh⟩
    rw [hh]
    show Ev w Y_X9_reading 13 [some (vR 55), some (vI a1), some (vI a2)] [vI (b2i (0 ≤ a2 ∧ a2 ≤ 4))] h (rI K)
    refine e_ifb_ne (pc := 13) (tgt := 18) dX9_reading_13 (by decide) (fun c7 => ?_) (fun c7 => ?_)
    · exact J2 (fun z => z.elim c6 (fun z => z c7))
    · exact J1 (Or.inr c7)
theorem c_X9_reading (w : WD) (a1 : Int) (a2 : Int) (h : HP) (K : Int → HP → Prop)  (H : S_X9_reading a1 a2 h K) : Ev w Y_X9_reading 0 [some (vR 55), some (vI a1), some (vI a2)] [] h (rI K) := v_X9_reading w a1 a2 h K  H
def S_X9_open  (h : HP) (K : Int → HP → Prop) : Prop :=
  (((((h 55 20) = 0 → True) ∧ (¬ (h 55 20) = 0 → ((mHOK h ∧ mVOK h ∧ mEOK h) ∧ True)))) ∧ K (cif ((h 55 20) = 0) (-2) (unM h)) h)
set_option maxRecDepth 100000 in
set_option maxHeartbeats 4000000 in
theorem v_X9_open (w : WD)  (h : HP) (K : Int → HP → Prop) 
    (H : (((((h 55 20) = 0 → True) ∧ (¬ (h 55 20) = 0 → ((mHOK h ∧ mVOK h ∧ mEOK h) ∧ True)))) ∧ K (cif ((h 55 20) = 0) (-2) (unM h)) h)) :
    Ev w Y_X9_open 0 [some (vR 55)] [] h (rI K) := by
  refine e_aload_n (pc := 0) dX9_open_0 rfl rfl ?_
  refine e_getI (q := 55) (ci := 9) (k := 20) (kz := 20) (C := RX9) (T := TX9) (N := 52) (x := (h 55 20)) (pc := 1) dX9_open_1 rfl rfl rfl ev_in9 rfl ul_4_202 ⟨rfl, by decide⟩ rfl ?_
  have J : Ev w Y_X9_open 16 [some (vR 55)] [vI (cif ((h 55 20) = 0) (-2) (unM h))] h (rI K) := by
    have H := H.2
    exact e_ret (pc := 16) (v := some (vI (cif ((h 55 20) = 0) (-2) (unM h)))) dX9_open_16 rfl trivial ⟨_, rfl, H⟩
  have Ho := H.1
  refine e_if_eq (pc := 4) (tgt := 14) dX9_open_4 (by decide) (fun c1 => ?_) (fun c1 => ?_)
  · have Ho := Ho.1 c1
    refine e_bipush (pc := 14) dX9_open_14 ⟨by decide, by decide⟩ (by decide) ?_
    exact e_top (cif_t c1) J
  · have Ho := Ho.2 c1
    refine e_aload_n (pc := 7) dX9_open_7 rfl rfl ?_
    refine e_invV (pc := 8) (Y' := Y_X9_unlikeMany) (as := []) (st := []) (lv0 := [some (vR 55), none, none, none, none]) (q := 55) (ci := 9) (T := TX9) (N := 52) dX9_open_8 m_X9_unlikeMany ul_5_235 ⟨ul_5_237, us_X9_unlikeMany⟩ ⟨rfl, rfl⟩ rfl rfl rfl rfl rfl rfl rfl (c_X9_unlikeMany w h Ho.1) ?_
    rintro _ hz ⟨_, rfl, rfl, hh⟩
    rw [hh]
    show Ev w Y_X9_open 11 [some (vR 55)] [vI (unM h)] h (rI K)
    have Ho := Ho.2
    refine e_goto (pc := 11) (tgt := 16) dX9_open_11 (by decide) ?_
    exact e_top (cif_f c1) J
theorem c_X9_open (w : WD)  (h : HP) (K : Int → HP → Prop)  (H : S_X9_open  h K) : Ev w Y_X9_open 0 [some (vR 55)] [] h (rI K) := v_X9_open w  h K  H
def okA (h : HP) (pt wd : Int) : Prop := (0 ≤ pt ∧ pt ≤ 2) ∧ ((pt = 2 ∧ wd = -1) ∨ 0 ≤ wd) ∧ wd < h 55 10
noncomputable def opM (h : HP) (pt c : Int) : Int := cnt (fun i => h 75 i = 1 ∧ h 73 (3 * i + pt) = c) (h 55 23).toNat
def S_X9_answer (pt wd : Int) (h : HP) (K : Int → HP → Prop) : Prop := (mEOK h ∧ (0 ≤ h 55 10 ∧ h 55 10 ≤ 16)) ∧ (¬ okA h pt wd → K (-1) h) ∧ (okA h pt wd → ((h 55 20 = 0 ∨ opM h pt (nc wd) = 0) → K (-2) h) ∧ (¬ (h 55 20 = 0 ∨ opM h pt (nc wd) = 0) → ∀ h' : HP, (∀ q, q ≠ 75 → h' q = h q) → (∀ i : Int, 0 ≤ i → i < h 55 23 → h' 75 i = b2i (h 75 i = 1 ∧ h 73 (3 * i + pt) = nc wd)) → (∀ i : Int, i < 0 ∨ h 55 23 ≤ i → h' 75 i = h 75 i) → K (opM h pt (nc wd)) h'))
theorem nc_cif {c : Int} : cif (0 ≤ c) c (-4) = nc c := by
  unfold nc
  by_cases e : c < 0
  · rw [cif_f (by omega), if_pos e]
  · rw [cif_t (by omega), if_neg e]
set_option maxRecDepth 100000 in
set_option maxHeartbeats 4000000 in
theorem v_X9_answer (w : WD) (pt : Int) (wd : Int) (h : HP) (K : Int → HP → Prop) 
    (I1 : Nat → Int → Int → Int → HP → Prop)
    (I2 : Nat → Int → Int → Int → HP → Prop)
    (H : ((¬ (0 ≤ pt ∧ pt ≤ 2) → K (-1) h) ∧ ((0 ≤ pt ∧ pt ≤ 2) → ((¬ pt = 2 → ((iR ((h 55 10) - 1)) ∧ (((0 ≤ wd ∧ wd ≤ ((h 55 10) - 1)) → (∃ m : Nat, I1 m (cif (0 ≤ wd) wd (-4)) 0 0 h)) ∧ (¬ (0 ≤ wd ∧ wd ≤ ((h 55 10) - 1)) → K (-1) h)))) ∧ (pt = 2 → ((iR ((h 55 10) - 1)) ∧ ((((-1) ≤ wd ∧ wd ≤ ((h 55 10) - 1)) → (∃ m : Nat, I1 m (cif (0 ≤ wd) wd (-4)) 0 0 h)) ∧ (¬ ((-1) ≤ wd ∧ wd ≤ ((h 55 10) - 1)) → K (-1) h))))))))
    (H1 : ∀ (n1 : Nat) (x3 : Int) (x4 : Int) (x5 : Int) (g1 : HP), I1 n1 x3 x4 x5 g1 → (((((g1 55 23) ≤ x5) ∨ ((g1 55 20) = 0)) → ((¬ x4 = 0 → (∃ m : Nat, I2 m x3 x4 0 g1)) ∧ (x4 = 0 → K (-2) g1))) ∧ (¬ (((g1 55 23) ≤ x5) ∨ ((g1 55 20) = 0)) → ((0 ≤ x5 ∧ x5 < 12) ∧ (((((g1 75 x5) = 0 → True) ∧ (¬ (g1 75 x5) = 0 → ((iR (3 * x5)) ∧ ((iR ((3 * x5) + pt)) ∧ ((0 ≤ ((3 * x5) + pt) ∧ ((3 * x5) + pt) < 36) ∧ True)))))) ∧ ((iR (x4 + (b2i ((¬ (g1 75 x5) = 0) ∧ ((g1 73 ((3 * x5) + pt)) = x3))))) ∧ ((iR (x5 + 1)) ∧ (∃ m : Nat, m < n1 ∧ I1 m x3 (x4 + (b2i ((¬ (g1 75 x5) = 0) ∧ ((g1 73 ((3 * x5) + pt)) = x3)))) (x5 + 1) g1))))))))
    (H2 : ∀ (n2 : Nat) (x3 : Int) (x4 : Int) (x5 : Int) (g2 : HP), I2 n2 x3 x4 x5 g2 → (((g2 55 23) ≤ x5 → K x4 g2) ∧ (¬ (g2 55 23) ≤ x5 → ((0 ≤ x5 ∧ x5 < 12) ∧ (((((g2 75 x5) = 0 → True) ∧ (¬ (g2 75 x5) = 0 → ((iR (3 * x5)) ∧ ((iR ((3 * x5) + pt)) ∧ ((0 ≤ ((3 * x5) + pt) ∧ ((3 * x5) + pt) < 36) ∧ True)))))) ∧ ((0 ≤ x5 ∧ x5 < 12) ∧ ((iR (x5 + 1)) ∧ (∃ m : Nat, m < n2 ∧ I2 m x3 x4 (x5 + 1) (sth g2 75 x5 (b2i ((¬ (g2 75 x5) = 0) ∧ ((g2 73 ((3 * x5) + pt)) = x3)))))))))))) :
    Ev w Y_X9_answer 0 [some (vR 55), some (vI pt), some (vI wd), none, none, none] [] h (rI K) := by
  have L2 : ∀ (n2 : Nat) (x3 : Int) (x4 : Int) (x5 : Int) (g2 : HP), I2 n2 x3 x4 x5 g2 → Ev w Y_X9_answer 126 [some (vR 55), some (vI pt), none, some (vI x3), some (vI x4), some (vI x5)] [] g2 (rI K) := by
    intro n2
    induction n2 using Nat.strongRecOn with
    | ind n2 ih2 =>
      intro x3 x4 x5 g2 H
      have H := H2 n2 x3 x4 x5 g2 H
      refine e_iload (pc := 126) dX9_answer_126 rfl ?_
      refine e_aload_n (pc := 128) dX9_answer_128 rfl rfl ?_
      refine e_getI (q := 55) (ci := 9) (k := 23) (kz := 23) (C := RX9) (T := TX9) (N := 52) (x := (g2 55 23)) (pc := 129) dX9_answer_129 rfl rfl rfl ev_in9 rfl ul_4_205 ⟨rfl, by decide⟩ rfl ?_
      refine e_icmp_ge (pc := 132) (tgt := 178) dX9_answer_132 (by decide) (fun c7 => ?_) (fun c7 => ?_)
      · have H := H.1 c7
        refine e_iload (pc := 178) dX9_answer_178 rfl ?_
        exact e_ret (pc := 180) (v := some (vI x4)) dX9_answer_180 rfl trivial ⟨_, rfl, H⟩
      · have H := H.2 c7
        refine e_aload_n (pc := 135) dX9_answer_135 rfl rfl ?_
        refine e_getR (q := 55) (ci := 9) (k := 27) (y := 75) (C := RX9) (T := TX9) (N := 52) (pc := 136) dX9_answer_136 rfl rfl ev_in9 rfl ul_4_209 ⟨rfl, rfl⟩ rfl ?_
        refine e_iload (pc := 139) dX9_answer_139 rfl ?_
        refine e_aload_n (pc := 141) dX9_answer_141 rfl rfl ?_
        refine e_getR (q := 55) (ci := 9) (k := 27) (y := 75) (C := RX9) (T := TX9) (N := 52) (pc := 142) dX9_answer_142 rfl rfl ev_in9 rfl ul_4_209 ⟨rfl, rfl⟩ rfl ?_
        refine e_iload (pc := 145) dX9_answer_145 rfl ?_
        refine e_zald (q := 75) (x := (g2 75 x5)) (pc := 147) dX9_answer_147 rfl H.1 rfl ?_
        have H := H.2
        have J : Ev w Y_X9_answer 171 [some (vR 55), some (vI pt), none, some (vI x3), some (vI x4), some (vI x5)] [vI (b2i ((¬ (g2 75 x5) = 0) ∧ ((g2 73 ((3 * x5) + pt)) = x3))), vI x5, vR 75] g2 (rI K) := by
          have H := H.2
          refine e_zast (q := 75) (pc := 171) dX9_answer_171 rfl H.1 (b2i_01 _) ?_
          have H := H.2
          refine e_iinc (lv' := [some (vR 55), some (vI pt), none, some (vI x3), some (vI x4), some (vI (x5 + 1))]) (pc := 172) dX9_answer_172 rfl H.1 rfl rfl ?_
          have H := H.2
          refine e_goto (pc := 175) (tgt := 126) dX9_answer_175 (by decide) ?_
          obtain ⟨m, hm, H⟩ := H
          exact ih2 m hm _ _ _ _ H
        have Ho := H.1
        refine e_if_eq (pc := 148) (tgt := 170) dX9_answer_148 (by decide) (fun c8 => ?_) (fun c8 => ?_)
        · have Ho := Ho.1 c8
          refine e_iconst (pc := 170) dX9_answer_170 ⟨by decide, by decide⟩ ?_
          exact e_top (b2i_f (fun z => (fun z => z c8) z.1)) J
        · have Ho := Ho.2 c8
          refine e_aload_n (pc := 151) dX9_answer_151 rfl rfl ?_
          refine e_getR (q := 55) (ci := 9) (k := 25) (y := 73) (C := RX9) (T := TX9) (N := 52) (pc := 152) dX9_answer_152 rfl rfl ev_in9 rfl ul_4_207 ⟨rfl, rfl⟩ rfl ?_
          refine e_iconst (pc := 155) dX9_answer_155 ⟨by decide, by decide⟩ ?_
          refine e_iload (pc := 156) dX9_answer_156 rfl ?_
          refine e_imul (pc := 158) dX9_answer_158 Ho.1 ?_
          have Ho := Ho.2
          refine e_iload_n (pc := 159) dX9_answer_159 rfl rfl ?_
          refine e_iadd (pc := 160) dX9_answer_160 Ho.1 ?_
          have Ho := Ho.2
          refine e_iald (q := 73) (x := (g2 73 ((3 * x5) + pt))) (pc := 161) dX9_answer_161 rfl Ho.1 rfl ?_
          have Ho := Ho.2
          refine e_iload_n (pc := 162) dX9_answer_162 rfl rfl ?_
          refine e_icmp_ne (pc := 163) (tgt := 170) dX9_answer_163 (by decide) (fun c9 => ?_) (fun c9 => ?_)
          · refine e_iconst (pc := 170) dX9_answer_170 ⟨by decide, by decide⟩ ?_
            exact e_top (b2i_f (fun z => c9 z.2)) J
          · refine e_iconst (pc := 166) dX9_answer_166 ⟨by decide, by decide⟩ ?_
            refine e_goto (pc := 167) (tgt := 171) dX9_answer_167 (by decide) ?_
            exact e_top (b2i_t ⟨c8, c9⟩) J
  have L1 : ∀ (n1 : Nat) (x3 : Int) (x4 : Int) (x5 : Int) (g1 : HP), I1 n1 x3 x4 x5 g1 → Ev w Y_X9_answer 58 [some (vR 55), some (vI pt), none, some (vI x3), some (vI x4), some (vI x5)] [] g1 (rI K) := by
    intro n1
    induction n1 using Nat.strongRecOn with
    | ind n1 ih1 =>
      intro x3 x4 x5 g1 H
      have H := H1 n1 x3 x4 x5 g1 H
      refine e_iload (pc := 58) dX9_answer_58 rfl ?_
      refine e_aload_n (pc := 60) dX9_answer_60 rfl rfl ?_
      refine e_getI (q := 55) (ci := 9) (k := 23) (kz := 23) (C := RX9) (T := TX9) (N := 52) (x := (g1 55 23)) (pc := 61) dX9_answer_61 rfl rfl rfl ev_in9 rfl ul_4_205 ⟨rfl, by decide⟩ rfl ?_
      have J1 : (((g1 55 23) ≤ x5) ∨ ((g1 55 20) = 0)) → Ev w Y_X9_answer 115 [some (vR 55), some (vI pt), none, some (vI x3), some (vI x4), some (vI x5)] [] g1 (rI K) := by
        intro hp
        have H := H.1 hp
        refine e_iload (pc := 115) dX9_answer_115 rfl ?_
        refine e_if_ne (pc := 117) (tgt := 123) dX9_answer_117 (by decide) (fun c10 => ?_) (fun c10 => ?_)
        · have H := H.1 c10
          refine e_iconst (pc := 123) dX9_answer_123 ⟨by decide, by decide⟩ ?_
          refine e_istore (lv' := [some (vR 55), some (vI pt), none, some (vI x3), some (vI x4), some (vI 0)]) (pc := 124) dX9_answer_124 rfl rfl ?_
          obtain ⟨m, H⟩ := H
          exact L2 m _ _ _ _ H
        · have H := H.2 c10
          refine e_bipush (pc := 120) dX9_answer_120 ⟨by decide, by decide⟩ (by decide) ?_
          exact e_ret (pc := 122) (v := some (vI (-2))) dX9_answer_122 rfl trivial ⟨_, rfl, H⟩
      have J2 : ¬ (((g1 55 23) ≤ x5) ∨ ((g1 55 20) = 0)) → Ev w Y_X9_answer 74 [some (vR 55), some (vI pt), none, some (vI x3), some (vI x4), some (vI x5)] [] g1 (rI K) := by
        intro hp
        have H := H.2 hp
        refine e_iload (pc := 74) dX9_answer_74 rfl ?_
        refine e_aload_n (pc := 76) dX9_answer_76 rfl rfl ?_
        refine e_getR (q := 55) (ci := 9) (k := 27) (y := 75) (C := RX9) (T := TX9) (N := 52) (pc := 77) dX9_answer_77 rfl rfl ev_in9 rfl ul_4_209 ⟨rfl, rfl⟩ rfl ?_
        refine e_iload (pc := 80) dX9_answer_80 rfl ?_
        refine e_zald (q := 75) (x := (g1 75 x5)) (pc := 82) dX9_answer_82 rfl H.1 rfl ?_
        have H := H.2
        have J : Ev w Y_X9_answer 106 [some (vR 55), some (vI pt), none, some (vI x3), some (vI x4), some (vI x5)] [vI (b2i ((¬ (g1 75 x5) = 0) ∧ ((g1 73 ((3 * x5) + pt)) = x3))), vI x4] g1 (rI K) := by
          have H := H.2
          refine e_iadd (pc := 106) dX9_answer_106 H.1 ?_
          have H := H.2
          refine e_istore (lv' := [some (vR 55), some (vI pt), none, some (vI x3), some (vI (x4 + (b2i ((¬ (g1 75 x5) = 0) ∧ ((g1 73 ((3 * x5) + pt)) = x3))))), some (vI x5)]) (pc := 107) dX9_answer_107 rfl rfl ?_
          refine e_iinc (lv' := [some (vR 55), some (vI pt), none, some (vI x3), some (vI (x4 + (b2i ((¬ (g1 75 x5) = 0) ∧ ((g1 73 ((3 * x5) + pt)) = x3))))), some (vI (x5 + 1))]) (pc := 109) dX9_answer_109 rfl H.1 rfl rfl ?_
          have H := H.2
          refine e_goto (pc := 112) (tgt := 58) dX9_answer_112 (by decide) ?_
          obtain ⟨m, hm, H⟩ := H
          exact ih1 m hm _ _ _ _ H
        have Ho := H.1
        refine e_if_eq (pc := 83) (tgt := 105) dX9_answer_83 (by decide) (fun c11 => ?_) (fun c11 => ?_)
        · have Ho := Ho.1 c11
          refine e_iconst (pc := 105) dX9_answer_105 ⟨by decide, by decide⟩ ?_
          exact e_top (b2i_f (fun z => (fun z => z c11) z.1)) J
        · have Ho := Ho.2 c11
          refine e_aload_n (pc := 86) dX9_answer_86 rfl rfl ?_
          refine e_getR (q := 55) (ci := 9) (k := 25) (y := 73) (C := RX9) (T := TX9) (N := 52) (pc := 87) dX9_answer_87 rfl rfl ev_in9 rfl ul_4_207 ⟨rfl, rfl⟩ rfl ?_
          refine e_iconst (pc := 90) dX9_answer_90 ⟨by decide, by decide⟩ ?_
          refine e_iload (pc := 91) dX9_answer_91 rfl ?_
          refine e_imul (pc := 93) dX9_answer_93 Ho.1 ?_
          have Ho := Ho.2
          refine e_iload_n (pc := 94) dX9_answer_94 rfl rfl ?_
          refine e_iadd (pc := 95) dX9_answer_95 Ho.1 ?_
          have Ho := Ho.2
          refine e_iald (q := 73) (x := (g1 73 ((3 * x5) + pt))) (pc := 96) dX9_answer_96 rfl Ho.1 rfl ?_
          have Ho := Ho.2
          refine e_iload_n (pc := 97) dX9_answer_97 rfl rfl ?_
          refine e_icmp_ne (pc := 98) (tgt := 105) dX9_answer_98 (by decide) (fun c12 => ?_) (fun c12 => ?_)
          · refine e_iconst (pc := 105) dX9_answer_105 ⟨by decide, by decide⟩ ?_
            exact e_top (b2i_f (fun z => c12 z.2)) J
          · refine e_iconst (pc := 101) dX9_answer_101 ⟨by decide, by decide⟩ ?_
            refine e_goto (pc := 102) (tgt := 106) dX9_answer_102 (by decide) ?_
            exact e_top (b2i_t ⟨c11, c12⟩) J
      refine e_icmp_ge (pc := 64) (tgt := 115) dX9_answer_64 (by decide) (fun c13 => ?_) (fun c13 => ?_)
      · exact J1 (Or.inl c13)
      · refine e_aload_n (pc := 67) dX9_answer_67 rfl rfl ?_
        refine e_getI (q := 55) (ci := 9) (k := 20) (kz := 20) (C := RX9) (T := TX9) (N := 52) (x := (g1 55 20)) (pc := 68) dX9_answer_68 rfl rfl rfl ev_in9 rfl ul_4_202 ⟨rfl, by decide⟩ rfl ?_
        refine e_if_eq (pc := 71) (tgt := 115) dX9_answer_71 (by decide) (fun c14 => ?_) (fun c14 => ?_)
        · exact J1 (Or.inr c14)
        · exact J2 (fun z => z.elim c13 c14)
  refine e_iload_n (pc := 0) dX9_answer_0 rfl rfl ?_
  refine e_i2l (pc := 1) dX9_answer_1 ?_
  refine e_lconst (x := 0) (pc := 2) dX9_answer_2 ⟨by decide, by decide⟩ (by decide) ?_
  refine e_ldc2 (x := 2) (pc := 3) dX9_answer_3 ul_5_137 ⟨by decide, by decide⟩ ?_
  refine e_invS (pc := 6) (Y' := Y_X9_in) (as := [vL pt, vL 0, vL 2]) (st := []) (lv0 := [some (vL pt), none, some (vL 0), none, some (vL 2), none]) dX9_answer_6 m_X9_in ul_5_104 ul_5_105 ⟨rfl, rfl⟩ rfl rfl rfl rfl rfl (c_X9_in w pt 0 2 h) ?_
  rintro _ hz ⟨_, rfl, rfl, hh⟩
  rw [hh]
  show Ev w Y_X9_answer 9 [some (vR 55), some (vI pt), some (vI wd), none, none, none] [vI (b2i (0 ≤ pt ∧ pt ≤ 2))] h (rI K)
  refine e_ifb_eq (pc := 9) (tgt := 39) dX9_answer_9 (by decide) (fun c1 => ?_) (fun c1 => ?_)
  · have H := H.1 c1
    refine e_iconst (pc := 39) dX9_answer_39 ⟨by decide, by decide⟩ ?_
    exact e_ret (pc := 40) (v := some (vI (-1))) dX9_answer_40 rfl trivial ⟨_, rfl, H⟩
  · have H := H.2 c1
    refine e_iload_n (pc := 12) dX9_answer_12 rfl rfl ?_
    refine e_i2l (pc := 13) dX9_answer_13 ?_
    refine e_iload_n (pc := 14) dX9_answer_14 rfl rfl ?_
    refine e_iconst (pc := 15) dX9_answer_15 ⟨by decide, by decide⟩ ?_
    refine e_icmp_ne (pc := 16) (tgt := 25) dX9_answer_16 (by decide) (fun c2 => ?_) (fun c2 => ?_)
    · have H := H.1 c2
      refine e_lconst (x := 0) (pc := 25) dX9_answer_25 ⟨by decide, by decide⟩ (by decide) ?_
      refine e_aload_n (pc := 26) dX9_answer_26 rfl rfl ?_
      refine e_getI (q := 55) (ci := 9) (k := 10) (kz := 10) (C := RX9) (T := TX9) (N := 52) (x := (h 55 10)) (pc := 27) dX9_answer_27 rfl rfl rfl ev_in9 rfl ul_4_192 ⟨rfl, by decide⟩ rfl ?_
      refine e_iconst (pc := 30) dX9_answer_30 ⟨by decide, by decide⟩ ?_
      refine e_isub (pc := 31) dX9_answer_31 H.1 ?_
      have H := H.2
      refine e_i2l (pc := 32) dX9_answer_32 ?_
      refine e_invS (pc := 33) (Y' := Y_X9_in) (as := [vL wd, vL 0, vL ((h 55 10) - 1)]) (st := []) (lv0 := [some (vL wd), none, some (vL 0), none, some (vL ((h 55 10) - 1)), none]) dX9_answer_33 m_X9_in ul_5_104 ul_5_105 ⟨rfl, rfl⟩ rfl rfl rfl rfl rfl (c_X9_in w wd 0 ((h 55 10) - 1) h) ?_
      rintro _ hz ⟨_, rfl, rfl, hh⟩
      rw [hh]
      show Ev w Y_X9_answer 36 [some (vR 55), some (vI pt), some (vI wd), none, none, none] [vI (b2i (0 ≤ wd ∧ wd ≤ ((h 55 10) - 1)))] h (rI K)
      refine e_ifb_ne (pc := 36) (tgt := 41) dX9_answer_36 (by decide) (fun c3 => ?_) (fun c3 => ?_)
      · have H := H.1 c3
        refine e_iload_n (pc := 41) dX9_answer_41 rfl rfl ?_
        have J : Ev w Y_X9_answer 51 [some (vR 55), some (vI pt), some (vI wd), none, none, none] [vI (cif (0 ≤ wd) wd (-4))] h (rI K) := by
          refine e_istore_n (lv' := [some (vR 55), some (vI pt), some (vI wd), some (vI (cif (0 ≤ wd) wd (-4))), none, none]) (pc := 51) dX9_answer_51 rfl rfl rfl ?_
          refine e_iconst (pc := 52) dX9_answer_52 ⟨by decide, by decide⟩ ?_
          refine e_istore (lv' := [some (vR 55), some (vI pt), some (vI wd), some (vI (cif (0 ≤ wd) wd (-4))), some (vI 0), none]) (pc := 53) dX9_answer_53 rfl rfl ?_
          refine e_iconst (pc := 55) dX9_answer_55 ⟨by decide, by decide⟩ ?_
          refine e_istore (lv' := [some (vR 55), some (vI pt), some (vI wd), some (vI (cif (0 ≤ wd) wd (-4))), some (vI 0), some (vI 0)]) (pc := 56) dX9_answer_56 rfl rfl ?_
          refine e_mask [true, true, false, true, true, true] rfl ?_
          obtain ⟨m, H⟩ := H
          exact L1 m _ _ _ _ H
        refine e_if_ge (pc := 42) (tgt := 50) dX9_answer_42 (by decide) (fun c4 => ?_) (fun c4 => ?_)
        · refine e_iload_n (pc := 50) dX9_answer_50 rfl rfl ?_
          exact e_top (cif_t c4) J
        · refine e_bipush (pc := 45) dX9_answer_45 ⟨by decide, by decide⟩ (by decide) ?_
          refine e_goto (pc := 47) (tgt := 51) dX9_answer_47 (by decide) ?_
          exact e_top (cif_f c4) J
      · have H := H.2 c3
        refine e_iconst (pc := 39) dX9_answer_39 ⟨by decide, by decide⟩ ?_
        exact e_ret (pc := 40) (v := some (vI (-1))) dX9_answer_40 rfl trivial ⟨_, rfl, H⟩
    · have H := H.2 c2
      refine e_ldc2 (x := (-1)) (pc := 19) dX9_answer_19 ul_5_114 ⟨by decide, by decide⟩ ?_
      refine e_goto (pc := 22) (tgt := 26) dX9_answer_22 (by decide) ?_
      refine e_aload_n (pc := 26) dX9_answer_26 rfl rfl ?_
      refine e_getI (q := 55) (ci := 9) (k := 10) (kz := 10) (C := RX9) (T := TX9) (N := 52) (x := (h 55 10)) (pc := 27) dX9_answer_27 rfl rfl rfl ev_in9 rfl ul_4_192 ⟨rfl, by decide⟩ rfl ?_
      refine e_iconst (pc := 30) dX9_answer_30 ⟨by decide, by decide⟩ ?_
      refine e_isub (pc := 31) dX9_answer_31 H.1 ?_
      have H := H.2
      refine e_i2l (pc := 32) dX9_answer_32 ?_
      refine e_invS (pc := 33) (Y' := Y_X9_in) (as := [vL wd, vL (-1), vL ((h 55 10) - 1)]) (st := []) (lv0 := [some (vL wd), none, some (vL (-1)), none, some (vL ((h 55 10) - 1)), none]) dX9_answer_33 m_X9_in ul_5_104 ul_5_105 ⟨rfl, rfl⟩ rfl rfl rfl rfl rfl (c_X9_in w wd (-1) ((h 55 10) - 1) h) ?_
      rintro _ hz ⟨_, rfl, rfl, hh⟩
      rw [hh]
      show Ev w Y_X9_answer 36 [some (vR 55), some (vI pt), some (vI wd), none, none, none] [vI (b2i ((-1) ≤ wd ∧ wd ≤ ((h 55 10) - 1)))] h (rI K)
      refine e_ifb_ne (pc := 36) (tgt := 41) dX9_answer_36 (by decide) (fun c5 => ?_) (fun c5 => ?_)
      · have H := H.1 c5
        refine e_iload_n (pc := 41) dX9_answer_41 rfl rfl ?_
        have J : Ev w Y_X9_answer 51 [some (vR 55), some (vI pt), some (vI wd), none, none, none] [vI (cif (0 ≤ wd) wd (-4))] h (rI K) := by
          refine e_istore_n (lv' := [some (vR 55), some (vI pt), some (vI wd), some (vI (cif (0 ≤ wd) wd (-4))), none, none]) (pc := 51) dX9_answer_51 rfl rfl rfl ?_
          refine e_iconst (pc := 52) dX9_answer_52 ⟨by decide, by decide⟩ ?_
          refine e_istore (lv' := [some (vR 55), some (vI pt), some (vI wd), some (vI (cif (0 ≤ wd) wd (-4))), some (vI 0), none]) (pc := 53) dX9_answer_53 rfl rfl ?_
          refine e_iconst (pc := 55) dX9_answer_55 ⟨by decide, by decide⟩ ?_
          refine e_istore (lv' := [some (vR 55), some (vI pt), some (vI wd), some (vI (cif (0 ≤ wd) wd (-4))), some (vI 0), some (vI 0)]) (pc := 56) dX9_answer_56 rfl rfl ?_
          refine e_mask [true, true, false, true, true, true] rfl ?_
          obtain ⟨m, H⟩ := H
          exact L1 m _ _ _ _ H
        refine e_if_ge (pc := 42) (tgt := 50) dX9_answer_42 (by decide) (fun c6 => ?_) (fun c6 => ?_)
        · refine e_iload_n (pc := 50) dX9_answer_50 rfl rfl ?_
          exact e_top (cif_t c6) J
        · refine e_bipush (pc := 45) dX9_answer_45 ⟨by decide, by decide⟩ (by decide) ?_
          refine e_goto (pc := 47) (tgt := 51) dX9_answer_47 (by decide) ?_
          exact e_top (cif_f c6) J
      · have H := H.2 c5
        refine e_iconst (pc := 39) dX9_answer_39 ⟨by decide, by decide⟩ ?_
        exact e_ret (pc := 40) (v := some (vI (-1))) dX9_answer_40 rfl trivial ⟨_, rfl, H⟩
set_option maxRecDepth 100000 in
set_option maxHeartbeats 4000000 in
theorem c_X9_answer (w : WD) (pt : Int) (wd : Int) (h : HP) (K : Int → HP → Prop)  (H : S_X9_answer pt wd h K) : Ev w Y_X9_answer 0 [some (vR 55), some (vI pt), some (vI wd), none, none, none] [] h (rI K) := by
  obtain ⟨⟨hE, h10⟩, H0, H1⟩ := H
  have h23 := hE.1
  have hI : okA h pt wd → (fun (n : Nat) (x3 x4 x5 : Int) (g : HP) => g = h ∧ okA h pt wd ∧ x3 = nc wd ∧ (0 ≤ x5 ∧ x5 ≤ h 55 23) ∧ (h 55 20 = 0 → x5 = 0) ∧ n = (12 - x5).toNat ∧ x4 = cnt (fun i => h 75 i = 1 ∧ h 73 (3 * i + pt) = nc wd) x5.toNat) 12 (cif (0 ≤ wd) wd (-4)) 0 0 h := fun c => ⟨rfl, c, nc_cif, by omega, fun _ => rfl, rfl, rfl⟩
  refine v_X9_answer w pt wd h K (fun (n : Nat) (x3 x4 x5 : Int) (g : HP) => g = h ∧ okA h pt wd ∧ x3 = nc wd ∧ (0 ≤ x5 ∧ x5 ≤ h 55 23) ∧ (h 55 20 = 0 → x5 = 0) ∧ n = (12 - x5).toNat ∧ x4 = cnt (fun i => h 75 i = 1 ∧ h 73 (3 * i + pt) = nc wd) x5.toNat)
    (fun n x3 x4 x5 g => okA h pt wd ∧ ¬ (h 55 20 = 0 ∨ opM h pt (nc wd) = 0) ∧ x3 = nc wd ∧ x4 = opM h pt (nc wd) ∧ (0 ≤ x5 ∧ x5 ≤ h 55 23) ∧ n = (12 - x5).toNat ∧ (∀ q, q ≠ 75 → g q = h q) ∧ (∀ i : Int, 0 ≤ i → i < x5 → g 75 i = b2i (h 75 i = 1 ∧ h 73 (3 * i + pt) = nc wd)) ∧ (∀ i : Int, i < 0 ∨ x5 ≤ i → g 75 i = h 75 i))
    ⟨fun c => H0 (fun z => c z.1), fun c => ⟨fun c2 => ⟨⟨by omega, by omega⟩, fun z => ⟨12, hI ⟨c, by omega, by omega⟩⟩, fun z => H0 (fun y => z (by have := y.2; omega))⟩, fun c2 => ⟨⟨by omega, by omega⟩, fun z => ⟨12, hI ⟨c, by omega, by omega⟩⟩, fun z => H0 (fun y => z (by have := y.2; omega))⟩⟩⟩ ?_ ?_
  · rintro n x3 x4 x5 g ⟨rfl, hok, rfl, h5, hh, rfl, rfl⟩
    have hpt := hok.1
    have hc := cnt_b (fun i => g 75 i = 1 ∧ g 73 (3 * i + pt) = nc wd) x5.toNat
    have hs : cnt (fun i => g 75 i = 1 ∧ g 73 (3 * i + pt) = nc wd) (x5 + 1).toNat = cnt (fun i => g 75 i = 1 ∧ g 73 (3 * i + pt) = nc wd) x5.toNat + b2i (g 75 x5 = 1 ∧ g 73 (3 * x5 + pt) = nc wd) := cnt_next h5.1
    refine ⟨fun z => ?_, fun z => ?_⟩
    · by_cases c : g 55 20 = 0
      · have e := hh c
        subst e
        exact ⟨fun y => absurd rfl y, fun y => (H1 hok).1 (Or.inl c)⟩
      · have e : x5 = g 55 23 := by rcases z with z | z; omega; exact absurd z c
        subst e
        refine ⟨fun y => ⟨12, hok, fun u => by rcases u with u | u; exact c u; exact y u, rfl, rfl, by omega, rfl, fun _ _ => rfl, fun i a b => by omega, fun _ _ => rfl⟩, fun y => (H1 hok).1 (Or.inr y)⟩
    · have c1 : ¬ g 55 23 ≤ x5 := fun y => z (Or.inl y)
      have c2 : ¬ g 55 20 = 0 := fun y => z (Or.inr y)
      have x01 := (hE.2.2.1 x5 h5.1 (by omega)).2
      have hv : b2i (¬ g 75 x5 = 0 ∧ g 73 (3 * x5 + pt) = nc wd) = b2i (g 75 x5 = 1 ∧ g 73 (3 * x5 + pt) = nc wd) := b2i_c ⟨fun y => ⟨by omega, y.2⟩, fun y => ⟨by omega, y.2⟩⟩
      have v01 := b2i_01 (g 75 x5 = 1 ∧ g 73 (3 * x5 + pt) = nc wd)
      rw [hv]
      exact ⟨by omega, ⟨fun _ => trivial, fun _ => ⟨⟨by omega, by omega⟩, ⟨by omega, by omega⟩, by omega, trivial⟩⟩, ⟨by omega, by omega⟩, ⟨by omega, by omega⟩, (12 - (x5 + 1)).toNat, by omega, rfl, hok, rfl, by omega, fun y => absurd y c2, rfl, hs.symm⟩
  · rintro n x3 x4 x5 g ⟨hok, hz, rfl, rfl, h5, rfl, hg, hl, hr⟩
    have hpt := hok.1
    rw [hg 55 (by decide), hg 73 (by decide), hr x5 (by omega)]
    refine ⟨fun c => (H1 hok).2 hz g hg (fun i a b => hl i a (by omega)) (fun i a => hr i (by omega)), fun c => ⟨by omega, ⟨fun _ => trivial, fun _ => ⟨⟨by omega, by omega⟩, ⟨by omega, by omega⟩, by omega, trivial⟩⟩, by omega, ⟨by omega, by omega⟩, (12 - (x5 + 1)).toNat, by omega, hok, hz, rfl, rfl, by omega, rfl, fun q z => by rw [sth_ne z]; exact hg q z, fun i a b => ?_, fun i a => ?_⟩⟩
    · rw [sth_eq]
      by_cases e : i = x5
      · subst e
        rw [us_s]
        have x01 := (hE.2.2.1 i a (by omega)).2
        exact b2i_c ⟨fun y => ⟨by omega, y.2⟩, fun y => ⟨by omega, y.2⟩⟩
      · rw [us_n e]; exact hl i a (by omega)
    · rw [sth_eq, us_n (by omega)]; exact hr i (by omega)
/-! readings keep their bounds -/
theorem rwW_g {D H SM SND : Int → Int} {n c wd : Int} {row : Nat → Int} (hr : rowB row n c) (hD : ∀ (x : Int) (j : Nat), 0 ≤ x → x ≤ 15 → (j : Int) < n → 0 ≤ D (x * 16 + H (j : Int))) (hS : ∀ i : Int, 0 ≤ i → i < 64 → 0 ≤ SND i ∧ SND i ≤ 15) (hw : 0 ≤ wd ∧ wd < 16) (hm : 1 ≤ SM wd ∧ SM wd ≤ 4) : rowB (rwW D H SM SND wd row) n (c + 24) := by
  intro j hj
  have := rwF_b (s := fun k => SND (4 * wd + (k : Int))) hr hD (m := (SM wd).toNat) (fun i hi => hS _ (by omega) (by omega)) j hj
  unfold rwW
  omega
theorem prR_g {D H SM SND : Int → Int} {n N a b c : Int} (hn : 0 ≤ n ∧ n ≤ 8) (hN : N ≤ 16) (hD : ∀ (x : Int) (j : Nat), 0 ≤ x → x ≤ 15 → (j : Int) < n → 0 ≤ D (x * 16 + H (j : Int))) (hS : ∀ i : Int, 0 ≤ i → i < 64 → 0 ≤ SND i ∧ SND i ≤ 15) (hL : ∀ k : Int, 0 ≤ k → k < N → 1 ≤ SM k ∧ SM k ≤ 4) (ha : 0 ≤ a ∧ a < N) (hb : 0 ≤ b ∧ b < N) (hc : c < N) : 0 ≤ prR D H SM SND a b c n.toNat ∧ prR D H SM SND a b c n.toNat ≤ 1000 := by
  have h1 := rwW_g (wd := a) (row0_b hn.2) hD hS (by omega) (hL a ha.1 ha.2)
  have h2 := rwW_g (wd := b) h1 hD hS (by omega) (hL b hb.1 hb.2)
  unfold prR
  by_cases e : c < 0
  · rw [if_pos e]
    have := h2 n.toNat (by omega)
    omega
  · rw [if_neg e]
    have := rwW_g (wd := c) h2 hD hS (by omega) (hL c (by omega) hc) n.toNat (by omega)
    omega
def rok (KD : Int → Int) (N : Int) (R : RD) : Prop := ∀ i : Int, 0 ≤ i → i < (R.1 : Int) → (0 ≤ R.2.1 i ∧ R.2.1 i ≤ 1000) ∧ (0 ≤ R.2.2.1 i ∧ R.2.2.1 i < N ∧ KD (R.2.2.1 i) = 0) ∧ (0 ≤ R.2.2.2.1 i ∧ R.2.2.2.1 i < N) ∧ (R.2.2.2.2 i = -1 ∨ (0 ≤ R.2.2.2.2 i ∧ R.2.2.2.2 i < N))
theorem ofr_ok {KD : Int → Int} {N : Int} {R : RD} {p a b c : Int} (hR : rok KD N R) (hp : 0 ≤ p ∧ p ≤ 1000) (ha : 0 ≤ a ∧ a < N ∧ KD a = 0) (hb : 0 ≤ b ∧ b < N) (hc : c = -1 ∨ (0 ≤ c ∧ c < N)) : rok KD N (ofr R p a b c) := by
  have hpl := plN_le R.2.1 p R.1
  unfold ofr
  by_cases e : 12 ≤ plN R.2.1 p R.1
  · rw [if_pos e]; exact hR
  · rw [if_neg e]
    intro i i0 i1
    simp only at i1 ⊢
    unfold insF
    by_cases e1 : i < (plN R.2.1 p R.1 : Int)
    · rw [if_pos e1, if_pos e1, if_pos e1, if_pos e1]; exact hR i i0 (by omega)
    · rw [if_neg e1, if_neg e1, if_neg e1, if_neg e1]
      by_cases e2 : i = (plN R.2.1 p R.1 : Int)
      · rw [if_pos e2, if_pos e2, if_pos e2, if_pos e2]; exact ⟨hp, ha, hb, hc⟩
      · rw [if_neg e2, if_neg e2, if_neg e2, if_neg e2]; exact hR (i - 1) (by omega) (by omega)
theorem rl3_ok {KD : Int → Int} {pr : Int → Int → Int → Int} {lim a b N : Int} (hpr : ∀ a b c : Int, 0 ≤ a ∧ a < N → 0 ≤ b ∧ b < N → c < N → 0 ≤ pr a b c ∧ pr a b c ≤ 1000) (ha : 0 ≤ a ∧ a < N ∧ KD a = 0) (hb : 0 ≤ b ∧ b < N) {R : RD} (hR : rok KD N R) : ∀ {k : Nat}, (k : Int) ≤ N → rok KD N (rl3 KD pr lim a b k R)
  | 0, _ => hR
  | k + 1, hk => by
    have ih := rl3_ok (lim := lim) hpr ha hb hR (k := k) (by omega)
    simp only [rl3]
    by_cases e : KD (k : Int) = 2 ∧ pr a b (k : Int) ≤ lim
    · rw [if_pos e]; exact ofr_ok ih (hpr a b _ ⟨ha.1, ha.2.1⟩ hb (by omega)) ha hb (Or.inr (by omega))
    · rw [if_neg e]; exact ih
theorem aft_ok {KD : Int → Int} {pr : Int → Int → Int → Int} {lim a b N : Int} (hpr : ∀ a b c : Int, 0 ≤ a ∧ a < N → 0 ≤ b ∧ b < N → c < N → 0 ≤ pr a b c ∧ pr a b c ≤ 1000) (ha : 0 ≤ a ∧ a < N ∧ KD a = 0) (hb : 0 ≤ b ∧ b < N) {R : RD} (hR : rok KD N R) : rok KD N (aft KD pr lim a b R) := by
  unfold aft
  by_cases e : (KD b = 1 ∨ KD b = 3) ∧ pr a b (-1) ≤ lim
  · rw [if_pos e]; exact ofr_ok hR (hpr a b _ ⟨ha.1, ha.2.1⟩ hb (by omega)) ha hb (Or.inl rfl)
  · rw [if_neg e]; exact hR
theorem rl2_ok {KD : Int → Int} {pr : Int → Int → Int → Int} {lim a : Int} {N : Nat} (hpr : ∀ a b c : Int, 0 ≤ a ∧ a < (N : Int) → 0 ≤ b ∧ b < (N : Int) → c < (N : Int) → 0 ≤ pr a b c ∧ pr a b c ≤ 1000) (ha : 0 ≤ a ∧ a < (N : Int) ∧ KD a = 0) {R : RD} (hR : rok KD (N : Int) R) : ∀ {k : Nat}, k ≤ N → rok KD (N : Int) (rl2 KD pr lim a N k R)
  | 0, _ => hR
  | k + 1, hk => by
    have ih := rl2_ok (lim := lim) hpr ha hR (k := k) (by omega)
    have h1 := aft_ok (lim := lim) (b := (k : Int)) hpr ha (by omega) ih
    rw [rl2_s]
    by_cases e : KD (k : Int) = 1
    · rw [if_pos e]; exact rl3_ok hpr ha (by omega) h1 (by omega)
    · rw [if_neg e]; exact h1
theorem rl1_ok {KD : Int → Int} {pr : Int → Int → Int → Int} {lim : Int} {N : Nat} (hpr : ∀ a b c : Int, 0 ≤ a ∧ a < (N : Int) → 0 ≤ b ∧ b < (N : Int) → c < (N : Int) → 0 ≤ pr a b c ∧ pr a b c ≤ 1000) {R : RD} (hR : rok KD (N : Int) R) : ∀ {k : Nat}, k ≤ N → rok KD (N : Int) (rl1 KD pr lim N k R)
  | 0, _ => hR
  | k + 1, hk => by
    have ih := rl1_ok (lim := lim) hpr hR (k := k) (by omega)
    simp only [rl1]
    by_cases e : KD (k : Int) = 0
    · rw [if_pos e]; exact rl2_ok hpr ⟨by omega, by omega, e⟩ ih (Nat.le_refl N)
    · rw [if_neg e]; exact ih
theorem R0_ok (KD : Int → Int) (N : Int) : rok KD N R0 := fun i i0 i1 => absurd i1 (by simp only [R0]; omega)
theorem prM_g {h : HP} (hV : mVOK h) (hH : mHRD h) : ∀ a b c : Int, 0 ≤ a ∧ a < (((h 55 10).toNat : Nat) : Int) → 0 ≤ b ∧ b < (((h 55 10).toNat : Nat) : Int) → c < (((h 55 10).toNat : Nat) : Int) → 0 ≤ prM h a b c ∧ prM h a b c ≤ 1000 := fun a b c ha hb hc => by
  have h16 := hV.1
  unfold prM
  refine prR_g (N := h 55 10) hH.1 h16.2 (fun x j x0 x1 hj => ?_) hV.2.2.1 (fun k a b => (hV.2.1 k a b).2.2.2) (by omega) (by omega) (by omega)
  have h1 := hH.2 (j : Int) (by omega) (by have := hH.1; omega)
  exact (hV.2.2.2 _ (by omega) (by omega)).1
theorem prC_g {h : HP} (hV : VOK h) (hH : HRD h) : ∀ a b c : Int, 0 ≤ a ∧ a < (((h 3 6).toNat : Nat) : Int) → 0 ≤ b ∧ b < (((h 3 6).toNat : Nat) : Int) → c < (((h 3 6).toNat : Nat) : Int) → 0 ≤ prC h a b c ∧ prC h a b c ≤ 1000 := fun a b c ha hb hc => by
  have h16 := hV.1
  unfold prC
  exact prR_g (N := h 3 6) hH.1 h16.2 (doub hV hH) hV.2.2.1 (fun k a b => (hV.2.1 k a b).2.2.2) (by omega) (by omega) (by omega)
