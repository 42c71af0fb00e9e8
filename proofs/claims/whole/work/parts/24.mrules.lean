/-! the reference: all items, rights, bars -/
def itM (T : Int → Int) (L : Int) (m : Nat) (h : HP) (o : Int) : Prop := ∀ k : Nat, k < m → h 71 (o + 6 * (k : Int)) = T (ps T L k) ∧ ∀ j : Nat, (j : Int) < nW (T (ps T L k)) → h 71 (o + 6 * (k : Int) + 1 + (j : Int)) = nvl T L (np T L (ps T L k) j)
def S_X9_readAll (h : HP) (K : Int → HP → Prop) : Prop := mtOK h ∧ ∀ (r : Int) (h' : HP), (∀ q, q ≠ 55 → q ≠ 70 → q ≠ 71 → q ≠ 81 → h' q = h q) → (∀ i : Int, i ≠ 39 → h' 55 i = h 55 i) → (∀ i : Int, i ≠ 0 → h' 70 i = h 70 i) → (∀ i : Int, 240 ≤ i → h' 71 i = h 71 i) → ffR (h 69) (h 55 16) r → (r = -4 → ∃ m : Nat, okT (h 69) (h 55 16) m ∧ h' 70 0 = (m : Int) ∧ itM (h 69) (h 55 16) m h' 0) → K r h'
set_option maxRecDepth 100000 in
set_option maxHeartbeats 4000000 in
theorem v_X9_readAll (w : WD)  (h : HP) (K : Int → HP → Prop) 
    (I1 : Nat → HP → Prop)
    (I2 : Nat → Nat → Int → Int → HP → Prop)
    (H : (∃ m : Nat, I1 m (sth (sth h 70 0 0) 55 39 0)))
    (H1 : ∀ (n1 : Nat) (g1 : HP), I1 n1 g1 → (((g1 55 16) ≤ (g1 55 39) → K (-4) g1) ∧ (¬ (g1 55 16) ≤ (g1 55 39) → (S_X9_item g1 (fun r21 h21 => ((¬ r21 = 0 → ((iR (6 * (h21 70 0))) ∧ ((0 ≤ (g1 55 39) ∧ (g1 55 39) < 200) ∧ ((0 ≤ (6 * (h21 70 0)) ∧ (6 * (h21 70 0)) < 480) ∧ (∃ m : Nat, I2 n1 m (6 * (h21 70 0)) 0 (sth h21 71 (6 * (h21 70 0)) (h21 69 (g1 55 39)))))))) ∧ (r21 = 0 → K (g1 55 39) h21)))))))
    (H2 : ∀ (n1 : Nat) (n2 : Nat) (x2 : Int) (x3 : Int) (g2 : HP), I2 n1 n2 x2 x3 g2 → ((5 ≤ x3 → ((iR ((g2 70 0) + 1)) ∧ (∃ m : Nat, m < n1 ∧ I1 m (sth g2 70 0 ((g2 70 0) + 1))))) ∧ (¬ 5 ≤ x3 → ((iR (x2 + 1)) ∧ ((iR ((x2 + 1) + x3)) ∧ ((0 ≤ x3 ∧ x3 < 5) ∧ ((0 ≤ ((x2 + 1) + x3) ∧ ((x2 + 1) + x3) < 480) ∧ ((iR (x3 + 1)) ∧ (∃ m : Nat, m < n2 ∧ I2 n1 m x2 (x3 + 1) (sth g2 71 ((x2 + 1) + x3) (g2 81 x3))))))))))) :
    Ev w Y_X9_readAll 0 [some (vR 55), none, none, none] [] h (rI K) := by
  have L1 : ∀ (n1 : Nat) (g1 : HP), I1 n1 g1 → Ev w Y_X9_readAll 12 [some (vR 55), none, none, none] [] g1 (rI K) := by
    intro n1
    induction n1 using Nat.strongRecOn with
    | ind n1 ih1 =>
      have L2 : ∀ (n2 : Nat) (x2 : Int) (x3 : Int) (g2 : HP), I2 n1 n2 x2 x3 g2 → Ev w Y_X9_readAll 61 [some (vR 55), none, some (vI x2), some (vI x3)] [] g2 (rI K) := by
        intro n2
        induction n2 using Nat.strongRecOn with
        | ind n2 ih2 =>
          intro x2 x3 g2 H
          have H := H2 n1 n2 x2 x3 g2 H
          refine e_iload_n (pc := 61) dX9_readAll_61 rfl rfl ?_
          refine e_iconst (pc := 62) dX9_readAll_62 ⟨by decide, by decide⟩ ?_
          refine e_icmp_ge (pc := 63) (tgt := 88) dX9_readAll_63 (by decide) (fun c3 => ?_) (fun c3 => ?_)
          · have H := H.1 c3
            refine e_aload_n (pc := 88) dX9_readAll_88 rfl rfl ?_
            refine e_getR (q := 55) (ci := 9) (k := 18) (y := 70) (C := RX9) (T := TX9) (N := 52) (pc := 89) dX9_readAll_89 rfl rfl ev_in9 rfl ul_4_200 ⟨rfl, rfl⟩ rfl ?_
            refine e_iconst (pc := 92) dX9_readAll_92 ⟨by decide, by decide⟩ ?_
            refine e_dup2 (pc := 93) dX9_readAll_93 rfl rfl ?_
            refine e_iald (q := 70) (x := (g2 70 0)) (pc := 94) dX9_readAll_94 rfl ⟨by decide, by decide⟩ rfl ?_
            refine e_iconst (pc := 95) dX9_readAll_95 ⟨by decide, by decide⟩ ?_
            refine e_iadd (pc := 96) dX9_readAll_96 H.1 ?_
            have H := H.2
            refine e_iast (q := 70) (pc := 97) dX9_readAll_97 rfl ⟨by decide, by decide⟩ ?_
            refine e_goto (pc := 98) (tgt := 12) dX9_readAll_98 (by decide) ?_
            refine e_mask [true, false, false, false] rfl ?_
            obtain ⟨m, hm, H⟩ := H
            exact ih1 m hm _ H
          · have H := H.2 c3
            refine e_aload_n (pc := 66) dX9_readAll_66 rfl rfl ?_
            refine e_getR (q := 55) (ci := 9) (k := 19) (y := 71) (C := RX9) (T := TX9) (N := 52) (pc := 67) dX9_readAll_67 rfl rfl ev_in9 rfl ul_4_201 ⟨rfl, rfl⟩ rfl ?_
            refine e_iload_n (pc := 70) dX9_readAll_70 rfl rfl ?_
            refine e_iconst (pc := 71) dX9_readAll_71 ⟨by decide, by decide⟩ ?_
            refine e_iadd (pc := 72) dX9_readAll_72 H.1 ?_
            have H := H.2
            refine e_iload_n (pc := 73) dX9_readAll_73 rfl rfl ?_
            refine e_iadd (pc := 74) dX9_readAll_74 H.1 ?_
            have H := H.2
            refine e_aload_n (pc := 75) dX9_readAll_75 rfl rfl ?_
            refine e_getR (q := 55) (ci := 9) (k := 40) (y := 81) (C := RX9) (T := TX9) (N := 52) (pc := 76) dX9_readAll_76 rfl rfl ev_in9 rfl ul_4_222 ⟨rfl, rfl⟩ rfl ?_
            refine e_iload_n (pc := 79) dX9_readAll_79 rfl rfl ?_
            refine e_iald (q := 81) (x := (g2 81 x3)) (pc := 80) dX9_readAll_80 rfl H.1 rfl ?_
            have H := H.2
            refine e_iast (q := 71) (pc := 81) dX9_readAll_81 rfl H.1 ?_
            have H := H.2
            refine e_iinc (lv' := [some (vR 55), none, some (vI x2), some (vI (x3 + 1))]) (pc := 82) dX9_readAll_82 rfl H.1 rfl rfl ?_
            have H := H.2
            refine e_goto (pc := 85) (tgt := 61) dX9_readAll_85 (by decide) ?_
            obtain ⟨m, hm, H⟩ := H
            exact ih2 m hm _ _ _ H
      intro  g1 H
      have H := H1 n1 g1 H
      refine e_aload_n (pc := 12) dX9_readAll_12 rfl rfl ?_
      refine e_getI (q := 55) (ci := 9) (k := 39) (kz := 39) (C := RX9) (T := TX9) (N := 52) (x := (g1 55 39)) (pc := 13) dX9_readAll_13 rfl rfl rfl ev_in9 rfl ul_4_221 ⟨rfl, by decide⟩ rfl ?_
      refine e_aload_n (pc := 16) dX9_readAll_16 rfl rfl ?_
      refine e_getI (q := 55) (ci := 9) (k := 16) (kz := 16) (C := RX9) (T := TX9) (N := 52) (x := (g1 55 16)) (pc := 17) dX9_readAll_17 rfl rfl rfl ev_in9 rfl ul_4_198 ⟨rfl, by decide⟩ rfl ?_
      refine e_icmp_ge (pc := 20) (tgt := 101) dX9_readAll_20 (by decide) (fun c1 => ?_) (fun c1 => ?_)
      · have H := H.1 c1
        refine e_bipush (pc := 101) dX9_readAll_101 ⟨by decide, by decide⟩ (by decide) ?_
        exact e_ret (pc := 103) (v := some (vI (-4))) dX9_readAll_103 rfl trivial ⟨_, rfl, H⟩
      · have H := H.2 c1
        refine e_aload_n (pc := 23) dX9_readAll_23 rfl rfl ?_
        refine e_getI (q := 55) (ci := 9) (k := 39) (kz := 39) (C := RX9) (T := TX9) (N := 52) (x := (g1 55 39)) (pc := 24) dX9_readAll_24 rfl rfl rfl ev_in9 rfl ul_4_221 ⟨rfl, by decide⟩ rfl ?_
        refine e_istore_n (lv' := [some (vR 55), some (vI (g1 55 39)), none, none]) (pc := 27) dX9_readAll_27 rfl rfl rfl ?_
        refine e_aload_n (pc := 28) dX9_readAll_28 rfl rfl ?_
        refine e_invV (pc := 29) (Y' := Y_X9_item) (as := []) (st := []) (lv0 := [some (vR 55), none, none]) (q := 55) (ci := 9) (T := TX9) (N := 52) dX9_readAll_29 m_X9_item ul_5_158 ⟨ul_5_160, us_X9_item⟩ ⟨rfl, rfl⟩ rfl rfl rfl rfl rfl rfl rfl (c_X9_item w g1 _ H) ?_
        rintro _ h21 ⟨r21, rfl, H⟩
        show Ev w Y_X9_readAll 32 [some (vR 55), some (vI (g1 55 39)), none, none] [vI r21] h21 (rI K)
        refine e_if_ne (pc := 32) (tgt := 37) dX9_readAll_32 (by decide) (fun c2 => ?_) (fun c2 => ?_)
        · have H := H.1 c2
          refine e_bipush (pc := 37) dX9_readAll_37 ⟨by decide, by decide⟩ (by decide) ?_
          refine e_aload_n (pc := 39) dX9_readAll_39 rfl rfl ?_
          refine e_getR (q := 55) (ci := 9) (k := 18) (y := 70) (C := RX9) (T := TX9) (N := 52) (pc := 40) dX9_readAll_40 rfl rfl ev_in9 rfl ul_4_200 ⟨rfl, rfl⟩ rfl ?_
          refine e_iconst (pc := 43) dX9_readAll_43 ⟨by decide, by decide⟩ ?_
          refine e_iald (q := 70) (x := (h21 70 0)) (pc := 44) dX9_readAll_44 rfl ⟨by decide, by decide⟩ rfl ?_
          refine e_imul (pc := 45) dX9_readAll_45 H.1 ?_
          have H := H.2
          refine e_istore_n (lv' := [some (vR 55), some (vI (g1 55 39)), some (vI (6 * (h21 70 0))), none]) (pc := 46) dX9_readAll_46 rfl rfl rfl ?_
          refine e_aload_n (pc := 47) dX9_readAll_47 rfl rfl ?_
          refine e_getR (q := 55) (ci := 9) (k := 19) (y := 71) (C := RX9) (T := TX9) (N := 52) (pc := 48) dX9_readAll_48 rfl rfl ev_in9 rfl ul_4_201 ⟨rfl, rfl⟩ rfl ?_
          refine e_iload_n (pc := 51) dX9_readAll_51 rfl rfl ?_
          refine e_aload_n (pc := 52) dX9_readAll_52 rfl rfl ?_
          refine e_getR (q := 55) (ci := 9) (k := 17) (y := 69) (C := RX9) (T := TX9) (N := 52) (pc := 53) dX9_readAll_53 rfl rfl ev_in9 rfl ul_4_199 ⟨rfl, rfl⟩ rfl ?_
          refine e_iload_n (pc := 56) dX9_readAll_56 rfl rfl ?_
          refine e_iald (q := 69) (x := (h21 69 (g1 55 39))) (pc := 57) dX9_readAll_57 rfl H.1 rfl ?_
          have H := H.2
          refine e_iast (q := 71) (pc := 58) dX9_readAll_58 rfl H.1 ?_
          have H := H.2
          refine e_iconst (pc := 59) dX9_readAll_59 ⟨by decide, by decide⟩ ?_
          refine e_istore_n (lv' := [some (vR 55), some (vI (g1 55 39)), some (vI (6 * (h21 70 0))), some (vI 0)]) (pc := 60) dX9_readAll_60 rfl rfl rfl ?_
          refine e_mask [true, false, true, true] rfl ?_
          obtain ⟨m, H⟩ := H
          exact L2 m _ _ _ H
        · have H := H.2 c2
          refine e_iload_n (pc := 35) dX9_readAll_35 rfl rfl ?_
          exact e_ret (pc := 36) (v := some (vI (g1 55 39))) dX9_readAll_36 rfl trivial ⟨_, rfl, H⟩
  refine e_aload_n (pc := 0) dX9_readAll_0 rfl rfl ?_
  refine e_getR (q := 55) (ci := 9) (k := 18) (y := 70) (C := RX9) (T := TX9) (N := 52) (pc := 1) dX9_readAll_1 rfl rfl ev_in9 rfl ul_4_200 ⟨rfl, rfl⟩ rfl ?_
  refine e_iconst (pc := 4) dX9_readAll_4 ⟨by decide, by decide⟩ ?_
  refine e_iconst (pc := 5) dX9_readAll_5 ⟨by decide, by decide⟩ ?_
  refine e_iast (q := 70) (pc := 6) dX9_readAll_6 rfl ⟨by decide, by decide⟩ ?_
  refine e_aload_n (pc := 7) dX9_readAll_7 rfl rfl ?_
  refine e_iconst (pc := 8) dX9_readAll_8 ⟨by decide, by decide⟩ ?_
  refine e_put (q := 55) (ci := 9) (k := 39) (kz := 39) (C := RX9) (T := TX9) (N := 52) (ty := .int) (pc := 9) dX9_readAll_9 rfl rfl rfl ev_in9 tyX9 tyX9_ok nmX9 rfl ul_4_221 ⟨rfl, by decide⟩ rfl (tyX9_ok 39 (by decide)) (Or.inl rfl) ?_
  obtain ⟨m, H⟩ := H
  exact L1 m _ H
set_option maxRecDepth 100000 in
set_option maxHeartbeats 4000000 in
theorem c_X9_readAll (w : WD)  (h : HP) (K : Int → HP → Prop)  (H : S_X9_readAll  h K) : Ev w Y_X9_readAll 0 [some (vR 55), none, none, none] [] h (rI K) := by
  obtain ⟨ht, HK⟩ := H
  obtain ⟨t1, t2, t3⟩ := id ht
  refine v_X9_readAll w h K
    (fun n g => ∃ k : Nat, n = 40 - k ∧ g 55 39 = ps (h 69) (h 55 16) k ∧ g 70 0 = (k : Int) ∧ (∀ i : Nat, i < k → ps (h 69) (h 55 16) i < h 55 16 ∧ iv (h 69) (h 55 16) (ps (h 69) (h 55 16) i)) ∧ itM (h 69) (h 55 16) k g 0 ∧ (∀ q, q ≠ 55 → q ≠ 70 → q ≠ 71 → q ≠ 81 → g q = h q) ∧ (∀ i : Int, i ≠ 39 → g 55 i = h 55 i) ∧ (∀ i : Int, i ≠ 0 → g 70 i = h 70 i) ∧ (∀ i : Int, 240 ≤ i → g 71 i = h 71 i))
    (fun n n2 x2 x3 g => ∃ k : Nat, n = 40 - k ∧ k < 40 ∧ x2 = 6 * (k : Int) ∧ (0 ≤ x3 ∧ x3 ≤ 5) ∧ n2 = (5 - x3).toNat ∧ (ps (h 69) (h 55 16) k < h 55 16 ∧ iv (h 69) (h 55 16) (ps (h 69) (h 55 16) k)) ∧ g 55 39 = nxt (h 69) (h 55 16) (ps (h 69) (h 55 16) k) ∧ g 70 0 = (k : Int) ∧ g 71 (6 * (k : Int)) = h 69 (ps (h 69) (h 55 16) k) ∧ (∀ j : Nat, (j : Int) < nW (h 69 (ps (h 69) (h 55 16) k)) → g 81 (j : Int) = nvl (h 69) (h 55 16) (np (h 69) (h 55 16) (ps (h 69) (h 55 16) k) j)) ∧ (∀ i : Int, 0 ≤ i → i < x3 → g 71 (6 * (k : Int) + 1 + i) = g 81 i) ∧ (∀ i : Nat, i < k → ps (h 69) (h 55 16) i < h 55 16 ∧ iv (h 69) (h 55 16) (ps (h 69) (h 55 16) i)) ∧ itM (h 69) (h 55 16) k g 0 ∧ (∀ q, q ≠ 55 → q ≠ 70 → q ≠ 71 → q ≠ 81 → g q = h q) ∧ (∀ i : Int, i ≠ 39 → g 55 i = h 55 i) ∧ (∀ i : Int, i ≠ 0 → g 70 i = h 70 i) ∧ (∀ i : Int, 240 ≤ i → g 71 i = h 71 i))
    ⟨40, 0, rfl, by rw [sth_eq, us_s]; rfl, by rw [sth_ne (by decide), sth_eq, us_s]; rfl, fun i hi => by omega, fun i hi => by omega, fun q a b d e => by rw [sth_ne a, sth_ne b], fun i a => by rw [sth_eq, us_n a, sth_ne (by decide)], fun i a => by rw [sth_ne (by decide), sth_eq, us_n a], fun i a => by rw [sth_ne (by decide), sth_ne (by decide)]⟩ ?_ ?_
  · rintro n g ⟨k, rfl, hat, hk, hi, hit, f1, f2, f3, f4⟩
    have g16 : g 55 16 = h 55 16 := f2 16 (by decide)
    have g69 : g 69 = h 69 := f1 69 (by decide) (by decide) (by decide) (by decide)
    have h5 := ps_ge k (fun i z => (hi i z).2)
    rw [g16, hat]
    refine ⟨fun c => HK (-4) g f1 f2 f3 f4 ⟨k, hi, Or.inr ⟨c, rfl⟩⟩ (fun _ => ⟨k, ⟨hi, c⟩, hk, hit⟩), fun c => ⟨⟨mtOK_c g16 g69 ht, by omega, by omega⟩, fun r h1 e1 e2 hr => ?_⟩⟩
    rw [g16, g69, hat] at hr
    have q1 : ∀ q, q ≠ 55 → q ≠ 70 → q ≠ 71 → q ≠ 81 → h1 q = h q := fun q a b d e => (e1 q a e).trans (f1 q a b d e)
    have q2 : ∀ i : Int, i ≠ 39 → h1 55 i = h 55 i := fun i a => (e2 i a).trans (f2 i a)
    have q70 : h1 70 = g 70 := e1 70 (by decide) (by decide)
    have q71 : h1 71 = g 71 := e1 71 (by decide) (by decide)
    have q69 : h1 69 = h 69 := (e1 69 (by decide) (by decide)).trans g69
    have q3 : ∀ i : Int, i ≠ 0 → h1 70 i = h 70 i := fun i a => by rw [q70]; exact f3 i a
    have q4 : ∀ i : Int, 240 ≤ i → h1 71 i = h 71 i := fun i a => by rw [q71]; exact f4 i a
    rcases hr with ⟨a, b, d, e⟩ | ⟨a, b⟩
    · refine ⟨fun _ => ?_, fun z => by omega⟩
      rw [q70, hk, q69]
      refine ⟨⟨by omega, by omega⟩, by omega, by omega, 5, k, rfl, by omega, rfl, by omega, rfl, ⟨by omega, a⟩, by rw [sth_ne (by decide)]; exact d, by rw [sth_ne (by decide), q70]; exact hk, by rw [sth_eq, us_s], fun j hj => by rw [sth_ne (by decide)]; exact e j hj, fun i z1 z2 => by omega, hi, fun i z => ?_, fun q z1 z2 z3 z4 => by rw [sth_ne z3]; exact q1 q z1 z2 z3 z4, fun i z => by rw [sth_ne (by decide)]; exact q2 i z, fun i z => by rw [sth_ne (by decide)]; exact q3 i z, fun i z => by rw [sth_eq, us_n (by omega)]; exact q4 i z⟩
      rw [sth_eq, q71]
      have hb := nW_b (h 69 (ps (h 69) (h 55 16) i))
      exact ⟨by rw [us_n (by omega)]; exact (hit i z).1, fun j hj => by rw [us_n (by omega)]; exact (hit i z).2 j hj⟩
    · exact ⟨fun z => absurd b z, fun _ => HK _ h1 q1 q2 q3 q4 ⟨k, hi, Or.inl ⟨by omega, a, rfl⟩⟩ (fun z => by omega)⟩
  · rintro n n2 x2 x3 g ⟨k, rfl, hk40, rfl, h0, rfl, hiv, hat, hk, hl, hv, hc, hi, hit, f1, f2, f3, f4⟩
    rw [hk]
    refine ⟨fun c => ⟨⟨by omega, by omega⟩, 40 - (k + 1), by omega, k + 1, rfl, by rw [sth_ne (by decide), hat]; rfl, by rw [sth_eq, us_s]; omega, fun i z => ?_, fun i z => ?_, fun q z1 z2 z3 z4 => by rw [sth_ne z2]; exact f1 q z1 z2 z3 z4, fun i z => by rw [sth_ne (by decide)]; exact f2 i z, fun i z => by rw [sth_eq, us_n z]; exact f3 i z, fun i z => by rw [sth_ne (by decide)]; exact f4 i z⟩, fun c => ⟨⟨by omega, by omega⟩, ⟨by omega, by omega⟩, by omega, by omega, ⟨by omega, by omega⟩, (5 - (x3 + 1)).toNat, by omega, k, rfl, hk40, rfl, by omega, rfl, hiv, by rw [sth_ne (by decide)]; exact hat, by rw [sth_ne (by decide)]; exact hk, by rw [sth_eq, us_n (by omega)]; exact hl, fun j hj => by rw [sth_ne (by decide)]; exact hv j hj, fun i z1 z2 => ?_, hi, fun i z => ?_, fun q z1 z2 z3 z4 => by rw [sth_ne z3]; exact f1 q z1 z2 z3 z4, fun i z => by rw [sth_ne (by decide)]; exact f2 i z, fun i z => by rw [sth_ne (by decide)]; exact f3 i z, fun i z => by rw [sth_eq, us_n (by omega)]; exact f4 i z⟩⟩
    · by_cases e : i = k
      · subst e; exact hiv
      · exact hi i (by omega)
    · rw [sth_ne (by decide)]
      by_cases e : i = k
      · subst e
        have hb := nW_b (h 69 (ps (h 69) (h 55 16) i))
        refine ⟨by rw [Int.zero_add]; exact hl, fun j hj => ?_⟩
        rw [Int.zero_add, hc (j : Int) (by omega) (by omega)]
        exact hv j hj
      · exact hit i (by omega)
    · rw [sth_eq, sth_ne (by decide)]
      by_cases e : i = x3
      · subst e; rw [us_s]
      · rw [us_n (by omega)]; exact hc i z1 (by omega)
    · rw [sth_eq]
      have hb := nW_b (h 69 (ps (h 69) (h 55 16) i))
      exact ⟨by rw [us_n (by omega)]; exact (hit i z).1, fun j hj => by rw [us_n (by omega)]; exact (hit i z).2 j hj⟩
def S_X9_fault  (h : HP) (K : Int → HP → Prop) : Prop :=
  (S_X9_readAll  h (fun r21 h21 => K r21 h21))
set_option maxRecDepth 100000 in
set_option maxHeartbeats 4000000 in
theorem v_X9_fault (w : WD)  (h : HP) (K : Int → HP → Prop) 
    (H : (S_X9_readAll  h (fun r21 h21 => K r21 h21))) :
    Ev w Y_X9_fault 0 [some (vR 55)] [] h (rI K) := by
  refine e_aload_n (pc := 0) dX9_fault_0 rfl rfl ?_
  refine e_invV (pc := 1) (Y' := Y_X9_readAll) (as := []) (st := []) (lv0 := [some (vR 55), none, none, none]) (q := 55) (ci := 9) (T := TX9) (N := 52) dX9_fault_1 m_X9_readAll ul_5_154 ⟨ul_5_156, us_X9_readAll⟩ ⟨rfl, rfl⟩ rfl rfl rfl rfl rfl rfl rfl (c_X9_readAll w h _ H) ?_
  rintro _ h21 ⟨r21, rfl, H⟩
  show Ev w Y_X9_fault 4 [some (vR 55)] [vI r21] h21 (rI K)
  exact e_ret (pc := 4) (v := some (vI r21)) dX9_fault_4 rfl trivial ⟨_, rfl, H⟩
theorem c_X9_fault (w : WD)  (h : HP) (K : Int → HP → Prop)  (H : S_X9_fault  h K) : Ev w Y_X9_fault 0 [some (vR 55)] [] h (rI K) := v_X9_fault w  h K  H
def S_X9_force (h : HP) (K : Int → HP → Prop) : Prop := mtOK h ∧ (∀ (h' : HP) (r : Int), (∀ q, q ≠ 55 → q ≠ 70 → q ≠ 71 → q ≠ 81 → h' q = h q) → (∀ i : Int, i ≠ 39 → h' 55 i = h 55 i) → (∀ i : Int, i ≠ 0 → h' 70 i = h 70 i) → (∀ i : Int, 240 ≤ i → h' 71 i = h 71 i) → ffR (h 69) (h 55 16) r → r ≠ -4 → K (-2) h') ∧ ∀ (h' : HP) (m : Nat), (∀ q, q ≠ 55 → q ≠ 70 → q ≠ 71 → q ≠ 81 → h' q = h q) → (∀ i : Int, i ≠ 39 → h' 55 i = h 55 i) → okT (h 69) (h 55 16) m → h' 70 1 = (m : Int) → itM (h 69) (h 55 16) m h' 240 → K (m : Int) h'
theorem okT_40 {T : Int → Int} {L : Int} {m : Nat} (h : okT T L m) (hL : L ≤ 200) : m ≤ 40 := by
  rcases Nat.lt_or_ge 40 m with c | c
  · have h1 := h.1 40 c
    have := ps_ge 40 (fun i z => (h.1 i (by omega)).2)
    omega
  · exact c
set_option maxRecDepth 100000 in
set_option maxHeartbeats 4000000 in
theorem v_X9_force (w : WD)  (h : HP) (K : Int → HP → Prop) 
    (I1 : Nat → Int → HP → Prop)
    (H : (S_X9_readAll  h (fun r21 h21 => ((r21 = (-4) → (∃ m : Nat, I1 m 0 (sth h21 70 1 (h21 70 0)))) ∧ (¬ r21 = (-4) → K (-2) h21)))))
    (H1 : ∀ (n1 : Nat) (x1 : Int) (g1 : HP), I1 n1 x1 g1 → ((240 ≤ x1 → K (g1 70 1) g1) ∧ (¬ 240 ≤ x1 → ((iR (240 + x1)) ∧ ((0 ≤ x1 ∧ x1 < 480) ∧ ((0 ≤ (240 + x1) ∧ (240 + x1) < 480) ∧ ((iR (x1 + 1)) ∧ (∃ m : Nat, m < n1 ∧ I1 m (x1 + 1) (sth g1 71 (240 + x1) (g1 71 x1)))))))))) :
    Ev w Y_X9_force 0 [some (vR 55), none] [] h (rI K) := by
  have L1 : ∀ (n1 : Nat) (x1 : Int) (g1 : HP), I1 n1 x1 g1 → Ev w Y_X9_force 26 [some (vR 55), some (vI x1)] [] g1 (rI K) := by
    intro n1
    induction n1 using Nat.strongRecOn with
    | ind n1 ih1 =>
      intro x1 g1 H
      have H := H1 n1 x1 g1 H
      refine e_iload_n (pc := 26) dX9_force_26 rfl rfl ?_
      refine e_sipush (pc := 27) dX9_force_27 ⟨by decide, by decide⟩ (by decide) ?_
      refine e_icmp_ge (pc := 30) (tgt := 55) dX9_force_30 (by decide) (fun c2 => ?_) (fun c2 => ?_)
      · have H := H.1 c2
        refine e_aload_n (pc := 55) dX9_force_55 rfl rfl ?_
        refine e_getR (q := 55) (ci := 9) (k := 18) (y := 70) (C := RX9) (T := TX9) (N := 52) (pc := 56) dX9_force_56 rfl rfl ev_in9 rfl ul_4_200 ⟨rfl, rfl⟩ rfl ?_
        refine e_iconst (pc := 59) dX9_force_59 ⟨by decide, by decide⟩ ?_
        refine e_iald (q := 70) (x := (g1 70 1)) (pc := 60) dX9_force_60 rfl ⟨by decide, by decide⟩ rfl ?_
        exact e_ret (pc := 61) (v := some (vI (g1 70 1))) dX9_force_61 rfl trivial ⟨_, rfl, H⟩
      · have H := H.2 c2
        refine e_aload_n (pc := 33) dX9_force_33 rfl rfl ?_
        refine e_getR (q := 55) (ci := 9) (k := 19) (y := 71) (C := RX9) (T := TX9) (N := 52) (pc := 34) dX9_force_34 rfl rfl ev_in9 rfl ul_4_201 ⟨rfl, rfl⟩ rfl ?_
        refine e_sipush (pc := 37) dX9_force_37 ⟨by decide, by decide⟩ (by decide) ?_
        refine e_iload_n (pc := 40) dX9_force_40 rfl rfl ?_
        refine e_iadd (pc := 41) dX9_force_41 H.1 ?_
        have H := H.2
        refine e_aload_n (pc := 42) dX9_force_42 rfl rfl ?_
        refine e_getR (q := 55) (ci := 9) (k := 19) (y := 71) (C := RX9) (T := TX9) (N := 52) (pc := 43) dX9_force_43 rfl rfl ev_in9 rfl ul_4_201 ⟨rfl, rfl⟩ rfl ?_
        refine e_iload_n (pc := 46) dX9_force_46 rfl rfl ?_
        refine e_iald (q := 71) (x := (g1 71 x1)) (pc := 47) dX9_force_47 rfl H.1 rfl ?_
        have H := H.2
        refine e_iast (q := 71) (pc := 48) dX9_force_48 rfl H.1 ?_
        have H := H.2
        refine e_iinc (lv' := [some (vR 55), some (vI (x1 + 1))]) (pc := 49) dX9_force_49 rfl H.1 rfl rfl ?_
        have H := H.2
        refine e_goto (pc := 52) (tgt := 26) dX9_force_52 (by decide) ?_
        obtain ⟨m, hm, H⟩ := H
        exact ih1 m hm _ _ H
  refine e_aload_n (pc := 0) dX9_force_0 rfl rfl ?_
  refine e_invV (pc := 1) (Y' := Y_X9_readAll) (as := []) (st := []) (lv0 := [some (vR 55), none, none, none]) (q := 55) (ci := 9) (T := TX9) (N := 52) dX9_force_1 m_X9_readAll ul_5_154 ⟨ul_5_156, us_X9_readAll⟩ ⟨rfl, rfl⟩ rfl rfl rfl rfl rfl rfl rfl (c_X9_readAll w h _ H) ?_
  rintro _ h21 ⟨r21, rfl, H⟩
  show Ev w Y_X9_force 4 [some (vR 55), none] [vI r21] h21 (rI K)
  refine e_bipush (pc := 4) dX9_force_4 ⟨by decide, by decide⟩ (by decide) ?_
  refine e_icmp_eq (pc := 6) (tgt := 12) dX9_force_6 (by decide) (fun c1 => ?_) (fun c1 => ?_)
  · have H := H.1 c1
    refine e_aload_n (pc := 12) dX9_force_12 rfl rfl ?_
    refine e_getR (q := 55) (ci := 9) (k := 18) (y := 70) (C := RX9) (T := TX9) (N := 52) (pc := 13) dX9_force_13 rfl rfl ev_in9 rfl ul_4_200 ⟨rfl, rfl⟩ rfl ?_
    refine e_iconst (pc := 16) dX9_force_16 ⟨by decide, by decide⟩ ?_
    refine e_aload_n (pc := 17) dX9_force_17 rfl rfl ?_
    refine e_getR (q := 55) (ci := 9) (k := 18) (y := 70) (C := RX9) (T := TX9) (N := 52) (pc := 18) dX9_force_18 rfl rfl ev_in9 rfl ul_4_200 ⟨rfl, rfl⟩ rfl ?_
    refine e_iconst (pc := 21) dX9_force_21 ⟨by decide, by decide⟩ ?_
    refine e_iald (q := 70) (x := (h21 70 0)) (pc := 22) dX9_force_22 rfl ⟨by decide, by decide⟩ rfl ?_
    refine e_iast (q := 70) (pc := 23) dX9_force_23 rfl ⟨by decide, by decide⟩ ?_
    refine e_iconst (pc := 24) dX9_force_24 ⟨by decide, by decide⟩ ?_
    refine e_istore_n (lv' := [some (vR 55), some (vI 0)]) (pc := 25) dX9_force_25 rfl rfl rfl ?_
    obtain ⟨m, H⟩ := H
    exact L1 m _ _ H
  · have H := H.2 c1
    refine e_bipush (pc := 9) dX9_force_9 ⟨by decide, by decide⟩ (by decide) ?_
    exact e_ret (pc := 11) (v := some (vI (-2))) dX9_force_11 rfl trivial ⟨_, rfl, H⟩
set_option maxRecDepth 100000 in
set_option maxHeartbeats 4000000 in
theorem c_X9_force (w : WD)  (h : HP) (K : Int → HP → Prop)  (H : S_X9_force  h K) : Ev w Y_X9_force 0 [some (vR 55), none] [] h (rI K) := by
  obtain ⟨ht, HN, HK⟩ := H
  obtain ⟨t1, t2, t3⟩ := id ht
  refine v_X9_force w h K (fun n x1 g => ∃ m : Nat, (0 ≤ x1 ∧ x1 ≤ 240) ∧ n = (240 - x1).toNat ∧ (∀ q, q ≠ 55 → q ≠ 70 → q ≠ 71 → q ≠ 81 → g q = h q) ∧ (∀ i : Int, i ≠ 39 → g 55 i = h 55 i) ∧ okT (h 69) (h 55 16) m ∧ g 70 1 = (m : Int) ∧ itM (h 69) (h 55 16) m g 0 ∧ ∀ i : Int, 0 ≤ i → i < x1 → g 71 (240 + i) = g 71 i) ⟨ht, fun r h1 e1 e2 e3 e4 hr hm => ⟨fun c => ?_, fun c => HN h1 r e1 e2 e3 e4 hr c⟩⟩ ?_
  · obtain ⟨m, a, b, d⟩ := hm c
    exact ⟨240, m, by omega, rfl, fun q z1 z2 z3 z4 => by rw [sth_ne z2]; exact e1 q z1 z2 z3 z4, fun i z => by rw [sth_ne (by decide)]; exact e2 i z, a, by rw [sth_eq, us_s]; exact b, fun k z => by rw [sth_ne (by decide)]; exact d k z, fun i z1 z2 => by omega⟩
  · rintro n x1 g ⟨m, h0, rfl, f1, f2, hm, hm1, hit, hc⟩
    have h40 := okT_40 hm t2
    refine ⟨fun c => ?_, fun c => ⟨⟨by omega, by omega⟩, by omega, by omega, ⟨by omega, by omega⟩, (240 - (x1 + 1)).toNat, by omega, m, by omega, rfl, fun q z1 z2 z3 z4 => by rw [sth_ne z3]; exact f1 q z1 z2 z3 z4, fun i z => by rw [sth_ne (by decide)]; exact f2 i z, hm, by rw [sth_ne (by decide)]; exact hm1, fun k z => ?_, fun i z1 z2 => ?_⟩⟩
    · rw [hm1]
      refine HK g m f1 f2 hm hm1 (fun k z => ?_)
      have hb := nW_b (h 69 (ps (h 69) (h 55 16) k))
      have hk := hit k z
      rw [Int.zero_add] at hk
      refine ⟨by rw [hc _ (by omega) (by omega)]; exact hk.1, fun j hj => ?_⟩
      rw [show 240 + 6 * (k : Int) + 1 + (j : Int) = 240 + (6 * (k : Int) + 1 + (j : Int)) by omega, hc _ (by omega) (by omega)]
      exact hk.2 j hj
    · rw [sth_eq]
      have hb := nW_b (h 69 (ps (h 69) (h 55 16) k))
      have hk := hit k z
      exact ⟨by rw [us_n (by omega)]; exact hk.1, fun j hj => by rw [us_n (by omega)]; exact hk.2 j hj⟩
    · rw [sth_eq]
      by_cases e : i = x1
      · subst e; rw [us_s, us_n (by omega)]
      · rw [us_n (by omega), us_n (by omega)]; exact hc i z1 (by omega)
theorem byt_m (v : Int) {k : Int} (h0 : 0 ≤ k) (h1 : k < 8) : j2i (jand (jshr v (8 * k)) 255) = byt v k := by
  obtain ⟨n, rfl⟩ : ∃ n : Nat, k = (n : Int) := ⟨k.toNat, by omega⟩
  have hn : 8 * n < 64 := by omega
  unfold byt j2i jand jshr jushr iand
  rw [l_of, l_of, l_of, i_of]
  congr 1
  have e8 : Int32.ofInt (8 * (n : Int)) = nI (8 * n) := by
    rw [show (8 * (n : Int)) = ((8 * n : Nat) : Int) by omega, i_nat (by omega)]
  rw [e8, nl_c _ hn, nl_cu _ hn]
  generalize Int64.ofInt v = V
  apply Int32.toBitVec_inj.mp
  apply BitVec.eq_of_getLsbD_eq
  intro i hi
  have c255 : ∀ i : Nat, (255#64).getLsbD i = decide (i < 8) := by
    intro i
    rw [BitVec.getLsbD_ofNat, show (255 : Nat) = 2 ^ 8 - 1 from rfl, Nat.testBit_two_pow_sub_one]
    by_cases h : i < 8
    · simp [h]; omega
    · simp [h]
  have c255' : ∀ i : Nat, (255#32).getLsbD i = decide (i < 8) := by
    intro i
    rw [BitVec.getLsbD_ofNat, show (255 : Nat) = 2 ^ 8 - 1 from rfl, Nat.testBit_two_pow_sub_one]
    by_cases h : i < 8
    · simp [h]; omega
    · simp [h]
  have L : ((V >>> lN (8 * n)) &&& Int64.ofInt 255).toInt32.toBitVec.getLsbD i = (decide (i < 8) && V.toBitVec.getLsbD (8 * n + i)) := by
    rw [Int64.toBitVec_toInt32, BitVec.getLsbD_signExtend, Int64.toBitVec_and, BitVec.getLsbD_and, Int64.toBitVec_shiftRight]
    show (decide (i < 32) && if i < 64 then (V.toBitVec.sshiftRight ((BitVec.ofNat 64 (8 * n)).smod 64).toNat).getLsbD i && (255#64).getLsbD i else _) = _
    rw [nl_sm _ hn, BitVec.toNat_ofNat, Nat.mod_eq_of_lt (by omega), BitVec.getLsbD_sshiftRight, c255, if_pos (by omega)]
    by_cases h8 : i < 8
    · have : 8 * n + i < 64 := by omega
      simp [h8, hi, this]
      omega
    · simp [h8]
  have Rr : ((V.toUInt64 >>> UInt64.ofNat (8 * n)).toInt64.toInt32 &&& Int32.ofInt 255).toBitVec.getLsbD i = (decide (i < 8) && V.toBitVec.getLsbD (8 * n + i)) := by
    rw [Int32.toBitVec_and, BitVec.getLsbD_and, Int64.toBitVec_toInt32, BitVec.getLsbD_signExtend]
    show ((decide (i < 32) && if i < 64 then ((V.toUInt64 >>> UInt64.ofNat (8 * n)).toBitVec).getLsbD i else _) && (255#32).getLsbD i) = _
    rw [UInt64.toBitVec_shiftRight, c255', if_pos (by omega)]
    show ((decide (i < 32) && (V.toBitVec >>> (BitVec.ofNat 64 (8 * n) % 64#64)).getLsbD i) && decide (i < 8)) = _
    have e : (BitVec.ofNat 64 (8 * n) % 64#64) = BitVec.ofNat 64 (8 * n) := by
      apply BitVec.eq_of_toNat_eq
      rw [BitVec.toNat_umod, BitVec.toNat_ofNat, BitVec.toNat_ofNat, Nat.mod_eq_of_lt (show 8 * n < 2 ^ 64 by omega)]
      exact Nat.mod_eq_of_lt hn
    rw [e, BitVec.ushiftRight_eq', BitVec.toNat_ofNat, Nat.mod_eq_of_lt (show 8 * n < 2 ^ 64 by omega), BitVec.getLsbD_ushiftRight]
    by_cases h8 : i < 8
    · simp [h8, hi]
    · simp [h8]
  rw [L, Rr]
def S_X9_write (a1 a2 : Int) (h : HP) (K : Int → HP → Prop) : Prop := (¬ (1 ≤ a1 ∧ a1 ≤ 8) → K (-1) h) ∧ ((1 ≤ a1 ∧ a1 ≤ 8) → mtOK h ∧ (200 < h 55 16 + a1 → K (-3) h) ∧ (h 55 16 + a1 ≤ 200 → ∀ h' : HP, (∀ q, q ≠ 69 → q ≠ 55 → h' q = h q) → (∀ i : Int, i ≠ 16 → h' 55 i = h 55 i) → h' 55 16 = h 55 16 + a1 → (h' 69 = fun j => if h 55 16 ≤ j ∧ j < h 55 16 + a1 then byt a2 (h 55 16 + a1 - 1 - j) else h 69 j) → K (h 55 16 + a1) h'))
set_option maxRecDepth 100000 in
set_option maxHeartbeats 4000000 in
theorem v_X9_write (w : WD) (a1 : Int) (a2 : Int) (h : HP) (K : Int → HP → Prop) 
    (I1 : Nat → Int → HP → Prop)
    (H : (((1 ≤ a1 ∧ a1 ≤ 8) → ((iR ((h 55 16) + a1)) ∧ ((((h 55 16) + a1) ≤ 200 → ((iR (a1 - 1)) ∧ (∃ m : Nat, I1 m (a1 - 1) h))) ∧ (¬ ((h 55 16) + a1) ≤ 200 → K (-3) h)))) ∧ (¬ (1 ≤ a1 ∧ a1 ≤ 8) → K (-1) h)))
    (H1 : ∀ (n1 : Nat) (x4 : Int) (g1 : HP), I1 n1 x4 g1 → ((x4 < 0 → K (g1 55 16) g1) ∧ (¬ x4 < 0 → ((iR (8 * x4)) ∧ ((0 ≤ (g1 55 16) ∧ (g1 55 16) < 200) ∧ ((iR ((g1 55 16) + 1)) ∧ ((iR (x4 + (-1))) ∧ (∃ m : Nat, m < n1 ∧ I1 m (x4 + (-1)) (sth (sth g1 69 (g1 55 16) (j2i (jand (jshr a2 (8 * x4)) 255))) 55 16 ((g1 55 16) + 1)))))))))) :
    Ev w Y_X9_write 0 [some (vR 55), some (vI a1), some (vL a2), none, none] [] h (rI K) := by
  have L1 : ∀ (n1 : Nat) (x4 : Int) (g1 : HP), I1 n1 x4 g1 → Ev w Y_X9_write 34 [some (vR 55), none, some (vL a2), none, some (vI x4)] [] g1 (rI K) := by
    intro n1
    induction n1 using Nat.strongRecOn with
    | ind n1 ih1 =>
      intro x4 g1 H
      have H := H1 n1 x4 g1 H
      refine e_iload (pc := 34) dX9_write_34 rfl ?_
      refine e_if_lt (pc := 36) (tgt := 76) dX9_write_36 (by decide) (fun c3 => ?_) (fun c3 => ?_)
      · have H := H.1 c3
        refine e_aload_n (pc := 76) dX9_write_76 rfl rfl ?_
        refine e_getI (q := 55) (ci := 9) (k := 16) (kz := 16) (C := RX9) (T := TX9) (N := 52) (x := (g1 55 16)) (pc := 77) dX9_write_77 rfl rfl rfl ev_in9 rfl ul_4_198 ⟨rfl, by decide⟩ rfl ?_
        exact e_ret (pc := 80) (v := some (vI (g1 55 16))) dX9_write_80 rfl trivial ⟨_, rfl, H⟩
      · have H := H.2 c3
        refine e_aload_n (pc := 39) dX9_write_39 rfl rfl ?_
        refine e_getR (q := 55) (ci := 9) (k := 17) (y := 69) (C := RX9) (T := TX9) (N := 52) (pc := 40) dX9_write_40 rfl rfl ev_in9 rfl ul_4_199 ⟨rfl, rfl⟩ rfl ?_
        refine e_aload_n (pc := 43) dX9_write_43 rfl rfl ?_
        refine e_getI (q := 55) (ci := 9) (k := 16) (kz := 16) (C := RX9) (T := TX9) (N := 52) (x := (g1 55 16)) (pc := 44) dX9_write_44 rfl rfl rfl ev_in9 rfl ul_4_198 ⟨rfl, by decide⟩ rfl ?_
        refine e_lload_n (pc := 47) dX9_write_47 rfl rfl ?_
        refine e_bipush (pc := 48) dX9_write_48 ⟨by decide, by decide⟩ (by decide) ?_
        refine e_iload (pc := 50) dX9_write_50 rfl ?_
        refine e_imul (pc := 52) dX9_write_52 H.1 ?_
        have H := H.2
        refine e_lshr (pc := 53) dX9_write_53 ?_
        refine e_ldc2 (x := 255) (pc := 54) dX9_write_54 ul_5_145 ⟨by decide, by decide⟩ ?_
        refine e_land (pc := 57) dX9_write_57 ?_
        refine e_l2i (pc := 58) dX9_write_58 ?_
        refine e_iast (q := 69) (pc := 59) dX9_write_59 rfl H.1 ?_
        have H := H.2
        refine e_aload_n (pc := 60) dX9_write_60 rfl rfl ?_
        refine e_dup (pc := 61) dX9_write_61 rfl ?_
        refine e_getI (q := 55) (ci := 9) (k := 16) (kz := 16) (C := RX9) (T := TX9) (N := 52) (x := (g1 55 16)) (pc := 62) dX9_write_62 rfl rfl rfl ev_in9 rfl ul_4_198 ⟨rfl, by decide⟩ rfl ?_
        refine e_iconst (pc := 65) dX9_write_65 ⟨by decide, by decide⟩ ?_
        refine e_iadd (pc := 66) dX9_write_66 H.1 ?_
        have H := H.2
        refine e_put (q := 55) (ci := 9) (k := 16) (kz := 16) (C := RX9) (T := TX9) (N := 52) (ty := .int) (pc := 67) dX9_write_67 rfl rfl rfl ev_in9 tyX9 tyX9_ok nmX9 rfl ul_4_198 ⟨rfl, by decide⟩ rfl (tyX9_ok 16 (by decide)) (Or.inl rfl) ?_
        refine e_iinc (lv' := [some (vR 55), none, some (vL a2), none, some (vI (x4 + (-1)))]) (pc := 70) dX9_write_70 rfl H.1 rfl rfl ?_
        have H := H.2
        refine e_goto (pc := 73) (tgt := 34) dX9_write_73 (by decide) ?_
        obtain ⟨m, hm, H⟩ := H
        exact ih1 m hm _ _ H
  refine e_iload_n (pc := 0) dX9_write_0 rfl rfl ?_
  refine e_i2l (pc := 1) dX9_write_1 ?_
  refine e_lconst (x := 1) (pc := 2) dX9_write_2 ⟨by decide, by decide⟩ (by decide) ?_
  refine e_ldc2 (x := 8) (pc := 3) dX9_write_3 ul_5_144 ⟨by decide, by decide⟩ ?_
  refine e_invS (pc := 6) (Y' := Y_X9_in) (as := [vL a1, vL 1, vL 8]) (st := []) (lv0 := [some (vL a1), none, some (vL 1), none, some (vL 8), none]) dX9_write_6 m_X9_in ul_5_104 ul_5_105 ⟨rfl, rfl⟩ rfl rfl rfl rfl rfl (c_X9_in w a1 1 8 h) ?_
  rintro _ hz ⟨_, rfl, rfl, hh⟩
  rw [hh]
  show Ev w Y_X9_write 9 [some (vR 55), some (vI a1), some (vL a2), none, none] [vI (b2i (1 ≤ a1 ∧ a1 ≤ 8))] h (rI K)
  refine e_ifb_ne (pc := 9) (tgt := 14) dX9_write_9 (by decide) (fun c1 => ?_) (fun c1 => ?_)
  · have H := H.1 c1
    refine e_aload_n (pc := 14) dX9_write_14 rfl rfl ?_
    refine e_getI (q := 55) (ci := 9) (k := 16) (kz := 16) (C := RX9) (T := TX9) (N := 52) (x := (h 55 16)) (pc := 15) dX9_write_15 rfl rfl rfl ev_in9 rfl ul_4_198 ⟨rfl, by decide⟩ rfl ?_
    refine e_iload_n (pc := 18) dX9_write_18 rfl rfl ?_
    refine e_iadd (pc := 19) dX9_write_19 H.1 ?_
    have H := H.2
    refine e_sipush (pc := 20) dX9_write_20 ⟨by decide, by decide⟩ (by decide) ?_
    refine e_icmp_le (pc := 23) (tgt := 29) dX9_write_23 (by decide) (fun c2 => ?_) (fun c2 => ?_)
    · have H := H.1 c2
      refine e_iload_n (pc := 29) dX9_write_29 rfl rfl ?_
      refine e_iconst (pc := 30) dX9_write_30 ⟨by decide, by decide⟩ ?_
      refine e_isub (pc := 31) dX9_write_31 H.1 ?_
      have H := H.2
      refine e_istore (lv' := [some (vR 55), some (vI a1), some (vL a2), none, some (vI (a1 - 1))]) (pc := 32) dX9_write_32 rfl rfl ?_
      refine e_mask [true, false, true, false, true] rfl ?_
      obtain ⟨m, H⟩ := H
      exact L1 m _ _ H
    · have H := H.2 c2
      refine e_bipush (pc := 26) dX9_write_26 ⟨by decide, by decide⟩ (by decide) ?_
      exact e_ret (pc := 28) (v := some (vI (-3))) dX9_write_28 rfl trivial ⟨_, rfl, H⟩
  · have H := H.2 c1
    refine e_iconst (pc := 12) dX9_write_12 ⟨by decide, by decide⟩ ?_
    exact e_ret (pc := 13) (v := some (vI (-1))) dX9_write_13 rfl trivial ⟨_, rfl, H⟩
set_option maxRecDepth 100000 in
set_option maxHeartbeats 4000000 in
theorem c_X9_write (w : WD) (a1 : Int) (a2 : Int) (h : HP) (K : Int → HP → Prop)  (H : S_X9_write a1 a2 h K) : Ev w Y_X9_write 0 [some (vR 55), some (vI a1), some (vL a2), none, none] [] h (rI K) := by
  obtain ⟨HB, HK⟩ := H
  refine v_X9_write w a1 a2 h K (fun m x4 g => (1 ≤ a1 ∧ a1 ≤ 8) ∧ (-1 ≤ x4 ∧ x4 < a1) ∧ m = (x4 + 1).toNat ∧ h 55 16 + a1 ≤ 200 ∧ (∀ q, q ≠ 69 → q ≠ 55 → g q = h q) ∧ (∀ i : Int, i ≠ 16 → g 55 i = h 55 i) ∧ g 55 16 = h 55 16 + a1 - 1 - x4 ∧ (g 69 = fun j => if h 55 16 ≤ j ∧ j < h 55 16 + a1 - 1 - x4 then byt a2 (h 55 16 + a1 - 1 - j) else h 69 j)) ⟨fun c0 => ?_, HB⟩ ?_
  · obtain ⟨ht, HF, HK⟩ := HK c0
    obtain ⟨t1, t2, t3⟩ := id ht
    refine ⟨⟨by omega, by omega⟩, fun c => ⟨⟨by omega, by omega⟩, a1.toNat, c0, by omega, by omega, c, fun _ _ _ => rfl, fun _ _ => rfl, by omega, ?_⟩, fun c => HF (by omega)⟩
    funext j
    rw [if_neg (by omega)]
  · rintro m x4 g ⟨c0, h0, rfl, hc, hg, hg2, hg5, hgt⟩
    obtain ⟨ht, HF, HK⟩ := HK c0
    obtain ⟨t1, t2, t3⟩ := id ht
    refine ⟨fun c => ?_, fun c => ?_⟩
    · have e : x4 = -1 := by omega
      subst e
      rw [hg5, show h 55 16 + a1 - 1 - -1 = h 55 16 + a1 by omega]
      refine HK hc g hg hg2 (by rw [hg5]; omega) ?_
      rw [hgt]
      funext j
      rw [show h 55 16 + a1 - 1 - -1 = h 55 16 + a1 by omega]
    · rw [hg5]
      refine ⟨⟨by omega, by omega⟩, by omega, ⟨by omega, by omega⟩, ⟨by omega, by omega⟩, (x4 + -1 + 1).toNat, by omega, c0, by omega, rfl, hc, fun q z1 z2 => by rw [sth_ne z2, sth_ne z1]; exact hg q z1 z2, fun i z => by rw [sth_eq, us_n z, sth_ne (by decide)]; exact hg2 i z, by rw [sth_eq, us_s]; omega, ?_⟩
      rw [sth_ne (by decide), sth_eq, hgt]
      funext j
      unfold us
      by_cases e : j = h 55 16 + a1 - 1 - x4
      · rw [if_pos e, if_pos (by omega), show h 55 16 + a1 - 1 - j = x4 by omega]
        exact byt_m a2 (by omega) (by omega)
      · rw [if_neg e]
        show (if h 55 16 ≤ j ∧ j < h 55 16 + a1 - 1 - x4 then byt a2 (h 55 16 + a1 - 1 - j) else h 69 j) = _
        by_cases e2 : h 55 16 ≤ j ∧ j < h 55 16 + a1 - 1 - x4
        · rw [if_pos e2, if_pos (by omega)]
        · rw [if_neg e2, if_neg (by omega)]
def S_X9_wipe  (h : HP) (K : Int → HP → Prop) : Prop :=
  K (h 55 16) (sth h 55 16 0)
set_option maxRecDepth 100000 in
set_option maxHeartbeats 4000000 in
theorem v_X9_wipe (w : WD)  (h : HP) (K : Int → HP → Prop) 
    (H : K (h 55 16) (sth h 55 16 0)) :
    Ev w Y_X9_wipe 0 [some (vR 55), none] [] h (rI K) := by
  refine e_aload_n (pc := 0) dX9_wipe_0 rfl rfl ?_
  refine e_getI (q := 55) (ci := 9) (k := 16) (kz := 16) (C := RX9) (T := TX9) (N := 52) (x := (h 55 16)) (pc := 1) dX9_wipe_1 rfl rfl rfl ev_in9 rfl ul_4_198 ⟨rfl, by decide⟩ rfl ?_
  refine e_istore_n (lv' := [some (vR 55), some (vI (h 55 16))]) (pc := 4) dX9_wipe_4 rfl rfl rfl ?_
  refine e_aload_n (pc := 5) dX9_wipe_5 rfl rfl ?_
  refine e_iconst (pc := 6) dX9_wipe_6 ⟨by decide, by decide⟩ ?_
  refine e_put (q := 55) (ci := 9) (k := 16) (kz := 16) (C := RX9) (T := TX9) (N := 52) (ty := .int) (pc := 7) dX9_wipe_7 rfl rfl rfl ev_in9 tyX9 tyX9_ok nmX9 rfl ul_4_198 ⟨rfl, by decide⟩ rfl (tyX9_ok 16 (by decide)) (Or.inl rfl) ?_
  refine e_iload_n (pc := 10) dX9_wipe_10 rfl rfl ?_
  exact e_ret (pc := 11) (v := some (vI (h 55 16))) dX9_wipe_11 rfl trivial ⟨_, rfl, H⟩
theorem c_X9_wipe (w : WD)  (h : HP) (K : Int → HP → Prop)  (H : S_X9_wipe  h K) : Ev w Y_X9_wipe 0 [some (vR 55), none] [] h (rI K) := v_X9_wipe w  h K  H
def mHOK (h : HP) : Prop := (0 ≤ h 55 0 ∧ h 55 0 ≤ 10) ∧ (∀ t : Int, 0 ≤ t → t < 10 → (0 ≤ h 56 t ∧ h 56 t ≤ 4) ∧ (0 ≤ h 57 t ∧ h 57 t ≤ 3) ∧ (0 ≤ h 58 t ∧ h 58 t ≤ 100) ∧ (0 ≤ h 60 t ∧ h 60 t ≤ 3)) ∧ (∀ t : Int, h 55 0 ≤ t → t < 10 → h 60 t = 0) ∧ (∀ f : Int, 0 ≤ f → f < 6 → -1 ≤ h 62 f ∧ h 62 f ≤ 4)
def mfOK (h : HP) : Prop := (0 ≤ h 70 1 ∧ h 70 1 ≤ 40) ∧ ∀ k : Int, 0 ≤ k → k < h 70 1 → iOK (h 71 (240 + 6 * k)) (h 71 (240 + 6 * k + 1)) (h 71 (240 + 6 * k + 2)) (h 71 (240 + 6 * k + 3)) (h 71 (240 + 6 * k + 4)) (h 71 (240 + 6 * k + 5))
def mLet (h : HP) (k fo t hr : Int) : Prop := h 71 (240 + 6 * k) = 114 ∧ h 71 (240 + 6 * k + 1) = fo ∧ (h 71 (240 + 6 * k + 2) = 4 ∨ h 71 (240 + 6 * k + 2) = h 57 t) ∧ (h 71 (240 + 6 * k + 3) = 5 ∨ h 71 (240 + 6 * k + 3) = h 56 t) ∧ h 71 (240 + 6 * k + 4) ≤ hr ∧ hr ≤ h 71 (240 + 6 * k + 5)
def mBar (h : HP) (k : Int) : Prop := iBar (h 71 (240 + 6 * k)) (h 71 (240 + 6 * k + 1)) (h 71 (240 + 6 * k + 2)) (h 71 (240 + 6 * k + 3)) (h 71 (240 + 6 * k + 4)) (h 60) (fun t => ∀ f : Int, 0 ≤ f → f < 6 → ¬ h 62 f = h 56 t)
set_option maxRecDepth 100000 in
set_option maxHeartbeats 4000000 in
theorem v_X9_mayTurn (w : WD) (fo : Int) (t : Int) (hr : Int) (h : HP) (K : Int → HP → Prop) 
    (I1 : Nat → Int → Int → HP → Prop)
    (H : (∃ m : Nat, I1 m 0 0 h))
    (H1 : ∀ (n1 : Nat) (x4 : Int) (x5 : Int) (g1 : HP), I1 n1 x4 x5 g1 → (((g1 70 1) ≤ x5 → ((x4 = 0 ∨ x4 = 1) ∧ K x4 g1)) ∧ (¬ (g1 70 1) ≤ x5 → ((iR (6 * x5)) ∧ ((iR (240 + (6 * x5))) ∧ ((0 ≤ (240 + (6 * x5)) ∧ (240 + (6 * x5)) < 480) ∧ ((((¬ (g1 71 (240 + (6 * x5))) = 114 → True) ∧ ((g1 71 (240 + (6 * x5))) = 114 → ((iR ((240 + (6 * x5)) + 1)) ∧ ((0 ≤ ((240 + (6 * x5)) + 1) ∧ ((240 + (6 * x5)) + 1) < 480) ∧ ((¬ (g1 71 ((240 + (6 * x5)) + 1)) = fo → True) ∧ ((g1 71 ((240 + (6 * x5)) + 1)) = fo → ((iR ((240 + (6 * x5)) + 2)) ∧ ((0 ≤ ((240 + (6 * x5)) + 2) ∧ ((240 + (6 * x5)) + 2) < 480) ∧ (((g1 71 ((240 + (6 * x5)) + 2)) = 4 → True) ∧ (¬ (g1 71 ((240 + (6 * x5)) + 2)) = 4 → ((iR ((240 + (6 * x5)) + 2)) ∧ ((0 ≤ ((240 + (6 * x5)) + 2) ∧ ((240 + (6 * x5)) + 2) < 480) ∧ ((0 ≤ t ∧ t < 10) ∧ True)))))))))))))) ∧ ((¬ x4 = 0 → ((iR (x5 + 1)) ∧ (∃ m : Nat, m < n1 ∧ I1 m 1 (x5 + 1) g1))) ∧ (x4 = 0 → ((((¬ (((g1 71 (240 + (6 * x5))) = 114) ∧ (((g1 71 ((240 + (6 * x5)) + 1)) = fo) ∧ (((g1 71 ((240 + (6 * x5)) + 2)) = 4) ∨ ((g1 71 ((240 + (6 * x5)) + 2)) = (g1 57 t))))) → True) ∧ ((((g1 71 (240 + (6 * x5))) = 114) ∧ (((g1 71 ((240 + (6 * x5)) + 1)) = fo) ∧ (((g1 71 ((240 + (6 * x5)) + 2)) = 4) ∨ ((g1 71 ((240 + (6 * x5)) + 2)) = (g1 57 t))))) → ((iR ((240 + (6 * x5)) + 3)) ∧ ((0 ≤ ((240 + (6 * x5)) + 3) ∧ ((240 + (6 * x5)) + 3) < 480) ∧ (((g1 71 ((240 + (6 * x5)) + 3)) = 5 → ((iR ((240 + (6 * x5)) + 4)) ∧ ((0 ≤ ((240 + (6 * x5)) + 4) ∧ ((240 + (6 * x5)) + 4) < 480) ∧ ((iR ((240 + (6 * x5)) + 5)) ∧ ((0 ≤ ((240 + (6 * x5)) + 5) ∧ ((240 + (6 * x5)) + 5) < 480) ∧ True))))) ∧ (¬ (g1 71 ((240 + (6 * x5)) + 3)) = 5 → ((iR ((240 + (6 * x5)) + 3)) ∧ ((0 ≤ ((240 + (6 * x5)) + 3) ∧ ((240 + (6 * x5)) + 3) < 480) ∧ ((0 ≤ t ∧ t < 10) ∧ ((¬ (g1 71 ((240 + (6 * x5)) + 3)) = (g1 56 t) → True) ∧ ((g1 71 ((240 + (6 * x5)) + 3)) = (g1 56 t) → ((iR ((240 + (6 * x5)) + 4)) ∧ ((0 ≤ ((240 + (6 * x5)) + 4) ∧ ((240 + (6 * x5)) + 4) < 480) ∧ ((iR ((240 + (6 * x5)) + 5)) ∧ ((0 ≤ ((240 + (6 * x5)) + 5) ∧ ((240 + (6 * x5)) + 5) < 480) ∧ True)))))))))))))))) ∧ ((iR (x5 + 1)) ∧ (∃ m : Nat, m < n1 ∧ I1 m (b2i (((((g1 71 (240 + (6 * x5))) = 114) ∧ (((g1 71 ((240 + (6 * x5)) + 1)) = fo) ∧ (((g1 71 ((240 + (6 * x5)) + 2)) = 4) ∨ ((g1 71 ((240 + (6 * x5)) + 2)) = (g1 57 t)))))) ∧ ((((g1 71 ((240 + (6 * x5)) + 3)) = 5) ∧ (((g1 71 ((240 + (6 * x5)) + 4)) ≤ hr ∧ hr ≤ (g1 71 ((240 + (6 * x5)) + 5))))) ∨ ((¬ (g1 71 ((240 + (6 * x5)) + 3)) = 5) ∧ (((g1 71 ((240 + (6 * x5)) + 3)) = (g1 56 t)) ∧ (((g1 71 ((240 + (6 * x5)) + 4)) ≤ hr ∧ hr ≤ (g1 71 ((240 + (6 * x5)) + 5))))))))) (x5 + 1) g1)))))))))))) :
    Ev w Y_X9_mayTurn 0 [some (vR 55), some (vI fo), some (vI t), some (vI hr), none, none, none, none] [] h (rI K) := by
  have L1 : ∀ (n1 : Nat) (x4 : Int) (x5 : Int) (g1 : HP), I1 n1 x4 x5 g1 → Ev w Y_X9_mayTurn 6 [some (vR 55), some (vI fo), some (vI t), some (vI hr), some (vI x4), some (vI x5), none, none] [] g1 (rI K) := by
    intro n1
    induction n1 using Nat.strongRecOn with
    | ind n1 ih1 =>
      intro x4 x5 g1 H
      have H := H1 n1 x4 x5 g1 H
      refine e_iload (pc := 6) dX9_mayTurn_6 rfl ?_
      refine e_aload_n (pc := 8) dX9_mayTurn_8 rfl rfl ?_
      refine e_getR (q := 55) (ci := 9) (k := 18) (y := 70) (C := RX9) (T := TX9) (N := 52) (pc := 9) dX9_mayTurn_9 rfl rfl ev_in9 rfl ul_4_200 ⟨rfl, rfl⟩ rfl ?_
      refine e_iconst (pc := 12) dX9_mayTurn_12 ⟨by decide, by decide⟩ ?_
      refine e_iald (q := 70) (x := (g1 70 1)) (pc := 13) dX9_mayTurn_13 rfl ⟨by decide, by decide⟩ rfl ?_
      refine e_icmp_ge (pc := 14) (tgt := 173) dX9_mayTurn_14 (by decide) (fun c1 => ?_) (fun c1 => ?_)
      · have H := H.1 c1
        refine e_iload (pc := 173) dX9_mayTurn_173 rfl ?_
        exact e_ret (pc := 175) (v := some (vI x4)) dX9_mayTurn_175 rfl H.1 ⟨_, rfl, H.2⟩
      · have H := H.2 c1
        refine e_sipush (pc := 17) dX9_mayTurn_17 ⟨by decide, by decide⟩ (by decide) ?_
        refine e_bipush (pc := 20) dX9_mayTurn_20 ⟨by decide, by decide⟩ (by decide) ?_
        refine e_iload (pc := 22) dX9_mayTurn_22 rfl ?_
        refine e_imul (pc := 24) dX9_mayTurn_24 H.1 ?_
        have H := H.2
        refine e_iadd (pc := 25) dX9_mayTurn_25 H.1 ?_
        have H := H.2
        refine e_istore (lv' := [some (vR 55), some (vI fo), some (vI t), some (vI hr), some (vI x4), some (vI x5), some (vI (240 + (6 * x5))), none]) (pc := 26) dX9_mayTurn_26 rfl rfl ?_
        refine e_aload_n (pc := 28) dX9_mayTurn_28 rfl rfl ?_
        refine e_getR (q := 55) (ci := 9) (k := 19) (y := 71) (C := RX9) (T := TX9) (N := 52) (pc := 29) dX9_mayTurn_29 rfl rfl ev_in9 rfl ul_4_201 ⟨rfl, rfl⟩ rfl ?_
        refine e_iload (pc := 32) dX9_mayTurn_32 rfl ?_
        refine e_iald (q := 71) (x := (g1 71 (240 + (6 * x5)))) (pc := 34) dX9_mayTurn_34 rfl H.1 rfl ?_
        have H := H.2
        refine e_bipush (pc := 35) dX9_mayTurn_35 ⟨by decide, by decide⟩ (by decide) ?_
        have J : Ev w Y_X9_mayTurn 89 [some (vR 55), some (vI fo), some (vI t), some (vI hr), some (vI x4), some (vI x5), some (vI (240 + (6 * x5))), none] [vI (b2i (((g1 71 (240 + (6 * x5))) = 114) ∧ (((g1 71 ((240 + (6 * x5)) + 1)) = fo) ∧ (((g1 71 ((240 + (6 * x5)) + 2)) = 4) ∨ ((g1 71 ((240 + (6 * x5)) + 2)) = (g1 57 t))))))] g1 (rI K) := by
          have H := H.2
          refine e_istore (lv' := [some (vR 55), some (vI fo), some (vI t), some (vI hr), some (vI x4), some (vI x5), some (vI (240 + (6 * x5))), some (vI (b2i (((g1 71 (240 + (6 * x5))) = 114) ∧ (((g1 71 ((240 + (6 * x5)) + 1)) = fo) ∧ (((g1 71 ((240 + (6 * x5)) + 2)) = 4) ∨ ((g1 71 ((240 + (6 * x5)) + 2)) = (g1 57 t)))))))]) (pc := 89) dX9_mayTurn_89 rfl rfl ?_
          refine e_iload (pc := 91) dX9_mayTurn_91 rfl ?_
          refine e_if_ne (pc := 93) (tgt := 160) dX9_mayTurn_93 (by decide) (fun c2 => ?_) (fun c2 => ?_)
          · have H := H.1 c2
            refine e_iconst (pc := 160) dX9_mayTurn_160 ⟨by decide, by decide⟩ ?_
            refine e_goto (pc := 161) (tgt := 165) dX9_mayTurn_161 (by decide) ?_
            refine e_istore (lv' := [some (vR 55), some (vI fo), some (vI t), some (vI hr), some (vI 1), some (vI x5), some (vI (240 + (6 * x5))), some (vI (b2i (((g1 71 (240 + (6 * x5))) = 114) ∧ (((g1 71 ((240 + (6 * x5)) + 1)) = fo) ∧ (((g1 71 ((240 + (6 * x5)) + 2)) = 4) ∨ ((g1 71 ((240 + (6 * x5)) + 2)) = (g1 57 t)))))))]) (pc := 165) dX9_mayTurn_165 rfl rfl ?_
            refine e_iinc (lv' := [some (vR 55), some (vI fo), some (vI t), some (vI hr), some (vI 1), some (vI (x5 + 1)), some (vI (240 + (6 * x5))), some (vI (b2i (((g1 71 (240 + (6 * x5))) = 114) ∧ (((g1 71 ((240 + (6 * x5)) + 1)) = fo) ∧ (((g1 71 ((240 + (6 * x5)) + 2)) = 4) ∨ ((g1 71 ((240 + (6 * x5)) + 2)) = (g1 57 t)))))))]) (pc := 167) dX9_mayTurn_167 rfl H.1 rfl rfl ?_
            have H := H.2
            refine e_goto (pc := 170) (tgt := 6) dX9_mayTurn_170 (by decide) ?_
            refine e_mask [true, true, true, true, true, true, false, false] rfl ?_
            obtain ⟨m, hm, H⟩ := H
            exact ih1 m hm _ _ _ H
          · have H := H.2 c2
            refine e_iload (pc := 96) dX9_mayTurn_96 rfl ?_
            have J : Ev w Y_X9_mayTurn 165 [some (vR 55), some (vI fo), some (vI t), some (vI hr), some (vI x4), some (vI x5), some (vI (240 + (6 * x5))), some (vI (b2i (((g1 71 (240 + (6 * x5))) = 114) ∧ (((g1 71 ((240 + (6 * x5)) + 1)) = fo) ∧ (((g1 71 ((240 + (6 * x5)) + 2)) = 4) ∨ ((g1 71 ((240 + (6 * x5)) + 2)) = (g1 57 t)))))))] [vI (b2i (((((g1 71 (240 + (6 * x5))) = 114) ∧ (((g1 71 ((240 + (6 * x5)) + 1)) = fo) ∧ (((g1 71 ((240 + (6 * x5)) + 2)) = 4) ∨ ((g1 71 ((240 + (6 * x5)) + 2)) = (g1 57 t)))))) ∧ ((((g1 71 ((240 + (6 * x5)) + 3)) = 5) ∧ (((g1 71 ((240 + (6 * x5)) + 4)) ≤ hr ∧ hr ≤ (g1 71 ((240 + (6 * x5)) + 5))))) ∨ ((¬ (g1 71 ((240 + (6 * x5)) + 3)) = 5) ∧ (((g1 71 ((240 + (6 * x5)) + 3)) = (g1 56 t)) ∧ (((g1 71 ((240 + (6 * x5)) + 4)) ≤ hr ∧ hr ≤ (g1 71 ((240 + (6 * x5)) + 5)))))))))] g1 (rI K) := by
              have H := H.2
              refine e_istore (lv' := [some (vR 55), some (vI fo), some (vI t), some (vI hr), some (vI (b2i (((((g1 71 (240 + (6 * x5))) = 114) ∧ (((g1 71 ((240 + (6 * x5)) + 1)) = fo) ∧ (((g1 71 ((240 + (6 * x5)) + 2)) = 4) ∨ ((g1 71 ((240 + (6 * x5)) + 2)) = (g1 57 t)))))) ∧ ((((g1 71 ((240 + (6 * x5)) + 3)) = 5) ∧ (((g1 71 ((240 + (6 * x5)) + 4)) ≤ hr ∧ hr ≤ (g1 71 ((240 + (6 * x5)) + 5))))) ∨ ((¬ (g1 71 ((240 + (6 * x5)) + 3)) = 5) ∧ (((g1 71 ((240 + (6 * x5)) + 3)) = (g1 56 t)) ∧ (((g1 71 ((240 + (6 * x5)) + 4)) ≤ hr ∧ hr ≤ (g1 71 ((240 + (6 * x5)) + 5)))))))))), some (vI x5), some (vI (240 + (6 * x5))), some (vI (b2i (((g1 71 (240 + (6 * x5))) = 114) ∧ (((g1 71 ((240 + (6 * x5)) + 1)) = fo) ∧ (((g1 71 ((240 + (6 * x5)) + 2)) = 4) ∨ ((g1 71 ((240 + (6 * x5)) + 2)) = (g1 57 t)))))))]) (pc := 165) dX9_mayTurn_165 rfl rfl ?_
              refine e_iinc (lv' := [some (vR 55), some (vI fo), some (vI t), some (vI hr), some (vI (b2i (((((g1 71 (240 + (6 * x5))) = 114) ∧ (((g1 71 ((240 + (6 * x5)) + 1)) = fo) ∧ (((g1 71 ((240 + (6 * x5)) + 2)) = 4) ∨ ((g1 71 ((240 + (6 * x5)) + 2)) = (g1 57 t)))))) ∧ ((((g1 71 ((240 + (6 * x5)) + 3)) = 5) ∧ (((g1 71 ((240 + (6 * x5)) + 4)) ≤ hr ∧ hr ≤ (g1 71 ((240 + (6 * x5)) + 5))))) ∨ ((¬ (g1 71 ((240 + (6 * x5)) + 3)) = 5) ∧ (((g1 71 ((240 + (6 * x5)) + 3)) = (g1 56 t)) ∧ (((g1 71 ((240 + (6 * x5)) + 4)) ≤ hr ∧ hr ≤ (g1 71 ((240 + (6 * x5)) + 5)))))))))), some (vI (x5 + 1)), some (vI (240 + (6 * x5))), some (vI (b2i (((g1 71 (240 + (6 * x5))) = 114) ∧ (((g1 71 ((240 + (6 * x5)) + 1)) = fo) ∧ (((g1 71 ((240 + (6 * x5)) + 2)) = 4) ∨ ((g1 71 ((240 + (6 * x5)) + 2)) = (g1 57 t)))))))]) (pc := 167) dX9_mayTurn_167 rfl H.1 rfl rfl ?_
              have H := H.2
              refine e_goto (pc := 170) (tgt := 6) dX9_mayTurn_170 (by decide) ?_
              refine e_mask [true, true, true, true, true, true, false, false] rfl ?_
              obtain ⟨m, hm, H⟩ := H
              exact ih1 m hm _ _ _ H
            have Ho := H.1
            refine e_ifb_eq (pc := 98) (tgt := 164) dX9_mayTurn_98 (by decide) (fun c3 => ?_) (fun c3 => ?_)
            · have Ho := Ho.1 c3
              refine e_iconst (pc := 164) dX9_mayTurn_164 ⟨by decide, by decide⟩ ?_
              exact e_top (b2i_f (fun z => c3 z.1)) J
            · have Ho := Ho.2 c3
              refine e_aload_n (pc := 101) dX9_mayTurn_101 rfl rfl ?_
              refine e_getR (q := 55) (ci := 9) (k := 19) (y := 71) (C := RX9) (T := TX9) (N := 52) (pc := 102) dX9_mayTurn_102 rfl rfl ev_in9 rfl ul_4_201 ⟨rfl, rfl⟩ rfl ?_
              refine e_iload (pc := 105) dX9_mayTurn_105 rfl ?_
              refine e_iconst (pc := 107) dX9_mayTurn_107 ⟨by decide, by decide⟩ ?_
              refine e_iadd (pc := 108) dX9_mayTurn_108 Ho.1 ?_
              have Ho := Ho.2
              refine e_iald (q := 71) (x := (g1 71 ((240 + (6 * x5)) + 3))) (pc := 109) dX9_mayTurn_109 rfl Ho.1 rfl ?_
              have Ho := Ho.2
              refine e_iconst (pc := 110) dX9_mayTurn_110 ⟨by decide, by decide⟩ ?_
              refine e_icmp_eq (pc := 111) (tgt := 132) dX9_mayTurn_111 (by decide) (fun c4 => ?_) (fun c4 => ?_)
              · have Ho := Ho.1 c4
                refine e_iload_n (pc := 132) dX9_mayTurn_132 rfl rfl ?_
                refine e_i2l (pc := 133) dX9_mayTurn_133 ?_
                refine e_aload_n (pc := 134) dX9_mayTurn_134 rfl rfl ?_
                refine e_getR (q := 55) (ci := 9) (k := 19) (y := 71) (C := RX9) (T := TX9) (N := 52) (pc := 135) dX9_mayTurn_135 rfl rfl ev_in9 rfl ul_4_201 ⟨rfl, rfl⟩ rfl ?_
                refine e_iload (pc := 138) dX9_mayTurn_138 rfl ?_
                refine e_iconst (pc := 140) dX9_mayTurn_140 ⟨by decide, by decide⟩ ?_
                refine e_iadd (pc := 141) dX9_mayTurn_141 Ho.1 ?_
                have Ho := Ho.2
                refine e_iald (q := 71) (x := (g1 71 ((240 + (6 * x5)) + 4))) (pc := 142) dX9_mayTurn_142 rfl Ho.1 rfl ?_
                have Ho := Ho.2
                refine e_i2l (pc := 143) dX9_mayTurn_143 ?_
                refine e_aload_n (pc := 144) dX9_mayTurn_144 rfl rfl ?_
                refine e_getR (q := 55) (ci := 9) (k := 19) (y := 71) (C := RX9) (T := TX9) (N := 52) (pc := 145) dX9_mayTurn_145 rfl rfl ev_in9 rfl ul_4_201 ⟨rfl, rfl⟩ rfl ?_
                refine e_iload (pc := 148) dX9_mayTurn_148 rfl ?_
                refine e_iconst (pc := 150) dX9_mayTurn_150 ⟨by decide, by decide⟩ ?_
                refine e_iadd (pc := 151) dX9_mayTurn_151 Ho.1 ?_
                have Ho := Ho.2
                refine e_iald (q := 71) (x := (g1 71 ((240 + (6 * x5)) + 5))) (pc := 152) dX9_mayTurn_152 rfl Ho.1 rfl ?_
                have Ho := Ho.2
                refine e_i2l (pc := 153) dX9_mayTurn_153 ?_
                refine e_invS (pc := 154) (Y' := Y_X9_in) (as := [vL hr, vL (g1 71 ((240 + (6 * x5)) + 4)), vL (g1 71 ((240 + (6 * x5)) + 5))]) (st := []) (lv0 := [some (vL hr), none, some (vL (g1 71 ((240 + (6 * x5)) + 4))), none, some (vL (g1 71 ((240 + (6 * x5)) + 5))), none]) dX9_mayTurn_154 m_X9_in ul_5_104 ul_5_105 ⟨rfl, rfl⟩ rfl rfl rfl rfl rfl (c_X9_in w hr (g1 71 ((240 + (6 * x5)) + 4)) (g1 71 ((240 + (6 * x5)) + 5)) g1) ?_
                rintro _ hz ⟨_, rfl, rfl, hh⟩
                rw [hh]
                show Ev w Y_X9_mayTurn 157 [some (vR 55), some (vI fo), some (vI t), some (vI hr), some (vI x4), some (vI x5), some (vI (240 + (6 * x5))), some (vI (b2i (((g1 71 (240 + (6 * x5))) = 114) ∧ (((g1 71 ((240 + (6 * x5)) + 1)) = fo) ∧ (((g1 71 ((240 + (6 * x5)) + 2)) = 4) ∨ ((g1 71 ((240 + (6 * x5)) + 2)) = (g1 57 t)))))))] [vI (b2i ((g1 71 ((240 + (6 * x5)) + 4)) ≤ hr ∧ hr ≤ (g1 71 ((240 + (6 * x5)) + 5))))] g1 (rI K)
                refine e_ifb_eq (pc := 157) (tgt := 164) dX9_mayTurn_157 (by decide) (fun c5 => ?_) (fun c5 => ?_)
                · refine e_iconst (pc := 164) dX9_mayTurn_164 ⟨by decide, by decide⟩ ?_
                  exact e_top (b2i_f (fun z => (fun z => z.elim (fun y => c5 y.2) (fun y => (fun z => z c4) y.1)) z.2)) J
                · refine e_iconst (pc := 160) dX9_mayTurn_160 ⟨by decide, by decide⟩ ?_
                  refine e_goto (pc := 161) (tgt := 165) dX9_mayTurn_161 (by decide) ?_
                  exact e_top (b2i_t ⟨c3, (Or.inl ⟨c4, c5⟩)⟩) J
              · have Ho := Ho.2 c4
                refine e_aload_n (pc := 114) dX9_mayTurn_114 rfl rfl ?_
                refine e_getR (q := 55) (ci := 9) (k := 19) (y := 71) (C := RX9) (T := TX9) (N := 52) (pc := 115) dX9_mayTurn_115 rfl rfl ev_in9 rfl ul_4_201 ⟨rfl, rfl⟩ rfl ?_
                refine e_iload (pc := 118) dX9_mayTurn_118 rfl ?_
                refine e_iconst (pc := 120) dX9_mayTurn_120 ⟨by decide, by decide⟩ ?_
                refine e_iadd (pc := 121) dX9_mayTurn_121 Ho.1 ?_
                have Ho := Ho.2
                refine e_iald (q := 71) (x := (g1 71 ((240 + (6 * x5)) + 3))) (pc := 122) dX9_mayTurn_122 rfl Ho.1 rfl ?_
                have Ho := Ho.2
                refine e_aload_n (pc := 123) dX9_mayTurn_123 rfl rfl ?_
                refine e_getR (q := 55) (ci := 9) (k := 1) (y := 56) (C := RX9) (T := TX9) (N := 52) (pc := 124) dX9_mayTurn_124 rfl rfl ev_in9 rfl ul_4_183 ⟨rfl, rfl⟩ rfl ?_
                refine e_iload_n (pc := 127) dX9_mayTurn_127 rfl rfl ?_
                refine e_iald (q := 56) (x := (g1 56 t)) (pc := 128) dX9_mayTurn_128 rfl Ho.1 rfl ?_
                have Ho := Ho.2
                refine e_icmp_ne (pc := 129) (tgt := 164) dX9_mayTurn_129 (by decide) (fun c6 => ?_) (fun c6 => ?_)
                · have Ho := Ho.1 c6
                  refine e_iconst (pc := 164) dX9_mayTurn_164 ⟨by decide, by decide⟩ ?_
                  exact e_top (b2i_f (fun z => (fun z => z.elim (fun y => c4 y.1) (fun y => (fun z => c6 z.1) y.2)) z.2)) J
                · have Ho := Ho.2 c6
                  refine e_iload_n (pc := 132) dX9_mayTurn_132 rfl rfl ?_
                  refine e_i2l (pc := 133) dX9_mayTurn_133 ?_
                  refine e_aload_n (pc := 134) dX9_mayTurn_134 rfl rfl ?_
                  refine e_getR (q := 55) (ci := 9) (k := 19) (y := 71) (C := RX9) (T := TX9) (N := 52) (pc := 135) dX9_mayTurn_135 rfl rfl ev_in9 rfl ul_4_201 ⟨rfl, rfl⟩ rfl ?_
                  refine e_iload (pc := 138) dX9_mayTurn_138 rfl ?_
                  refine e_iconst (pc := 140) dX9_mayTurn_140 ⟨by decide, by decide⟩ ?_
                  refine e_iadd (pc := 141) dX9_mayTurn_141 Ho.1 ?_
                  have Ho := Ho.2
                  refine e_iald (q := 71) (x := (g1 71 ((240 + (6 * x5)) + 4))) (pc := 142) dX9_mayTurn_142 rfl Ho.1 rfl ?_
                  have Ho := Ho.2
                  refine e_i2l (pc := 143) dX9_mayTurn_143 ?_
                  refine e_aload_n (pc := 144) dX9_mayTurn_144 rfl rfl ?_
                  refine e_getR (q := 55) (ci := 9) (k := 19) (y := 71) (C := RX9) (T := TX9) (N := 52) (pc := 145) dX9_mayTurn_145 rfl rfl ev_in9 rfl ul_4_201 ⟨rfl, rfl⟩ rfl ?_
                  refine e_iload (pc := 148) dX9_mayTurn_148 rfl ?_
                  refine e_iconst (pc := 150) dX9_mayTurn_150 ⟨by decide, by decide⟩ ?_
                  refine e_iadd (pc := 151) dX9_mayTurn_151 Ho.1 ?_
                  have Ho := Ho.2
                  refine e_iald (q := 71) (x := (g1 71 ((240 + (6 * x5)) + 5))) (pc := 152) dX9_mayTurn_152 rfl Ho.1 rfl ?_
                  have Ho := Ho.2
                  refine e_i2l (pc := 153) dX9_mayTurn_153 ?_
                  refine e_invS (pc := 154) (Y' := Y_X9_in) (as := [vL hr, vL (g1 71 ((240 + (6 * x5)) + 4)), vL (g1 71 ((240 + (6 * x5)) + 5))]) (st := []) (lv0 := [some (vL hr), none, some (vL (g1 71 ((240 + (6 * x5)) + 4))), none, some (vL (g1 71 ((240 + (6 * x5)) + 5))), none]) dX9_mayTurn_154 m_X9_in ul_5_104 ul_5_105 ⟨rfl, rfl⟩ rfl rfl rfl rfl rfl (c_X9_in w hr (g1 71 ((240 + (6 * x5)) + 4)) (g1 71 ((240 + (6 * x5)) + 5)) g1) ?_
                  rintro _ hz ⟨_, rfl, rfl, hh⟩
                  rw [hh]
                  show Ev w Y_X9_mayTurn 157 [some (vR 55), some (vI fo), some (vI t), some (vI hr), some (vI x4), some (vI x5), some (vI (240 + (6 * x5))), some (vI (b2i (((g1 71 (240 + (6 * x5))) = 114) ∧ (((g1 71 ((240 + (6 * x5)) + 1)) = fo) ∧ (((g1 71 ((240 + (6 * x5)) + 2)) = 4) ∨ ((g1 71 ((240 + (6 * x5)) + 2)) = (g1 57 t)))))))] [vI (b2i ((g1 71 ((240 + (6 * x5)) + 4)) ≤ hr ∧ hr ≤ (g1 71 ((240 + (6 * x5)) + 5))))] g1 (rI K)
                  refine e_ifb_eq (pc := 157) (tgt := 164) dX9_mayTurn_157 (by decide) (fun c7 => ?_) (fun c7 => ?_)
                  · refine e_iconst (pc := 164) dX9_mayTurn_164 ⟨by decide, by decide⟩ ?_
                    exact e_top (b2i_f (fun z => (fun z => z.elim (fun y => c4 y.1) (fun y => (fun z => c7 z.2) y.2)) z.2)) J
                  · refine e_iconst (pc := 160) dX9_mayTurn_160 ⟨by decide, by decide⟩ ?_
                    refine e_goto (pc := 161) (tgt := 165) dX9_mayTurn_161 (by decide) ?_
                    exact e_top (b2i_t ⟨c3, (Or.inr ⟨c4, ⟨c6, c7⟩⟩)⟩) J
        have Ho := H.1
        refine e_icmp_ne (pc := 37) (tgt := 88) dX9_mayTurn_37 (by decide) (fun c8 => ?_) (fun c8 => ?_)
        · have Ho := Ho.1 c8
          refine e_iconst (pc := 88) dX9_mayTurn_88 ⟨by decide, by decide⟩ ?_
          exact e_top (b2i_f (fun z => c8 z.1)) J
        · have Ho := Ho.2 c8
          refine e_aload_n (pc := 40) dX9_mayTurn_40 rfl rfl ?_
          refine e_getR (q := 55) (ci := 9) (k := 19) (y := 71) (C := RX9) (T := TX9) (N := 52) (pc := 41) dX9_mayTurn_41 rfl rfl ev_in9 rfl ul_4_201 ⟨rfl, rfl⟩ rfl ?_
          refine e_iload (pc := 44) dX9_mayTurn_44 rfl ?_
          refine e_iconst (pc := 46) dX9_mayTurn_46 ⟨by decide, by decide⟩ ?_
          refine e_iadd (pc := 47) dX9_mayTurn_47 Ho.1 ?_
          have Ho := Ho.2
          refine e_iald (q := 71) (x := (g1 71 ((240 + (6 * x5)) + 1))) (pc := 48) dX9_mayTurn_48 rfl Ho.1 rfl ?_
          have Ho := Ho.2
          refine e_iload_n (pc := 49) dX9_mayTurn_49 rfl rfl ?_
          refine e_icmp_ne (pc := 50) (tgt := 88) dX9_mayTurn_50 (by decide) (fun c9 => ?_) (fun c9 => ?_)
          · have Ho := Ho.1 c9
            refine e_iconst (pc := 88) dX9_mayTurn_88 ⟨by decide, by decide⟩ ?_
            exact e_top (b2i_f (fun z => (fun z => c9 z.1) z.2)) J
          · have Ho := Ho.2 c9
            refine e_aload_n (pc := 53) dX9_mayTurn_53 rfl rfl ?_
            refine e_getR (q := 55) (ci := 9) (k := 19) (y := 71) (C := RX9) (T := TX9) (N := 52) (pc := 54) dX9_mayTurn_54 rfl rfl ev_in9 rfl ul_4_201 ⟨rfl, rfl⟩ rfl ?_
            refine e_iload (pc := 57) dX9_mayTurn_57 rfl ?_
            refine e_iconst (pc := 59) dX9_mayTurn_59 ⟨by decide, by decide⟩ ?_
            refine e_iadd (pc := 60) dX9_mayTurn_60 Ho.1 ?_
            have Ho := Ho.2
            refine e_iald (q := 71) (x := (g1 71 ((240 + (6 * x5)) + 2))) (pc := 61) dX9_mayTurn_61 rfl Ho.1 rfl ?_
            have Ho := Ho.2
            refine e_iconst (pc := 62) dX9_mayTurn_62 ⟨by decide, by decide⟩ ?_
            refine e_icmp_eq (pc := 63) (tgt := 84) dX9_mayTurn_63 (by decide) (fun c10 => ?_) (fun c10 => ?_)
            · have Ho := Ho.1 c10
              refine e_iconst (pc := 84) dX9_mayTurn_84 ⟨by decide, by decide⟩ ?_
              refine e_goto (pc := 85) (tgt := 89) dX9_mayTurn_85 (by decide) ?_
              exact e_top (b2i_t ⟨c8, ⟨c9, (Or.inl c10)⟩⟩) J
            · have Ho := Ho.2 c10
              refine e_aload_n (pc := 66) dX9_mayTurn_66 rfl rfl ?_
              refine e_getR (q := 55) (ci := 9) (k := 19) (y := 71) (C := RX9) (T := TX9) (N := 52) (pc := 67) dX9_mayTurn_67 rfl rfl ev_in9 rfl ul_4_201 ⟨rfl, rfl⟩ rfl ?_
              refine e_iload (pc := 70) dX9_mayTurn_70 rfl ?_
              refine e_iconst (pc := 72) dX9_mayTurn_72 ⟨by decide, by decide⟩ ?_
              refine e_iadd (pc := 73) dX9_mayTurn_73 Ho.1 ?_
              have Ho := Ho.2
              refine e_iald (q := 71) (x := (g1 71 ((240 + (6 * x5)) + 2))) (pc := 74) dX9_mayTurn_74 rfl Ho.1 rfl ?_
              have Ho := Ho.2
              refine e_aload_n (pc := 75) dX9_mayTurn_75 rfl rfl ?_
              refine e_getR (q := 55) (ci := 9) (k := 2) (y := 57) (C := RX9) (T := TX9) (N := 52) (pc := 76) dX9_mayTurn_76 rfl rfl ev_in9 rfl ul_4_184 ⟨rfl, rfl⟩ rfl ?_
              refine e_iload_n (pc := 79) dX9_mayTurn_79 rfl rfl ?_
              refine e_iald (q := 57) (x := (g1 57 t)) (pc := 80) dX9_mayTurn_80 rfl Ho.1 rfl ?_
              have Ho := Ho.2
              refine e_icmp_ne (pc := 81) (tgt := 88) dX9_mayTurn_81 (by decide) (fun c11 => ?_) (fun c11 => ?_)
              · refine e_iconst (pc := 88) dX9_mayTurn_88 ⟨by decide, by decide⟩ ?_
                exact e_top (b2i_f (fun z => (fun z => (fun z => z.elim c10 c11) z.2) z.2)) J
              · refine e_iconst (pc := 84) dX9_mayTurn_84 ⟨by decide, by decide⟩ ?_
                refine e_goto (pc := 85) (tgt := 89) dX9_mayTurn_85 (by decide) ?_
                exact e_top (b2i_t ⟨c8, ⟨c9, (Or.inr c11)⟩⟩) J
  refine e_iconst (pc := 0) dX9_mayTurn_0 ⟨by decide, by decide⟩ ?_
  refine e_istore (lv' := [some (vR 55), some (vI fo), some (vI t), some (vI hr), some (vI 0), none, none, none]) (pc := 1) dX9_mayTurn_1 rfl rfl ?_
  refine e_iconst (pc := 3) dX9_mayTurn_3 ⟨by decide, by decide⟩ ?_
  refine e_istore (lv' := [some (vR 55), some (vI fo), some (vI t), some (vI hr), some (vI 0), some (vI 0), none, none]) (pc := 4) dX9_mayTurn_4 rfl rfl ?_
  obtain ⟨m, H⟩ := H
  exact L1 m _ _ _ H
set_option maxRecDepth 100000 in
set_option maxHeartbeats 4000000 in
theorem c_X9_mayTurn (w : WD) (fo : Int) (t : Int) (hr : Int) (h : HP) (H : mfOK h ∧ 0 ≤ t ∧ t < 10) : Ev w Y_X9_mayTurn 0 [some (vR 55), some (vI fo), some (vI t), some (vI hr), none, none, none, none] [] h (rI (fun r h' => r = b2i (∃ k : Int, 0 ≤ k ∧ k < h 70 1 ∧ mLet h k fo t hr) ∧ h' = h)) := by
  obtain ⟨⟨h1, h2⟩, h3⟩ := H
  refine v_X9_mayTurn w fo t hr h _ (fun n x4 x5 g => g = h ∧ (0 ≤ x5 ∧ x5 ≤ h 70 1) ∧ n = (40 - x5).toNat ∧ x4 = b2i (∃ k : Int, 0 ≤ k ∧ k < x5 ∧ mLet h k fo t hr)) ⟨40, rfl, by omega, rfl, (b2i_f (fun ⟨k, a, b, _⟩ => by omega)).symm⟩ ?_
  rintro n x4 x5 g ⟨rfl, h0, rfl, hx⟩
  refine ⟨fun c => ⟨by rw [hx]; exact b2i_01 _, by rw [hx]; exact b2i_c ⟨fun ⟨k, a, b, d⟩ => ⟨k, a, by omega, d⟩, fun ⟨k, a, b, d⟩ => ⟨k, a, by omega, d⟩⟩, rfl⟩, fun c => ⟨⟨by omega, by omega⟩, ⟨by omega, by omega⟩, by omega, by (repeat' (first | exact trivial | (intro _) | apply And.intro | omega)), fun c2 => ⟨⟨by omega, by omega⟩, (40 - (x5 + 1)).toNat, by omega, rfl, by omega, rfl, ?_⟩, fun c2 => ⟨by (repeat' (first | exact trivial | (intro _) | apply And.intro | omega)), ⟨by omega, by omega⟩, (40 - (x5 + 1)).toNat, by omega, rfl, by omega, rfl, b2i_c ?_⟩⟩⟩
  · have hp : ∃ k : Int, 0 ≤ k ∧ k < x5 ∧ mLet g k fo t hr := Classical.byContradiction (fun z => c2 (by rw [hx, b2i_f z]))
    obtain ⟨k, a, b, d⟩ := hp
    exact (b2i_t ⟨k, a, by omega, d⟩).symm
  · have hp : ¬ ∃ k : Int, 0 ≤ k ∧ k < x5 ∧ mLet g k fo t hr := b2i_0.mp (by rw [← hx]; exact c2)
    have e : (∃ k : Int, 0 ≤ k ∧ k < x5 + 1 ∧ mLet g k fo t hr) ↔ mLet g x5 fo t hr := by
      constructor
      · rintro ⟨k, a, b, d⟩
        by_cases e : k = x5
        · subst e; exact d
        · exact absurd ⟨k, a, by omega, d⟩ hp
      · intro d; exact ⟨x5, h0.1, by omega, d⟩
    rw [e]
    unfold mLet
    by_cases a1 : g 71 (240 + 6 * x5 + 2) = 4 <;> by_cases a2 : g 71 (240 + 6 * x5 + 3) = 5 <;> simp [a1, a2, and_assoc]
set_option maxRecDepth 100000 in
set_option maxHeartbeats 4000000 in
theorem v_X9_stateOf (w : WD) (t : Int) (h : HP) (K : Int → HP → Prop) 
    (H : (((((h 55 0) ≤ t → True) ∧ (¬ (h 55 0) ≤ t → ((0 ≤ t ∧ t < 10) ∧ True)))) ∧ K (cif ((h 55 0) ≤ t) 0 (h 60 t)) h)) :
    Ev w Y_X9_stateOf 0 [some (vR 55), some (vI t)] [] h (rI K) := by
  refine e_iload_n (pc := 0) dX9_stateOf_0 rfl rfl ?_
  refine e_aload_n (pc := 1) dX9_stateOf_1 rfl rfl ?_
  refine e_getI (q := 55) (ci := 9) (k := 0) (kz := 0) (C := RX9) (T := TX9) (N := 52) (x := (h 55 0)) (pc := 2) dX9_stateOf_2 rfl rfl rfl ev_in9 rfl ul_4_182 ⟨rfl, by decide⟩ rfl ?_
  have J : Ev w Y_X9_stateOf 18 [some (vR 55), some (vI t)] [vI (cif ((h 55 0) ≤ t) 0 (h 60 t))] h (rI K) := by
    have H := H.2
    exact e_ret (pc := 18) (v := some (vI (cif ((h 55 0) ≤ t) 0 (h 60 t)))) dX9_stateOf_18 rfl trivial ⟨_, rfl, H⟩
  have Ho := H.1
  refine e_icmp_ge (pc := 5) (tgt := 17) dX9_stateOf_5 (by decide) (fun c1 => ?_) (fun c1 => ?_)
  · have Ho := Ho.1 c1
    refine e_iconst (pc := 17) dX9_stateOf_17 ⟨by decide, by decide⟩ ?_
    exact e_top (cif_t c1) J
  · have Ho := Ho.2 c1
    refine e_aload_n (pc := 8) dX9_stateOf_8 rfl rfl ?_
    refine e_getR (q := 55) (ci := 9) (k := 5) (y := 60) (C := RX9) (T := TX9) (N := 52) (pc := 9) dX9_stateOf_9 rfl rfl ev_in9 rfl ul_4_187 ⟨rfl, rfl⟩ rfl ?_
    refine e_iload_n (pc := 12) dX9_stateOf_12 rfl rfl ?_
    refine e_iald (q := 60) (x := (h 60 t)) (pc := 13) dX9_stateOf_13 rfl Ho.1 rfl ?_
    have Ho := Ho.2
    refine e_goto (pc := 14) (tgt := 18) dX9_stateOf_14 (by decide) ?_
    exact e_top (cif_f c1) J
set_option maxRecDepth 100000 in
set_option maxHeartbeats 4000000 in
theorem c_X9_stateOf (w : WD) (t : Int) (h : HP) (H : 0 ≤ t ∧ t < 10) : Ev w Y_X9_stateOf 0 [some (vR 55), some (vI t)] [] h (rI (fun r h' => r = (cif (t < h 55 0) (h 60 t) 0) ∧ h' = h)) := by
  refine v_X9_stateOf w t h _ ⟨⟨fun _ => trivial, fun _ => ⟨H, trivial⟩⟩, ?_, rfl⟩
  by_cases c : t < h 55 0
  · rw [cif_t c, cif_f (by omega)]
  · rw [cif_f c, cif_t (by omega)]
set_option maxRecDepth 100000 in
set_option maxHeartbeats 4000000 in
theorem v_X9_bars (w : WD) (k : Int) (h : HP) (K : Int → HP → Prop) 
    (I1 : Nat → Int → Int → Int → HP → Prop)
    (H : ((iR (6 * k)) ∧ ((iR (240 + (6 * k))) ∧ ((0 ≤ (240 + (6 * k)) ∧ (240 + (6 * k)) < 480) ∧ ((¬ (h 71 (240 + (6 * k))) = 120 → ((0 ≤ (240 + (6 * k)) ∧ (240 + (6 * k)) < 480) ∧ ((((¬ (h 71 (240 + (6 * k))) = 110 → True) ∧ ((h 71 (240 + (6 * k))) = 110 → ((iR ((240 + (6 * k)) + 1)) ∧ ((0 ≤ ((240 + (6 * k)) + 1) ∧ ((240 + (6 * k)) + 1) < 480) ∧ ((0 ≤ (h 71 ((240 + (6 * k)) + 1)) ∧ (h 71 ((240 + (6 * k)) + 1)) < 10) ∧ ((iR ((240 + (6 * k)) + 2)) ∧ ((0 ≤ ((240 + (6 * k)) + 2) ∧ ((240 + (6 * k)) + 2) < 480) ∧ True)))))))) ∧ (((((h 71 (240 + (6 * k))) = 110) ∧ ((h 71 ((240 + (6 * k)) + 2)) ≤ (cif ((h 71 ((240 + (6 * k)) + 1)) < h 55 0) (h 60 (h 71 ((240 + (6 * k)) + 1))) 0))) → (∃ m : Nat, I1 m (240 + (6 * k)) 0 0 h)) ∧ (¬ (((h 71 (240 + (6 * k))) = 110) ∧ ((h 71 ((240 + (6 * k)) + 2)) ≤ (cif ((h 71 ((240 + (6 * k)) + 1)) < h 55 0) (h 60 (h 71 ((240 + (6 * k)) + 1))) 0))) → K 0 h))))) ∧ ((h 71 (240 + (6 * k))) = 120 → ((iR ((240 + (6 * k)) + 1)) ∧ ((0 ≤ ((240 + (6 * k)) + 1) ∧ ((240 + (6 * k)) + 1) < 480) ∧ ((0 ≤ (h 71 ((240 + (6 * k)) + 1)) ∧ (h 71 ((240 + (6 * k)) + 1)) < 10) ∧ ((iR ((240 + (6 * k)) + 2)) ∧ ((0 ≤ ((240 + (6 * k)) + 2) ∧ ((240 + (6 * k)) + 2) < 480) ∧ (((((cif ((h 71 ((240 + (6 * k)) + 1)) < h 55 0) (h 60 (h 71 ((240 + (6 * k)) + 1))) 0) < (h 71 ((240 + (6 * k)) + 2)) → True) ∧ (¬ (cif ((h 71 ((240 + (6 * k)) + 1)) < h 55 0) (h 60 (h 71 ((240 + (6 * k)) + 1))) 0) < (h 71 ((240 + (6 * k)) + 2)) → ((iR ((240 + (6 * k)) + 3)) ∧ ((0 ≤ ((240 + (6 * k)) + 3) ∧ ((240 + (6 * k)) + 3) < 480) ∧ ((0 ≤ (h 71 ((240 + (6 * k)) + 3)) ∧ (h 71 ((240 + (6 * k)) + 3)) < 10) ∧ ((iR ((240 + (6 * k)) + 4)) ∧ ((0 ≤ ((240 + (6 * k)) + 4) ∧ ((240 + (6 * k)) + 4) < 480) ∧ True)))))))) ∧ K (b2i ((¬ (cif ((h 71 ((240 + (6 * k)) + 1)) < h 55 0) (h 60 (h 71 ((240 + (6 * k)) + 1))) 0) < (h 71 ((240 + (6 * k)) + 2))) ∧ (¬ (cif ((h 71 ((240 + (6 * k)) + 3)) < h 55 0) (h 60 (h 71 ((240 + (6 * k)) + 3))) 0) < (h 71 ((240 + (6 * k)) + 4))))) h))))))))))))
    (H1 : ∀ (n1 : Nat) (x2 : Int) (x3 : Int) (x4 : Int) (g1 : HP), I1 n1 x2 x3 x4 g1 → ((6 ≤ x4 → K (b2i (x3 = 0)) g1) ∧ (¬ 6 ≤ x4 → ((((¬ x3 = 0 → True) ∧ (x3 = 0 → ((0 ≤ x4 ∧ x4 < 6) ∧ ((iR (x2 + 1)) ∧ ((0 ≤ (x2 + 1) ∧ (x2 + 1) < 480) ∧ ((0 ≤ (g1 71 (x2 + 1)) ∧ (g1 71 (x2 + 1)) < 10) ∧ True))))))) ∧ ((iR (x4 + 1)) ∧ (∃ m : Nat, m < n1 ∧ I1 m x2 (b2i ((¬ x3 = 0) ∨ ((g1 62 x4) = (g1 56 (g1 71 (x2 + 1)))))) (x4 + 1) g1)))))) :
    Ev w Y_X9_bars 0 [some (vR 55), some (vI k), none, none, none] [] h (rI K) := by
  have L1 : ∀ (n1 : Nat) (x2 : Int) (x3 : Int) (x4 : Int) (g1 : HP), I1 n1 x2 x3 x4 g1 → Ev w Y_X9_bars 113 [some (vR 55), none, some (vI x2), some (vI x3), some (vI x4)] [] g1 (rI K) := by
    intro n1
    induction n1 using Nat.strongRecOn with
    | ind n1 ih1 =>
      intro x2 x3 x4 g1 H
      have H := H1 n1 x2 x3 x4 g1 H
      refine e_iload (pc := 113) dX9_bars_113 rfl ?_
      refine e_bipush (pc := 115) dX9_bars_115 ⟨by decide, by decide⟩ (by decide) ?_
      refine e_icmp_ge (pc := 117) (tgt := 159) dX9_bars_117 (by decide) (fun c6 => ?_) (fun c6 => ?_)
      · have H := H.1 c6
        refine e_iload_n (pc := 159) dX9_bars_159 rfl rfl ?_
        have J : Ev w Y_X9_bars 168 [some (vR 55), none, some (vI x2), some (vI x3), some (vI x4)] [vI (b2i (x3 = 0))] g1 (rI K) := by
          exact e_ret (pc := 168) (v := some (vI (b2i (x3 = 0)))) dX9_bars_168 rfl (b2i_01 _) ⟨_, rfl, H⟩
        refine e_if_ne (pc := 160) (tgt := 167) dX9_bars_160 (by decide) (fun c7 => ?_) (fun c7 => ?_)
        · refine e_iconst (pc := 167) dX9_bars_167 ⟨by decide, by decide⟩ ?_
          exact e_top (b2i_f c7) J
        · refine e_iconst (pc := 163) dX9_bars_163 ⟨by decide, by decide⟩ ?_
          refine e_goto (pc := 164) (tgt := 168) dX9_bars_164 (by decide) ?_
          exact e_top (b2i_t c7) J
      · have H := H.2 c6
        refine e_iload_n (pc := 120) dX9_bars_120 rfl rfl ?_
        have J : Ev w Y_X9_bars 152 [some (vR 55), none, some (vI x2), some (vI x3), some (vI x4)] [vI (b2i ((¬ x3 = 0) ∨ ((g1 62 x4) = (g1 56 (g1 71 (x2 + 1))))))] g1 (rI K) := by
          have H := H.2
          refine e_istore_n (lv' := [some (vR 55), none, some (vI x2), some (vI (b2i ((¬ x3 = 0) ∨ ((g1 62 x4) = (g1 56 (g1 71 (x2 + 1))))))), some (vI x4)]) (pc := 152) dX9_bars_152 rfl rfl rfl ?_
          refine e_iinc (lv' := [some (vR 55), none, some (vI x2), some (vI (b2i ((¬ x3 = 0) ∨ ((g1 62 x4) = (g1 56 (g1 71 (x2 + 1))))))), some (vI (x4 + 1))]) (pc := 153) dX9_bars_153 rfl H.1 rfl rfl ?_
          have H := H.2
          refine e_goto (pc := 156) (tgt := 113) dX9_bars_156 (by decide) ?_
          obtain ⟨m, hm, H⟩ := H
          exact ih1 m hm _ _ _ _ H
        have Ho := H.1
        refine e_if_ne (pc := 121) (tgt := 147) dX9_bars_121 (by decide) (fun c8 => ?_) (fun c8 => ?_)
        · have Ho := Ho.1 c8
          refine e_iconst (pc := 147) dX9_bars_147 ⟨by decide, by decide⟩ ?_
          refine e_goto (pc := 148) (tgt := 152) dX9_bars_148 (by decide) ?_
          exact e_top (b2i_t (Or.inl c8)) J
        · have Ho := Ho.2 c8
          refine e_aload_n (pc := 124) dX9_bars_124 rfl rfl ?_
          refine e_getR (q := 55) (ci := 9) (k := 7) (y := 62) (C := RX9) (T := TX9) (N := 52) (pc := 125) dX9_bars_125 rfl rfl ev_in9 rfl ul_4_189 ⟨rfl, rfl⟩ rfl ?_
          refine e_iload (pc := 128) dX9_bars_128 rfl ?_
          refine e_iald (q := 62) (x := (g1 62 x4)) (pc := 130) dX9_bars_130 rfl Ho.1 rfl ?_
          have Ho := Ho.2
          refine e_aload_n (pc := 131) dX9_bars_131 rfl rfl ?_
          refine e_getR (q := 55) (ci := 9) (k := 1) (y := 56) (C := RX9) (T := TX9) (N := 52) (pc := 132) dX9_bars_132 rfl rfl ev_in9 rfl ul_4_183 ⟨rfl, rfl⟩ rfl ?_
          refine e_aload_n (pc := 135) dX9_bars_135 rfl rfl ?_
          refine e_getR (q := 55) (ci := 9) (k := 19) (y := 71) (C := RX9) (T := TX9) (N := 52) (pc := 136) dX9_bars_136 rfl rfl ev_in9 rfl ul_4_201 ⟨rfl, rfl⟩ rfl ?_
          refine e_iload_n (pc := 139) dX9_bars_139 rfl rfl ?_
          refine e_iconst (pc := 140) dX9_bars_140 ⟨by decide, by decide⟩ ?_
          refine e_iadd (pc := 141) dX9_bars_141 Ho.1 ?_
          have Ho := Ho.2
          refine e_iald (q := 71) (x := (g1 71 (x2 + 1))) (pc := 142) dX9_bars_142 rfl Ho.1 rfl ?_
          have Ho := Ho.2
          refine e_iald (q := 56) (x := (g1 56 (g1 71 (x2 + 1)))) (pc := 143) dX9_bars_143 rfl Ho.1 rfl ?_
          have Ho := Ho.2
          refine e_icmp_ne (pc := 144) (tgt := 151) dX9_bars_144 (by decide) (fun c9 => ?_) (fun c9 => ?_)
          · refine e_iconst (pc := 151) dX9_bars_151 ⟨by decide, by decide⟩ ?_
            exact e_top (b2i_f (fun z => z.elim (fun z => z c8) c9)) J
          · refine e_iconst (pc := 147) dX9_bars_147 ⟨by decide, by decide⟩ ?_
            refine e_goto (pc := 148) (tgt := 152) dX9_bars_148 (by decide) ?_
            exact e_top (b2i_t (Or.inr c9)) J
  refine e_sipush (pc := 0) dX9_bars_0 ⟨by decide, by decide⟩ (by decide) ?_
  refine e_bipush (pc := 3) dX9_bars_3 ⟨by decide, by decide⟩ (by decide) ?_
  refine e_iload_n (pc := 5) dX9_bars_5 rfl rfl ?_
  refine e_imul (pc := 6) dX9_bars_6 H.1 ?_
  have H := H.2
  refine e_iadd (pc := 7) dX9_bars_7 H.1 ?_
  have H := H.2
  refine e_istore_n (lv' := [some (vR 55), some (vI k), some (vI (240 + (6 * k))), none, none]) (pc := 8) dX9_bars_8 rfl rfl rfl ?_
  refine e_aload_n (pc := 9) dX9_bars_9 rfl rfl ?_
  refine e_getR (q := 55) (ci := 9) (k := 19) (y := 71) (C := RX9) (T := TX9) (N := 52) (pc := 10) dX9_bars_10 rfl rfl ev_in9 rfl ul_4_201 ⟨rfl, rfl⟩ rfl ?_
  refine e_iload_n (pc := 13) dX9_bars_13 rfl rfl ?_
  refine e_iald (q := 71) (x := (h 71 (240 + (6 * k)))) (pc := 14) dX9_bars_14 rfl H.1 rfl ?_
  have H := H.2
  refine e_bipush (pc := 15) dX9_bars_15 ⟨by decide, by decide⟩ (by decide) ?_
  refine e_icmp_ne (pc := 17) (tgt := 72) dX9_bars_17 (by decide) (fun c1 => ?_) (fun c1 => ?_)
  · have H := H.1 c1
    refine e_aload_n (pc := 72) dX9_bars_72 rfl rfl ?_
    refine e_getR (q := 55) (ci := 9) (k := 19) (y := 71) (C := RX9) (T := TX9) (N := 52) (pc := 73) dX9_bars_73 rfl rfl ev_in9 rfl ul_4_201 ⟨rfl, rfl⟩ rfl ?_
    refine e_iload_n (pc := 76) dX9_bars_76 rfl rfl ?_
    refine e_iald (q := 71) (x := (h 71 (240 + (6 * k)))) (pc := 77) dX9_bars_77 rfl H.1 rfl ?_
    have H := H.2
    refine e_bipush (pc := 78) dX9_bars_78 ⟨by decide, by decide⟩ (by decide) ?_
    have Ho := H.1
    have H := H.2
    have J1 : (((h 71 (240 + (6 * k))) = 110) ∧ ((h 71 ((240 + (6 * k)) + 2)) ≤ (cif ((h 71 ((240 + (6 * k)) + 1)) < h 55 0) (h 60 (h 71 ((240 + (6 * k)) + 1))) 0))) → Ev w Y_X9_bars 108 [some (vR 55), some (vI k), some (vI (240 + (6 * k))), none, none] [] h (rI K) := by
      intro hp
      have H := H.1 hp
      refine e_iconst (pc := 108) dX9_bars_108 ⟨by decide, by decide⟩ ?_
      refine e_istore_n (lv' := [some (vR 55), some (vI k), some (vI (240 + (6 * k))), some (vI 0), none]) (pc := 109) dX9_bars_109 rfl rfl rfl ?_
      refine e_iconst (pc := 110) dX9_bars_110 ⟨by decide, by decide⟩ ?_
      refine e_istore (lv' := [some (vR 55), some (vI k), some (vI (240 + (6 * k))), some (vI 0), some (vI 0)]) (pc := 111) dX9_bars_111 rfl rfl ?_
      refine e_mask [true, false, true, true, true] rfl ?_
      obtain ⟨m, H⟩ := H
      exact L1 m _ _ _ _ H
    have J2 : ¬ (((h 71 (240 + (6 * k))) = 110) ∧ ((h 71 ((240 + (6 * k)) + 2)) ≤ (cif ((h 71 ((240 + (6 * k)) + 1)) < h 55 0) (h 60 (h 71 ((240 + (6 * k)) + 1))) 0))) → Ev w Y_X9_bars 106 [some (vR 55), some (vI k), some (vI (240 + (6 * k))), none, none] [] h (rI K) := by
      intro hp
      have H := H.2 hp
      refine e_iconst (pc := 106) dX9_bars_106 ⟨by decide, by decide⟩ ?_
      exact e_ret (pc := 107) (v := some (vI 0)) dX9_bars_107 rfl (Or.inl rfl) ⟨_, rfl, H⟩
    refine e_icmp_ne (pc := 80) (tgt := 106) dX9_bars_80 (by decide) (fun c2 => ?_) (fun c2 => ?_)
    · have Ho := Ho.1 c2
      exact J2 (fun z => c2 z.1)
    · have Ho := Ho.2 c2
      refine e_aload_n (pc := 83) dX9_bars_83 rfl rfl ?_
      refine e_aload_n (pc := 84) dX9_bars_84 rfl rfl ?_
      refine e_getR (q := 55) (ci := 9) (k := 19) (y := 71) (C := RX9) (T := TX9) (N := 52) (pc := 85) dX9_bars_85 rfl rfl ev_in9 rfl ul_4_201 ⟨rfl, rfl⟩ rfl ?_
      refine e_iload_n (pc := 88) dX9_bars_88 rfl rfl ?_
      refine e_iconst (pc := 89) dX9_bars_89 ⟨by decide, by decide⟩ ?_
      refine e_iadd (pc := 90) dX9_bars_90 Ho.1 ?_
      have Ho := Ho.2
      refine e_iald (q := 71) (x := (h 71 ((240 + (6 * k)) + 1))) (pc := 91) dX9_bars_91 rfl Ho.1 rfl ?_
      have Ho := Ho.2
      refine e_invV (pc := 92) (Y' := Y_X9_stateOf) (as := [vI (h 71 ((240 + (6 * k)) + 1))]) (st := []) (lv0 := [some (vR 55), some (vI (h 71 ((240 + (6 * k)) + 1)))]) (q := 55) (ci := 9) (T := TX9) (N := 52) dX9_bars_92 m_X9_stateOf ul_5_190 ⟨ul_5_192, us_X9_stateOf⟩ ⟨rfl, rfl⟩ rfl rfl rfl rfl rfl rfl rfl (c_X9_stateOf w (h 71 ((240 + (6 * k)) + 1)) h Ho.1) ?_
      rintro _ hz ⟨_, rfl, rfl, hh⟩
      rw [hh]
      show Ev w Y_X9_bars 95 [some (vR 55), some (vI k), some (vI (240 + (6 * k))), none, none] [vI (cif ((h 71 ((240 + (6 * k)) + 1)) < h 55 0) (h 60 (h 71 ((240 + (6 * k)) + 1))) 0)] h (rI K)
      have Ho := Ho.2
      refine e_aload_n (pc := 95) dX9_bars_95 rfl rfl ?_
      refine e_getR (q := 55) (ci := 9) (k := 19) (y := 71) (C := RX9) (T := TX9) (N := 52) (pc := 96) dX9_bars_96 rfl rfl ev_in9 rfl ul_4_201 ⟨rfl, rfl⟩ rfl ?_
      refine e_iload_n (pc := 99) dX9_bars_99 rfl rfl ?_
      refine e_iconst (pc := 100) dX9_bars_100 ⟨by decide, by decide⟩ ?_
      refine e_iadd (pc := 101) dX9_bars_101 Ho.1 ?_
      have Ho := Ho.2
      refine e_iald (q := 71) (x := (h 71 ((240 + (6 * k)) + 2))) (pc := 102) dX9_bars_102 rfl Ho.1 rfl ?_
      have Ho := Ho.2
      refine e_icmp_ge (pc := 103) (tgt := 108) dX9_bars_103 (by decide) (fun c3 => ?_) (fun c3 => ?_)
      · exact J1 ⟨c2, c3⟩
      · exact J2 (fun z => c3 z.2)
  · have H := H.2 c1
    refine e_aload_n (pc := 20) dX9_bars_20 rfl rfl ?_
    refine e_aload_n (pc := 21) dX9_bars_21 rfl rfl ?_
    refine e_getR (q := 55) (ci := 9) (k := 19) (y := 71) (C := RX9) (T := TX9) (N := 52) (pc := 22) dX9_bars_22 rfl rfl ev_in9 rfl ul_4_201 ⟨rfl, rfl⟩ rfl ?_
    refine e_iload_n (pc := 25) dX9_bars_25 rfl rfl ?_
    refine e_iconst (pc := 26) dX9_bars_26 ⟨by decide, by decide⟩ ?_
    refine e_iadd (pc := 27) dX9_bars_27 H.1 ?_
    have H := H.2
    refine e_iald (q := 71) (x := (h 71 ((240 + (6 * k)) + 1))) (pc := 28) dX9_bars_28 rfl H.1 rfl ?_
    have H := H.2
    refine e_invV (pc := 29) (Y' := Y_X9_stateOf) (as := [vI (h 71 ((240 + (6 * k)) + 1))]) (st := []) (lv0 := [some (vR 55), some (vI (h 71 ((240 + (6 * k)) + 1)))]) (q := 55) (ci := 9) (T := TX9) (N := 52) dX9_bars_29 m_X9_stateOf ul_5_190 ⟨ul_5_192, us_X9_stateOf⟩ ⟨rfl, rfl⟩ rfl rfl rfl rfl rfl rfl rfl (c_X9_stateOf w (h 71 ((240 + (6 * k)) + 1)) h H.1) ?_
    rintro _ hz ⟨_, rfl, rfl, hh⟩
    rw [hh]
    show Ev w Y_X9_bars 32 [some (vR 55), some (vI k), some (vI (240 + (6 * k))), none, none] [vI (cif ((h 71 ((240 + (6 * k)) + 1)) < h 55 0) (h 60 (h 71 ((240 + (6 * k)) + 1))) 0)] h (rI K)
    have H := H.2
    refine e_aload_n (pc := 32) dX9_bars_32 rfl rfl ?_
    refine e_getR (q := 55) (ci := 9) (k := 19) (y := 71) (C := RX9) (T := TX9) (N := 52) (pc := 33) dX9_bars_33 rfl rfl ev_in9 rfl ul_4_201 ⟨rfl, rfl⟩ rfl ?_
    refine e_iload_n (pc := 36) dX9_bars_36 rfl rfl ?_
    refine e_iconst (pc := 37) dX9_bars_37 ⟨by decide, by decide⟩ ?_
    refine e_iadd (pc := 38) dX9_bars_38 H.1 ?_
    have H := H.2
    refine e_iald (q := 71) (x := (h 71 ((240 + (6 * k)) + 2))) (pc := 39) dX9_bars_39 rfl H.1 rfl ?_
    have H := H.2
    have J : Ev w Y_X9_bars 71 [some (vR 55), some (vI k), some (vI (240 + (6 * k))), none, none] [vI (b2i ((¬ (cif ((h 71 ((240 + (6 * k)) + 1)) < h 55 0) (h 60 (h 71 ((240 + (6 * k)) + 1))) 0) < (h 71 ((240 + (6 * k)) + 2))) ∧ (¬ (cif ((h 71 ((240 + (6 * k)) + 3)) < h 55 0) (h 60 (h 71 ((240 + (6 * k)) + 3))) 0) < (h 71 ((240 + (6 * k)) + 4)))))] h (rI K) := by
      have H := H.2
      exact e_ret (pc := 71) (v := some (vI (b2i ((¬ (cif ((h 71 ((240 + (6 * k)) + 1)) < h 55 0) (h 60 (h 71 ((240 + (6 * k)) + 1))) 0) < (h 71 ((240 + (6 * k)) + 2))) ∧ (¬ (cif ((h 71 ((240 + (6 * k)) + 3)) < h 55 0) (h 60 (h 71 ((240 + (6 * k)) + 3))) 0) < (h 71 ((240 + (6 * k)) + 4))))))) dX9_bars_71 rfl (b2i_01 _) ⟨_, rfl, H⟩
    have Ho := H.1
    refine e_icmp_lt (pc := 40) (tgt := 70) dX9_bars_40 (by decide) (fun c4 => ?_) (fun c4 => ?_)
    · have Ho := Ho.1 c4
      refine e_iconst (pc := 70) dX9_bars_70 ⟨by decide, by decide⟩ ?_
      exact e_top (b2i_f (fun z => (fun z => z c4) z.1)) J
    · have Ho := Ho.2 c4
      refine e_aload_n (pc := 43) dX9_bars_43 rfl rfl ?_
      refine e_aload_n (pc := 44) dX9_bars_44 rfl rfl ?_
      refine e_getR (q := 55) (ci := 9) (k := 19) (y := 71) (C := RX9) (T := TX9) (N := 52) (pc := 45) dX9_bars_45 rfl rfl ev_in9 rfl ul_4_201 ⟨rfl, rfl⟩ rfl ?_
      refine e_iload_n (pc := 48) dX9_bars_48 rfl rfl ?_
      refine e_iconst (pc := 49) dX9_bars_49 ⟨by decide, by decide⟩ ?_
      refine e_iadd (pc := 50) dX9_bars_50 Ho.1 ?_
      have Ho := Ho.2
      refine e_iald (q := 71) (x := (h 71 ((240 + (6 * k)) + 3))) (pc := 51) dX9_bars_51 rfl Ho.1 rfl ?_
      have Ho := Ho.2
      refine e_invV (pc := 52) (Y' := Y_X9_stateOf) (as := [vI (h 71 ((240 + (6 * k)) + 3))]) (st := []) (lv0 := [some (vR 55), some (vI (h 71 ((240 + (6 * k)) + 3)))]) (q := 55) (ci := 9) (T := TX9) (N := 52) dX9_bars_52 m_X9_stateOf ul_5_190 ⟨ul_5_192, us_X9_stateOf⟩ ⟨rfl, rfl⟩ rfl rfl rfl rfl rfl rfl rfl (c_X9_stateOf w (h 71 ((240 + (6 * k)) + 3)) h Ho.1) ?_
      rintro _ hz ⟨_, rfl, rfl, hh⟩
      rw [hh]
      show Ev w Y_X9_bars 55 [some (vR 55), some (vI k), some (vI (240 + (6 * k))), none, none] [vI (cif ((h 71 ((240 + (6 * k)) + 3)) < h 55 0) (h 60 (h 71 ((240 + (6 * k)) + 3))) 0)] h (rI K)
      have Ho := Ho.2
      refine e_aload_n (pc := 55) dX9_bars_55 rfl rfl ?_
      refine e_getR (q := 55) (ci := 9) (k := 19) (y := 71) (C := RX9) (T := TX9) (N := 52) (pc := 56) dX9_bars_56 rfl rfl ev_in9 rfl ul_4_201 ⟨rfl, rfl⟩ rfl ?_
      refine e_iload_n (pc := 59) dX9_bars_59 rfl rfl ?_
      refine e_iconst (pc := 60) dX9_bars_60 ⟨by decide, by decide⟩ ?_
      refine e_iadd (pc := 61) dX9_bars_61 Ho.1 ?_
      have Ho := Ho.2
      refine e_iald (q := 71) (x := (h 71 ((240 + (6 * k)) + 4))) (pc := 62) dX9_bars_62 rfl Ho.1 rfl ?_
      have Ho := Ho.2
      refine e_icmp_lt (pc := 63) (tgt := 70) dX9_bars_63 (by decide) (fun c5 => ?_) (fun c5 => ?_)
      · refine e_iconst (pc := 70) dX9_bars_70 ⟨by decide, by decide⟩ ?_
        exact e_top (b2i_f (fun z => (fun z => z c5) z.2)) J
      · refine e_iconst (pc := 66) dX9_bars_66 ⟨by decide, by decide⟩ ?_
        refine e_goto (pc := 67) (tgt := 71) dX9_bars_67 (by decide) ?_
        exact e_top (b2i_t ⟨c4, c5⟩) J
set_option maxRecDepth 100000 in
set_option maxHeartbeats 4000000 in
theorem c_X9_bars (w : WD) (k : Int) (h : HP) (H : mfOK h ∧ mHOK h ∧ (0 ≤ k ∧ k < h 70 1)) : Ev w Y_X9_bars 0 [some (vR 55), some (vI k), none, none, none] [] h (rI (fun r h' => r = b2i (mBar h k) ∧ h' = h)) := by
  obtain ⟨hf, hH, hk⟩ := H
  have hi := hf.2 k hk.1 hk.2
  have h40 := hf.1
  have ir : ∀ x : Int, 0 ≤ x → x < 480 → iR x := fun x a b => ⟨by omega, by omega⟩
  have hs : ∀ t : Int, 0 ≤ t → t < 10 → cif (t < h 55 0) (h 60 t) 0 = h 60 t := fun t a b => by
    by_cases c : t < h 55 0
    · rw [cif_t c]
    · rw [cif_f c]; exact (hH.2.2.1 t (by omega) b).symm
  refine v_X9_bars w k h _ (fun n x2 x3 x4 g => g = h ∧ x2 = 240 + 6 * k ∧ (h 71 (240 + 6 * k) = 110 ∧ h 71 (240 + 6 * k + 2) ≤ h 60 (h 71 (240 + 6 * k + 1))) ∧ (0 ≤ x4 ∧ x4 ≤ 6) ∧ n = (6 - x4).toNat ∧ x3 = b2i (∃ f : Int, 0 ≤ f ∧ f < x4 ∧ h 62 f = h 56 (h 71 (240 + 6 * k + 1)))) ⟨ir _ (by omega) (by omega), ir _ (by omega) (by omega), by omega, fun c => ⟨by omega, ⟨fun _ => trivial, fun c2 => ?_⟩, fun c2 => ⟨6, rfl, rfl, ?_, by omega, rfl, (b2i_f (fun ⟨f, a, b, _⟩ => by omega)).symm⟩, fun c2 => ⟨(b2i_f (fun z => ?_)).symm, rfl⟩⟩, fun c => ?_⟩ ?_
  · rcases hi with ⟨e, b⟩ | ⟨e, b⟩ | ⟨e, b⟩
    · omega
    · omega
    · exact ⟨ir _ (by omega) (by omega), by omega, by omega, ir _ (by omega) (by omega), by omega, trivial⟩
  · rcases hi with ⟨e, b⟩ | ⟨e, b⟩ | ⟨e, b⟩
    · omega
    · omega
    · rw [hs _ (by omega) (by omega)] at c2
      exact c2
  · unfold mBar iBar at z
    rcases hi with ⟨e, b⟩ | ⟨e, b⟩ | ⟨e, b⟩
    · omega
    · omega
    · rw [hs _ (by omega) (by omega)] at c2
      rcases z with z | z
      · omega
      · exact c2 ⟨z.1, z.2.1⟩
  · rcases hi with ⟨e, b⟩ | ⟨e, b⟩ | ⟨e, b⟩
    · omega
    · refine ⟨ir _ (by omega) (by omega), by omega, by omega, ir _ (by omega) (by omega), by omega, ⟨fun _ => trivial, fun _ => ⟨ir _ (by omega) (by omega), by omega, by omega, ir _ (by omega) (by omega), by omega, trivial⟩⟩, b2i_c ?_, rfl⟩
      rw [hs _ (by omega) (by omega), hs _ (by omega) (by omega)]
      unfold mBar iBar
      rw [e]
      simp
    · omega
  · rintro n x2 x3 x4 g ⟨rfl, rfl, hp, h0, rfl, hx⟩
    have hb : 0 ≤ g 71 (240 + 6 * k + 1) ∧ g 71 (240 + 6 * k + 1) < 10 := by
      rcases hi with ⟨e, b⟩ | ⟨e, b⟩ | ⟨e, b⟩
      · omega
      · omega
      · exact b.1
    refine ⟨fun c => ⟨b2i_c ?_, rfl⟩, fun c => ⟨⟨fun _ => trivial, fun _ => ⟨by omega, ir _ (by omega) (by omega), by omega, hb, trivial⟩⟩, ⟨by omega, by omega⟩, (6 - (x4 + 1)).toNat, by omega, rfl, rfl, hp, by omega, rfl, b2i_c ?_⟩⟩
    · rw [hx, b2i_0]
      unfold mBar iBar
      constructor
      · intro z
        exact Or.inr ⟨hp.1, hp.2, fun f f0 f1 e => z ⟨f, f0, by omega, e⟩⟩
      · intro z
        rcases z with z | z
        · omega
        · rintro ⟨f, f0, f1, e⟩
          exact z.2.2 f f0 (by omega) e
    · rw [hx, b2i_0, Classical.not_not]
      constructor
      · rintro (⟨f, a, b, d⟩ | d)
        · exact ⟨f, a, by omega, d⟩
        · exact ⟨x4, h0.1, by omega, d⟩
      · rintro ⟨f, a, b, d⟩
        by_cases e : f = x4
        · subst e; exact Or.inr d
        · exact Or.inl ⟨f, a, by omega, d⟩
theorem mBar_c {h h' : HP} {k : Int} (h1 : h' 71 = h 71) (h2 : h' 60 = h 60) (h3 : h' 62 = h 62) (h4 : h' 56 = h 56) : mBar h' k ↔ mBar h k := by unfold mBar; rw [h1, h2, h3, h4]
theorem mfOK_c {h h' : HP} (h1 : h' 70 1 = h 70 1) (h2 : h' 71 = h 71) (hf : mfOK h) : mfOK h' := by unfold mfOK; rw [h1, h2]; exact hf
theorem mHOK_c {h h' : HP} (h0 : h' 55 0 = h 55 0) (h1 : h' 56 = h 56) (h2 : h' 57 = h 57) (h3 : h' 58 = h 58) (h4 : h' 60 = h 60) (h5 : h' 62 = h 62) (hf : mHOK h) : mHOK h' := by unfold mHOK; rw [h0, h1, h2, h3, h4, h5]; exact hf
def S_X9_layBars (h : HP) (K : HP → Prop) : Prop := (mfOK h ∧ mHOK h) ∧ ∀ h' : HP, (∀ q, q ≠ 82 → h' q = h q) → (∀ k : Int, 0 ≤ k → k < h 70 1 → h' 82 k = b2i (mBar h k)) → K h'
set_option maxRecDepth 100000 in
set_option maxHeartbeats 4000000 in
theorem v_X9_layBars (w : WD)  (h : HP) (K : HP → Prop) 
    (I1 : Nat → Int → HP → Prop)
    (H : (∃ m : Nat, I1 m 0 h))
    (H1 : ∀ (n1 : Nat) (x1 : Int) (g1 : HP), I1 n1 x1 g1 → (((g1 70 1) ≤ x1 → K g1) ∧ (¬ (g1 70 1) ≤ x1 → ((mfOK g1 ∧ mHOK g1 ∧ (0 ≤ x1 ∧ x1 < g1 70 1)) ∧ ((0 ≤ x1 ∧ x1 < 40) ∧ ((iR (x1 + 1)) ∧ (∃ m : Nat, m < n1 ∧ I1 m (x1 + 1) (sth g1 82 x1 (b2i (mBar g1 x1)))))))))) :
    Ev w Y_X9_layBars 0 [some (vR 55), none] [] h (rV K) := by
  have L1 : ∀ (n1 : Nat) (x1 : Int) (g1 : HP), I1 n1 x1 g1 → Ev w Y_X9_layBars 2 [some (vR 55), some (vI x1)] [] g1 (rV K) := by
    intro n1
    induction n1 using Nat.strongRecOn with
    | ind n1 ih1 =>
      intro x1 g1 H
      have H := H1 n1 x1 g1 H
      refine e_iload_n (pc := 2) dX9_layBars_2 rfl rfl ?_
      refine e_aload_n (pc := 3) dX9_layBars_3 rfl rfl ?_
      refine e_getR (q := 55) (ci := 9) (k := 18) (y := 70) (C := RX9) (T := TX9) (N := 52) (pc := 4) dX9_layBars_4 rfl rfl ev_in9 rfl ul_4_200 ⟨rfl, rfl⟩ rfl ?_
      refine e_iconst (pc := 7) dX9_layBars_7 ⟨by decide, by decide⟩ ?_
      refine e_iald (q := 70) (x := (g1 70 1)) (pc := 8) dX9_layBars_8 rfl ⟨by decide, by decide⟩ rfl ?_
      refine e_icmp_ge (pc := 9) (tgt := 29) dX9_layBars_9 (by decide) (fun c1 => ?_) (fun c1 => ?_)
      · have H := H.1 c1
        exact e_ret (pc := 29) (v := none) dX9_layBars_29 rfl trivial ⟨rfl, H⟩
      · have H := H.2 c1
        refine e_aload_n (pc := 12) dX9_layBars_12 rfl rfl ?_
        refine e_getR (q := 55) (ci := 9) (k := 41) (y := 82) (C := RX9) (T := TX9) (N := 52) (pc := 13) dX9_layBars_13 rfl rfl ev_in9 rfl ul_4_223 ⟨rfl, rfl⟩ rfl ?_
        refine e_iload_n (pc := 16) dX9_layBars_16 rfl rfl ?_
        refine e_aload_n (pc := 17) dX9_layBars_17 rfl rfl ?_
        refine e_iload_n (pc := 18) dX9_layBars_18 rfl rfl ?_
        refine e_invV (pc := 19) (Y' := Y_X9_bars) (as := [vI x1]) (st := [vI x1, vR 82]) (lv0 := [some (vR 55), some (vI x1), none, none, none]) (q := 55) (ci := 9) (T := TX9) (N := 52) dX9_layBars_19 m_X9_bars ul_5_186 ⟨ul_5_188, us_X9_bars⟩ ⟨rfl, rfl⟩ rfl rfl rfl rfl rfl rfl rfl (c_X9_bars w x1 g1 H.1) ?_
        rintro _ hz ⟨_, rfl, rfl, hh⟩
        rw [hh]
        show Ev w Y_X9_layBars 22 [some (vR 55), some (vI x1)] [vI (b2i (mBar g1 x1)), vI x1, vR 82] g1 (rV K)
        have H := H.2
        refine e_zast (q := 82) (pc := 22) dX9_layBars_22 rfl H.1 (b2i_01 _) ?_
        have H := H.2
        refine e_iinc (lv' := [some (vR 55), some (vI (x1 + 1))]) (pc := 23) dX9_layBars_23 rfl H.1 rfl rfl ?_
        have H := H.2
        refine e_goto (pc := 26) (tgt := 2) dX9_layBars_26 (by decide) ?_
        obtain ⟨m, hm, H⟩ := H
        exact ih1 m hm _ _ H
  refine e_iconst (pc := 0) dX9_layBars_0 ⟨by decide, by decide⟩ ?_
  refine e_istore_n (lv' := [some (vR 55), some (vI 0)]) (pc := 1) dX9_layBars_1 rfl rfl rfl ?_
  obtain ⟨m, H⟩ := H
  exact L1 m _ _ H
set_option maxRecDepth 100000 in
set_option maxHeartbeats 4000000 in
theorem c_X9_layBars (w : WD)  (h : HP) (K : HP → Prop)  (H : S_X9_layBars  h K) : Ev w Y_X9_layBars 0 [some (vR 55), none] [] h (rV K) := by
  obtain ⟨⟨hf, hH⟩, HK⟩ := H
  have h40 := hf.1
  refine v_X9_layBars w h K (fun n x1 g => (0 ≤ x1 ∧ x1 ≤ h 70 1) ∧ n = (40 - x1).toNat ∧ (∀ q, q ≠ 82 → g q = h q) ∧ ∀ k : Int, 0 ≤ k → k < x1 → g 82 k = b2i (mBar h k)) ⟨40, by omega, rfl, fun _ _ => rfl, fun k a b => by omega⟩ ?_
  rintro n x1 g ⟨h0, rfl, hg, hb⟩
  have g70 : g 70 = h 70 := hg 70 (by decide)
  have hbc : mBar g x1 ↔ mBar h x1 := mBar_c (hg _ (by decide)) (hg _ (by decide)) (hg _ (by decide)) (hg _ (by decide))
  rw [g70]
  refine ⟨fun c => HK g hg (fun k a b => hb k a (by omega)), fun c => ⟨⟨mfOK_c (by rw [g70]) (hg _ (by decide)) hf, mHOK_c (by rw [hg 55 (by decide)]) (hg _ (by decide)) (hg _ (by decide)) (hg _ (by decide)) (hg _ (by decide)) (hg _ (by decide)) hH, by omega⟩, by omega, ⟨by omega, by omega⟩, (40 - (x1 + 1)).toNat, by omega, by omega, rfl, fun q z => by rw [sth_ne z]; exact hg q z, fun k a b => ?_⟩⟩
  rw [sth_eq]
  by_cases e : k = x1
  · subst e; rw [us_s, b2i_c hbc]
  · rw [us_n e]; exact hb k a (by omega)
set_option maxRecDepth 100000 in
set_option maxHeartbeats 4000000 in
theorem v_X9_newBar (w : WD)  (h : HP) (K : Int → HP → Prop) 
    (I1 : Nat → Int → HP → Prop)
    (H : (∃ m : Nat, I1 m 0 h))
    (H1 : ∀ (n1 : Nat) (x1 : Int) (g1 : HP), I1 n1 x1 g1 → (((g1 70 1) ≤ x1 → K 0 g1) ∧ (¬ (g1 70 1) ≤ x1 → ((0 ≤ x1 ∧ x1 < 40) ∧ ((((¬ (g1 82 x1) = 0 → True) ∧ ((g1 82 x1) = 0 → ((mfOK g1 ∧ mHOK g1 ∧ (0 ≤ x1 ∧ x1 < g1 70 1)) ∧ True)))) ∧ (((((g1 82 x1) = 0) ∧ ((mBar g1 x1))) → K 1 g1) ∧ (¬ (((g1 82 x1) = 0) ∧ ((mBar g1 x1))) → ((iR (x1 + 1)) ∧ (∃ m : Nat, m < n1 ∧ I1 m (x1 + 1) g1))))))))) :
    Ev w Y_X9_newBar 0 [some (vR 55), none] [] h (rI K) := by
  have L1 : ∀ (n1 : Nat) (x1 : Int) (g1 : HP), I1 n1 x1 g1 → Ev w Y_X9_newBar 2 [some (vR 55), some (vI x1)] [] g1 (rI K) := by
    intro n1
    induction n1 using Nat.strongRecOn with
    | ind n1 ih1 =>
      intro x1 g1 H
      have H := H1 n1 x1 g1 H
      refine e_iload_n (pc := 2) dX9_newBar_2 rfl rfl ?_
      refine e_aload_n (pc := 3) dX9_newBar_3 rfl rfl ?_
      refine e_getR (q := 55) (ci := 9) (k := 18) (y := 70) (C := RX9) (T := TX9) (N := 52) (pc := 4) dX9_newBar_4 rfl rfl ev_in9 rfl ul_4_200 ⟨rfl, rfl⟩ rfl ?_
      refine e_iconst (pc := 7) dX9_newBar_7 ⟨by decide, by decide⟩ ?_
      refine e_iald (q := 70) (x := (g1 70 1)) (pc := 8) dX9_newBar_8 rfl ⟨by decide, by decide⟩ rfl ?_
      refine e_icmp_ge (pc := 9) (tgt := 37) dX9_newBar_9 (by decide) (fun c1 => ?_) (fun c1 => ?_)
      · have H := H.1 c1
        refine e_iconst (pc := 37) dX9_newBar_37 ⟨by decide, by decide⟩ ?_
        exact e_ret (pc := 38) (v := some (vI 0)) dX9_newBar_38 rfl (Or.inl rfl) ⟨_, rfl, H⟩
      · have H := H.2 c1
        refine e_aload_n (pc := 12) dX9_newBar_12 rfl rfl ?_
        refine e_getR (q := 55) (ci := 9) (k := 41) (y := 82) (C := RX9) (T := TX9) (N := 52) (pc := 13) dX9_newBar_13 rfl rfl ev_in9 rfl ul_4_223 ⟨rfl, rfl⟩ rfl ?_
        refine e_iload_n (pc := 16) dX9_newBar_16 rfl rfl ?_
        refine e_zald (q := 82) (x := (g1 82 x1)) (pc := 17) dX9_newBar_17 rfl H.1 rfl ?_
        have H := H.2
        have Ho := H.1
        have H := H.2
        have J1 : (((g1 82 x1) = 0) ∧ ((mBar g1 x1))) → Ev w Y_X9_newBar 29 [some (vR 55), some (vI x1)] [] g1 (rI K) := by
          intro hp
          have H := H.1 hp
          refine e_iconst (pc := 29) dX9_newBar_29 ⟨by decide, by decide⟩ ?_
          exact e_ret (pc := 30) (v := some (vI 1)) dX9_newBar_30 rfl (Or.inr rfl) ⟨_, rfl, H⟩
        have J2 : ¬ (((g1 82 x1) = 0) ∧ ((mBar g1 x1))) → Ev w Y_X9_newBar 31 [some (vR 55), some (vI x1)] [] g1 (rI K) := by
          intro hp
          have H := H.2 hp
          refine e_iinc (lv' := [some (vR 55), some (vI (x1 + 1))]) (pc := 31) dX9_newBar_31 rfl H.1 rfl rfl ?_
          have H := H.2
          refine e_goto (pc := 34) (tgt := 2) dX9_newBar_34 (by decide) ?_
          obtain ⟨m, hm, H⟩ := H
          exact ih1 m hm _ _ H
        refine e_if_ne (pc := 18) (tgt := 31) dX9_newBar_18 (by decide) (fun c2 => ?_) (fun c2 => ?_)
        · have Ho := Ho.1 c2
          exact J2 (fun z => c2 z.1)
        · have Ho := Ho.2 c2
          refine e_aload_n (pc := 21) dX9_newBar_21 rfl rfl ?_
          refine e_iload_n (pc := 22) dX9_newBar_22 rfl rfl ?_
          refine e_invV (pc := 23) (Y' := Y_X9_bars) (as := [vI x1]) (st := []) (lv0 := [some (vR 55), some (vI x1), none, none, none]) (q := 55) (ci := 9) (T := TX9) (N := 52) dX9_newBar_23 m_X9_bars ul_5_186 ⟨ul_5_188, us_X9_bars⟩ ⟨rfl, rfl⟩ rfl rfl rfl rfl rfl rfl rfl (c_X9_bars w x1 g1 Ho.1) ?_
          rintro _ hz ⟨_, rfl, rfl, hh⟩
          rw [hh]
          show Ev w Y_X9_newBar 26 [some (vR 55), some (vI x1)] [vI (b2i (mBar g1 x1))] g1 (rI K)
          have Ho := Ho.2
          refine e_ifb_eq (pc := 26) (tgt := 31) dX9_newBar_26 (by decide) (fun c3 => ?_) (fun c3 => ?_)
          · exact J2 (fun z => c3 z.2)
          · exact J1 ⟨c2, c3⟩
  refine e_iconst (pc := 0) dX9_newBar_0 ⟨by decide, by decide⟩ ?_
  refine e_istore_n (lv' := [some (vR 55), some (vI 0)]) (pc := 1) dX9_newBar_1 rfl rfl rfl ?_
  obtain ⟨m, H⟩ := H
  exact L1 m _ _ H
set_option maxRecDepth 100000 in
set_option maxHeartbeats 4000000 in
theorem c_X9_newBar (w : WD)  (h : HP) (H : mfOK h ∧ mHOK h) : Ev w Y_X9_newBar 0 [some (vR 55), none] [] h (rI (fun r h' => r = b2i (∃ k : Int, 0 ≤ k ∧ k < h 70 1 ∧ h 82 k = 0 ∧ mBar h k) ∧ h' = h)) := by
  obtain ⟨hf, hH⟩ := H
  have h40 := hf.1
  refine v_X9_newBar w h _ (fun n x1 g => g = h ∧ (0 ≤ x1 ∧ x1 ≤ h 70 1) ∧ n = (40 - x1).toNat ∧ ∀ k : Int, 0 ≤ k → k < x1 → ¬ (h 82 k = 0 ∧ mBar h k)) ⟨40, rfl, by omega, rfl, fun k a b => by omega⟩ ?_
  rintro n x1 g ⟨rfl, h0, rfl, hb⟩
  refine ⟨fun c => ⟨(b2i_f (fun ⟨k, a, b, d⟩ => hb k a (by omega) d)).symm, rfl⟩, fun c => ⟨by omega, ⟨fun _ => trivial, fun _ => ⟨⟨hf, hH, by omega⟩, trivial⟩⟩, fun c2 => ⟨(b2i_t ⟨x1, h0.1, by omega, c2⟩).symm, rfl⟩, fun c2 => ⟨⟨by omega, by omega⟩, (40 - (x1 + 1)).toNat, by omega, rfl, by omega, rfl, fun k a b => ?_⟩⟩⟩
  by_cases e : k = x1
  · subst e; exact c2
  · exact hb k a (by omega)
set_option maxRecDepth 100000 in
set_option maxHeartbeats 4000000 in
theorem v_X9_barred (w : WD)  (h : HP) (K : Int → HP → Prop) 
    (I1 : Nat → Int → Int → HP → Prop)
    (H : (∃ m : Nat, I1 m 0 0 h))
    (H1 : ∀ (n1 : Nat) (x1 : Int) (x2 : Int) (g1 : HP), I1 n1 x1 x2 g1 → (((g1 70 1) ≤ x2 → K x1 g1) ∧ (¬ (g1 70 1) ≤ x2 → ((mfOK g1 ∧ mHOK g1 ∧ (0 ≤ x2 ∧ x2 < g1 70 1)) ∧ ((iR (x1 + (b2i ((mBar g1 x2))))) ∧ ((iR (x2 + 1)) ∧ (∃ m : Nat, m < n1 ∧ I1 m (x1 + (b2i ((mBar g1 x2)))) (x2 + 1) g1))))))) :
    Ev w Y_X9_barred 0 [some (vR 55), none, none] [] h (rI K) := by
  have L1 : ∀ (n1 : Nat) (x1 : Int) (x2 : Int) (g1 : HP), I1 n1 x1 x2 g1 → Ev w Y_X9_barred 4 [some (vR 55), some (vI x1), some (vI x2)] [] g1 (rI K) := by
    intro n1
    induction n1 using Nat.strongRecOn with
    | ind n1 ih1 =>
      intro x1 x2 g1 H
      have H := H1 n1 x1 x2 g1 H
      refine e_iload_n (pc := 4) dX9_barred_4 rfl rfl ?_
      refine e_aload_n (pc := 5) dX9_barred_5 rfl rfl ?_
      refine e_getR (q := 55) (ci := 9) (k := 18) (y := 70) (C := RX9) (T := TX9) (N := 52) (pc := 6) dX9_barred_6 rfl rfl ev_in9 rfl ul_4_200 ⟨rfl, rfl⟩ rfl ?_
      refine e_iconst (pc := 9) dX9_barred_9 ⟨by decide, by decide⟩ ?_
      refine e_iald (q := 70) (x := (g1 70 1)) (pc := 10) dX9_barred_10 rfl ⟨by decide, by decide⟩ rfl ?_
      refine e_icmp_ge (pc := 11) (tgt := 36) dX9_barred_11 (by decide) (fun c1 => ?_) (fun c1 => ?_)
      · have H := H.1 c1
        refine e_iload_n (pc := 36) dX9_barred_36 rfl rfl ?_
        exact e_ret (pc := 37) (v := some (vI x1)) dX9_barred_37 rfl trivial ⟨_, rfl, H⟩
      · have H := H.2 c1
        refine e_iload_n (pc := 14) dX9_barred_14 rfl rfl ?_
        refine e_aload_n (pc := 15) dX9_barred_15 rfl rfl ?_
        refine e_iload_n (pc := 16) dX9_barred_16 rfl rfl ?_
        refine e_invV (pc := 17) (Y' := Y_X9_bars) (as := [vI x2]) (st := [vI x1]) (lv0 := [some (vR 55), some (vI x2), none, none, none]) (q := 55) (ci := 9) (T := TX9) (N := 52) dX9_barred_17 m_X9_bars ul_5_186 ⟨ul_5_188, us_X9_bars⟩ ⟨rfl, rfl⟩ rfl rfl rfl rfl rfl rfl rfl (c_X9_bars w x2 g1 H.1) ?_
        rintro _ hz ⟨_, rfl, rfl, hh⟩
        rw [hh]
        show Ev w Y_X9_barred 20 [some (vR 55), some (vI x1), some (vI x2)] [vI (b2i (mBar g1 x2)), vI x1] g1 (rI K)
        have H := H.2
        have J : Ev w Y_X9_barred 28 [some (vR 55), some (vI x1), some (vI x2)] [vI (b2i ((mBar g1 x2))), vI x1] g1 (rI K) := by
          refine e_iadd (pc := 28) dX9_barred_28 H.1 ?_
          have H := H.2
          refine e_istore_n (lv' := [some (vR 55), some (vI (x1 + (b2i ((mBar g1 x2))))), some (vI x2)]) (pc := 29) dX9_barred_29 rfl rfl rfl ?_
          refine e_iinc (lv' := [some (vR 55), some (vI (x1 + (b2i ((mBar g1 x2))))), some (vI (x2 + 1))]) (pc := 30) dX9_barred_30 rfl H.1 rfl rfl ?_
          have H := H.2
          refine e_goto (pc := 33) (tgt := 4) dX9_barred_33 (by decide) ?_
          obtain ⟨m, hm, H⟩ := H
          exact ih1 m hm _ _ _ H
        refine e_ifb_eq (pc := 20) (tgt := 27) dX9_barred_20 (by decide) (fun c2 => ?_) (fun c2 => ?_)
        · refine e_iconst (pc := 27) dX9_barred_27 ⟨by decide, by decide⟩ ?_
          exact e_top (b2i_f c2) J
        · refine e_iconst (pc := 23) dX9_barred_23 ⟨by decide, by decide⟩ ?_
          refine e_goto (pc := 24) (tgt := 28) dX9_barred_24 (by decide) ?_
          exact e_top (b2i_t c2) J
  refine e_iconst (pc := 0) dX9_barred_0 ⟨by decide, by decide⟩ ?_
  refine e_istore_n (lv' := [some (vR 55), some (vI 0), none]) (pc := 1) dX9_barred_1 rfl rfl rfl ?_
  refine e_iconst (pc := 2) dX9_barred_2 ⟨by decide, by decide⟩ ?_
  refine e_istore_n (lv' := [some (vR 55), some (vI 0), some (vI 0)]) (pc := 3) dX9_barred_3 rfl rfl rfl ?_
  obtain ⟨m, H⟩ := H
  exact L1 m _ _ _ H
set_option maxRecDepth 100000 in
set_option maxHeartbeats 4000000 in
theorem c_X9_barred (w : WD)  (h : HP) (H : mfOK h ∧ mHOK h) : Ev w Y_X9_barred 0 [some (vR 55), none, none] [] h (rI (fun r h' => r = (cnt (fun k => mBar h k) (h 70 1).toNat) ∧ h' = h)) := by
  obtain ⟨hf, hH⟩ := H
  have h40 := hf.1
  refine v_X9_barred w h _ (fun n x1 x2 g => g = h ∧ (0 ≤ x2 ∧ x2 ≤ h 70 1) ∧ n = (40 - x2).toNat ∧ x1 = cnt (fun k => mBar h k) x2.toNat) ⟨40, rfl, by omega, rfl, rfl⟩ ?_
  rintro n x1 x2 g ⟨rfl, h0, rfl, rfl⟩
  have hc := cnt_b (fun k => mBar g k) x2.toNat
  have hb := b2i_01 (mBar g x2)
  refine ⟨fun c => ⟨by rw [show x2 = g 70 1 by omega], rfl⟩, fun c => ⟨⟨hf, hH, by omega⟩, ⟨by omega, by omega⟩, ⟨by omega, by omega⟩, (40 - (x2 + 1)).toNat, by omega, rfl, by omega, rfl, (cnt_next h0.1).symm⟩⟩
