/-! the log; the reference's quarrels -/
def S_X1_moveEntry (a1 : Int) (a2 : Int) (h : HP) (K : HP → Prop) : Prop :=
  ((0 ≤ a1 ∧ a1 < 60) ∧ ((0 ≤ a2 ∧ a2 < 60) ∧ ((0 ≤ a1 ∧ a1 < 60) ∧ ((0 ≤ a2 ∧ a2 < 60) ∧ ((0 ≤ a1 ∧ a1 < 60) ∧ ((0 ≤ a2 ∧ a2 < 60) ∧ ((0 ≤ a1 ∧ a1 < 60) ∧ ((0 ≤ a2 ∧ a2 < 60) ∧ ((0 ≤ a1 ∧ a1 < 60) ∧ ((0 ≤ a2 ∧ a2 < 60) ∧ K (sth (sth (sth (sth (sth h 48 a2 (h 48 a1)) 49 a2 (h 49 a1)) 50 a2 (h 50 a1)) 51 a2 (h 51 a1)) 52 a2 (h 52 a1))))))))))))
set_option maxRecDepth 100000 in
set_option maxHeartbeats 4000000 in
theorem v_X1_moveEntry (w : WD) (a1 : Int) (a2 : Int) (h : HP) (K : HP → Prop) 
    (H : ((0 ≤ a1 ∧ a1 < 60) ∧ ((0 ≤ a2 ∧ a2 < 60) ∧ ((0 ≤ a1 ∧ a1 < 60) ∧ ((0 ≤ a2 ∧ a2 < 60) ∧ ((0 ≤ a1 ∧ a1 < 60) ∧ ((0 ≤ a2 ∧ a2 < 60) ∧ ((0 ≤ a1 ∧ a1 < 60) ∧ ((0 ≤ a2 ∧ a2 < 60) ∧ ((0 ≤ a1 ∧ a1 < 60) ∧ ((0 ≤ a2 ∧ a2 < 60) ∧ K (sth (sth (sth (sth (sth h 48 a2 (h 48 a1)) 49 a2 (h 49 a1)) 50 a2 (h 50 a1)) 51 a2 (h 51 a1)) 52 a2 (h 52 a1))))))))))))) :
    Ev w Y_X1_moveEntry 0 [some (vR 8), some (vI a1), some (vI a2)] [] h (rV K) := by
  refine e_aload_n (pc := 0) dX1_moveEntry_0 rfl rfl ?_
  refine e_getR (q := 8) (ci := 1) (k := 0) (y := 48) (C := RX1) (T := TX1) (N := 8) (pc := 1) dX1_moveEntry_1 rfl rfl ev_in1 rfl ul_2_71 ⟨rfl, rfl⟩ rfl ?_
  refine e_iload_n (pc := 4) dX1_moveEntry_4 rfl rfl ?_
  refine e_aload_n (pc := 5) dX1_moveEntry_5 rfl rfl ?_
  refine e_getR (q := 8) (ci := 1) (k := 0) (y := 48) (C := RX1) (T := TX1) (N := 8) (pc := 6) dX1_moveEntry_6 rfl rfl ev_in1 rfl ul_2_71 ⟨rfl, rfl⟩ rfl ?_
  refine e_iload_n (pc := 9) dX1_moveEntry_9 rfl rfl ?_
  refine e_iald (q := 48) (x := (h 48 a1)) (pc := 10) dX1_moveEntry_10 rfl H.1 rfl ?_
  have H := H.2
  refine e_iast (q := 48) (pc := 11) dX1_moveEntry_11 rfl H.1 ?_
  have H := H.2
  refine e_aload_n (pc := 12) dX1_moveEntry_12 rfl rfl ?_
  refine e_getR (q := 8) (ci := 1) (k := 1) (y := 49) (C := RX1) (T := TX1) (N := 8) (pc := 13) dX1_moveEntry_13 rfl rfl ev_in1 rfl ul_2_72 ⟨rfl, rfl⟩ rfl ?_
  refine e_iload_n (pc := 16) dX1_moveEntry_16 rfl rfl ?_
  refine e_aload_n (pc := 17) dX1_moveEntry_17 rfl rfl ?_
  refine e_getR (q := 8) (ci := 1) (k := 1) (y := 49) (C := RX1) (T := TX1) (N := 8) (pc := 18) dX1_moveEntry_18 rfl rfl ev_in1 rfl ul_2_72 ⟨rfl, rfl⟩ rfl ?_
  refine e_iload_n (pc := 21) dX1_moveEntry_21 rfl rfl ?_
  refine e_iald (q := 49) (x := (h 49 a1)) (pc := 22) dX1_moveEntry_22 rfl H.1 rfl ?_
  have H := H.2
  refine e_iast (q := 49) (pc := 23) dX1_moveEntry_23 rfl H.1 ?_
  have H := H.2
  refine e_aload_n (pc := 24) dX1_moveEntry_24 rfl rfl ?_
  refine e_getR (q := 8) (ci := 1) (k := 2) (y := 50) (C := RX1) (T := TX1) (N := 8) (pc := 25) dX1_moveEntry_25 rfl rfl ev_in1 rfl ul_2_73 ⟨rfl, rfl⟩ rfl ?_
  refine e_iload_n (pc := 28) dX1_moveEntry_28 rfl rfl ?_
  refine e_aload_n (pc := 29) dX1_moveEntry_29 rfl rfl ?_
  refine e_getR (q := 8) (ci := 1) (k := 2) (y := 50) (C := RX1) (T := TX1) (N := 8) (pc := 30) dX1_moveEntry_30 rfl rfl ev_in1 rfl ul_2_73 ⟨rfl, rfl⟩ rfl ?_
  refine e_iload_n (pc := 33) dX1_moveEntry_33 rfl rfl ?_
  refine e_iald (q := 50) (x := (h 50 a1)) (pc := 34) dX1_moveEntry_34 rfl H.1 rfl ?_
  have H := H.2
  refine e_iast (q := 50) (pc := 35) dX1_moveEntry_35 rfl H.1 ?_
  have H := H.2
  refine e_aload_n (pc := 36) dX1_moveEntry_36 rfl rfl ?_
  refine e_getR (q := 8) (ci := 1) (k := 3) (y := 51) (C := RX1) (T := TX1) (N := 8) (pc := 37) dX1_moveEntry_37 rfl rfl ev_in1 rfl ul_2_74 ⟨rfl, rfl⟩ rfl ?_
  refine e_iload_n (pc := 40) dX1_moveEntry_40 rfl rfl ?_
  refine e_aload_n (pc := 41) dX1_moveEntry_41 rfl rfl ?_
  refine e_getR (q := 8) (ci := 1) (k := 3) (y := 51) (C := RX1) (T := TX1) (N := 8) (pc := 42) dX1_moveEntry_42 rfl rfl ev_in1 rfl ul_2_74 ⟨rfl, rfl⟩ rfl ?_
  refine e_iload_n (pc := 45) dX1_moveEntry_45 rfl rfl ?_
  refine e_iald (q := 51) (x := (h 51 a1)) (pc := 46) dX1_moveEntry_46 rfl H.1 rfl ?_
  have H := H.2
  refine e_iast (q := 51) (pc := 47) dX1_moveEntry_47 rfl H.1 ?_
  have H := H.2
  refine e_aload_n (pc := 48) dX1_moveEntry_48 rfl rfl ?_
  refine e_getR (q := 8) (ci := 1) (k := 4) (y := 52) (C := RX1) (T := TX1) (N := 8) (pc := 49) dX1_moveEntry_49 rfl rfl ev_in1 rfl ul_2_75 ⟨rfl, rfl⟩ rfl ?_
  refine e_iload_n (pc := 52) dX1_moveEntry_52 rfl rfl ?_
  refine e_aload_n (pc := 53) dX1_moveEntry_53 rfl rfl ?_
  refine e_getR (q := 8) (ci := 1) (k := 4) (y := 52) (C := RX1) (T := TX1) (N := 8) (pc := 54) dX1_moveEntry_54 rfl rfl ev_in1 rfl ul_2_75 ⟨rfl, rfl⟩ rfl ?_
  refine e_iload_n (pc := 57) dX1_moveEntry_57 rfl rfl ?_
  refine e_iald (q := 52) (x := (h 52 a1)) (pc := 58) dX1_moveEntry_58 rfl H.1 rfl ?_
  have H := H.2
  refine e_iast (q := 52) (pc := 59) dX1_moveEntry_59 rfl H.1 ?_
  have H := H.2
  exact e_ret (pc := 60) (v := none) dX1_moveEntry_60 rfl trivial ⟨rfl, H⟩
theorem c_X1_moveEntry (w : WD) (a1 : Int) (a2 : Int) (h : HP) (K : HP → Prop)  (H : S_X1_moveEntry a1 a2 h K) : Ev w Y_X1_moveEntry 0 [some (vR 8), some (vI a1), some (vI a2)] [] h (rV K) := v_X1_moveEntry w a1 a2 h K  H
def S_X1_dropOldest (h : HP) (K : HP → Prop) : Prop := (1 ≤ h 8 6 ∧ h 8 6 ≤ 60) ∧ ∀ h' : HP, (∀ q, q ≠ 48 → q ≠ 49 → q ≠ 50 → q ≠ 51 → q ≠ 52 → q ≠ 8 → h' q = h q) → (∀ i : Int, i ≠ 6 → h' 8 i = h 8 i) → h' 8 6 = h 8 6 - 1 → (∀ j : Int, 0 ≤ j → j < h 8 6 - 1 → h' 48 j = h 48 (j + 1) ∧ h' 49 j = h 49 (j + 1) ∧ h' 50 j = h 50 (j + 1) ∧ h' 51 j = h 51 (j + 1) ∧ h' 52 j = h 52 (j + 1)) → K h'
set_option maxRecDepth 100000 in
set_option maxHeartbeats 4000000 in
theorem v_X1_dropOldest (w : WD)  (h : HP) (K : HP → Prop) 
    (I1 : Nat → Int → HP → Prop)
    (H : (∃ m : Nat, I1 m 1 h))
    (H1 : ∀ (n1 : Nat) (x1 : Int) (g1 : HP), I1 n1 x1 g1 → (((g1 8 6) ≤ x1 → ((iR ((g1 8 6) - 1)) ∧ K (sth g1 8 6 ((g1 8 6) - 1)))) ∧ (¬ (g1 8 6) ≤ x1 → ((iR (x1 - 1)) ∧ (S_X1_moveEntry x1 (x1 - 1) g1 (fun h21 => ((iR (x1 + 1)) ∧ (∃ m : Nat, m < n1 ∧ I1 m (x1 + 1) h21)))))))) :
    Ev w Y_X1_dropOldest 0 [some (vR 8), none] [] h (rV K) := by
  have L1 : ∀ (n1 : Nat) (x1 : Int) (g1 : HP), I1 n1 x1 g1 → Ev w Y_X1_dropOldest 2 [some (vR 8), some (vI x1)] [] g1 (rV K) := by
    intro n1
    induction n1 using Nat.strongRecOn with
    | ind n1 ih1 =>
      intro x1 g1 H
      have H := H1 n1 x1 g1 H
      refine e_iload_n (pc := 2) dX1_dropOldest_2 rfl rfl ?_
      refine e_aload_n (pc := 3) dX1_dropOldest_3 rfl rfl ?_
      refine e_getI (q := 8) (ci := 1) (k := 6) (kz := 6) (C := RX1) (T := TX1) (N := 8) (x := (g1 8 6)) (pc := 4) dX1_dropOldest_4 rfl rfl rfl ev_in1 rfl ul_2_77 ⟨rfl, by decide⟩ rfl ?_
      refine e_icmp_ge (pc := 7) (tgt := 24) dX1_dropOldest_7 (by decide) (fun c1 => ?_) (fun c1 => ?_)
      · have H := H.1 c1
        refine e_aload_n (pc := 24) dX1_dropOldest_24 rfl rfl ?_
        refine e_dup (pc := 25) dX1_dropOldest_25 rfl ?_
        refine e_getI (q := 8) (ci := 1) (k := 6) (kz := 6) (C := RX1) (T := TX1) (N := 8) (x := (g1 8 6)) (pc := 26) dX1_dropOldest_26 rfl rfl rfl ev_in1 rfl ul_2_77 ⟨rfl, by decide⟩ rfl ?_
        refine e_iconst (pc := 29) dX1_dropOldest_29 ⟨by decide, by decide⟩ ?_
        refine e_isub (pc := 30) dX1_dropOldest_30 H.1 ?_
        have H := H.2
        refine e_put (q := 8) (ci := 1) (k := 6) (kz := 6) (C := RX1) (T := TX1) (N := 8) (ty := .int) (pc := 31) dX1_dropOldest_31 rfl rfl rfl ev_in1 tyX1 tyX1_ok nmX1 rfl ul_2_77 ⟨rfl, by decide⟩ rfl (tyX1_ok 6 (by decide)) (Or.inl rfl) ?_
        exact e_ret (pc := 34) (v := none) dX1_dropOldest_34 rfl trivial ⟨rfl, H⟩
      · have H := H.2 c1
        refine e_aload_n (pc := 10) dX1_dropOldest_10 rfl rfl ?_
        refine e_iload_n (pc := 11) dX1_dropOldest_11 rfl rfl ?_
        refine e_iload_n (pc := 12) dX1_dropOldest_12 rfl rfl ?_
        refine e_iconst (pc := 13) dX1_dropOldest_13 ⟨by decide, by decide⟩ ?_
        refine e_isub (pc := 14) dX1_dropOldest_14 H.1 ?_
        have H := H.2
        refine e_invV (pc := 15) (Y' := Y_X1_moveEntry) (as := [vI x1, vI (x1 - 1)]) (st := []) (lv0 := [some (vR 8), some (vI x1), some (vI (x1 - 1))]) (q := 8) (ci := 1) (T := TX1) (N := 8) dX1_dropOldest_15 m_X1_moveEntry ul_3_237 ⟨ul_3_239, us_X1_moveEntry⟩ ⟨rfl, rfl⟩ rfl rfl rfl rfl rfl rfl rfl (c_X1_moveEntry w x1 (x1 - 1) g1 _ H) ?_
        rintro _ h21 ⟨rfl, H⟩
        show Ev w Y_X1_dropOldest 18 [some (vR 8), some (vI x1)] [] h21 (rV K)
        refine e_iinc (lv' := [some (vR 8), some (vI (x1 + 1))]) (pc := 18) dX1_dropOldest_18 rfl H.1 rfl rfl ?_
        have H := H.2
        refine e_goto (pc := 21) (tgt := 2) dX1_dropOldest_21 (by decide) ?_
        obtain ⟨m, hm, H⟩ := H
        exact ih1 m hm _ _ H
  refine e_iconst (pc := 0) dX1_dropOldest_0 ⟨by decide, by decide⟩ ?_
  refine e_istore_n (lv' := [some (vR 8), some (vI 1)]) (pc := 1) dX1_dropOldest_1 rfl rfl rfl ?_
  obtain ⟨m, H⟩ := H
  exact L1 m _ _ H
set_option maxRecDepth 100000 in
set_option maxHeartbeats 4000000 in
theorem c_X1_dropOldest (w : WD)  (h : HP) (K : HP → Prop)  (H : S_X1_dropOldest  h K) : Ev w Y_X1_dropOldest 0 [some (vR 8), none] [] h (rV K) := by
  obtain ⟨h60, HK⟩ := H
  refine v_X1_dropOldest w h K (fun n x1 g => (1 ≤ x1 ∧ x1 ≤ h 8 6) ∧ n = (60 - x1).toNat ∧ (∀ q, q ≠ 48 → q ≠ 49 → q ≠ 50 → q ≠ 51 → q ≠ 52 → g q = h q) ∧ (∀ j : Int, 0 ≤ j → j < x1 - 1 → g 48 j = h 48 (j + 1) ∧ g 49 j = h 49 (j + 1) ∧ g 50 j = h 50 (j + 1) ∧ g 51 j = h 51 (j + 1) ∧ g 52 j = h 52 (j + 1)) ∧ (∀ j : Int, x1 - 1 ≤ j → g 48 j = h 48 j ∧ g 49 j = h 49 j ∧ g 50 j = h 50 j ∧ g 51 j = h 51 j ∧ g 52 j = h 52 j)) ⟨59, by omega, rfl, fun _ _ _ _ _ _ => rfl, fun j a b => by omega, fun _ _ => ⟨rfl, rfl, rfl, rfl, rfl⟩⟩ ?_
  rintro n x1 g ⟨h0, rfl, hg, hl, hr⟩
  rw [hg 8 (by decide) (by decide) (by decide) (by decide) (by decide)]
  refine ⟨fun c => ⟨⟨by omega, by omega⟩, HK _ (fun q a1 a2 a3 a4 a5 a6 => by rw [sth_ne a6]; exact hg q a1 a2 a3 a4 a5) (fun i a => by rw [sth_eq, us_n a, hg 8 (by decide) (by decide) (by decide) (by decide) (by decide)]) (by rw [sth_eq, us_s]) (fun j a b => by rw [sth_ne (by decide), sth_ne (by decide), sth_ne (by decide), sth_ne (by decide), sth_ne (by decide)]; exact hl j a (by omega))⟩, fun c => ⟨⟨by omega, by omega⟩, by omega, by omega, by omega, by omega, by omega, by omega, by omega, by omega, by omega, by omega, ⟨by omega, by omega⟩, (60 - (x1 + 1)).toNat, by omega, by omega, rfl, fun q a1 a2 a3 a4 a5 => by rw [sth_ne a5, sth_ne a4, sth_ne a3, sth_ne a2, sth_ne a1]; exact hg q a1 a2 a3 a4 a5, fun j a b => ?_, fun j a => ?_⟩⟩
  · have h1 := hr x1 (by omega)
    rw [sth_ne (by decide), sth_ne (by decide), sth_ne (by decide), sth_ne (by decide), sth_eq, sth_ne (by decide), sth_ne (by decide), sth_ne (by decide), sth_eq, sth_ne (by decide), sth_ne (by decide), sth_ne (by decide), sth_eq, sth_ne (by decide), sth_ne (by decide), sth_ne (by decide), sth_eq, sth_ne (by decide), sth_ne (by decide), sth_ne (by decide), sth_eq, sth_ne (by decide), sth_ne (by decide), sth_ne (by decide), sth_ne (by decide)]
    by_cases e : j = x1 - 1
    · subst e
      rw [us_s, us_s, us_s, us_s, us_s, show x1 - 1 + 1 = x1 by omega]
      exact h1
    · rw [us_n e, us_n e, us_n e, us_n e, us_n e]
      exact hl j a (by omega)
  · have e : j ≠ x1 - 1 := by omega
    rw [sth_ne (by decide), sth_ne (by decide), sth_ne (by decide), sth_ne (by decide), sth_eq, sth_ne (by decide), sth_ne (by decide), sth_ne (by decide), sth_eq, sth_ne (by decide), sth_ne (by decide), sth_ne (by decide), sth_eq, sth_ne (by decide), sth_ne (by decide), sth_ne (by decide), sth_eq, sth_ne (by decide), sth_ne (by decide), sth_ne (by decide), sth_eq, sth_ne (by decide), sth_ne (by decide), sth_ne (by decide), sth_ne (by decide), us_n e, us_n e, us_n e, us_n e, us_n e]
    exact hr j (by omega)
def S_X1_add (fo : Int) (dy : Int) (hr : Int) (t : Int) (v : Int) (h : HP) (K : HP → Prop) : Prop :=
  (((h 8 6) < 60 → ((0 ≤ (h 8 6) ∧ (h 8 6) < 60) ∧ ((0 ≤ (h 8 6) ∧ (h 8 6) < 60) ∧ ((0 ≤ (h 8 6) ∧ (h 8 6) < 60) ∧ ((0 ≤ (h 8 6) ∧ (h 8 6) < 60) ∧ ((0 ≤ (h 8 6) ∧ (h 8 6) < 60) ∧ ((iR ((h 8 6) + 1)) ∧ K (sth (sth (sth (sth (sth (sth h 48 (h 8 6) fo) 49 (h 8 6) dy) 50 (h 8 6) hr) 51 (h 8 6) t) 52 (h 8 6) v) 8 6 ((h 8 6) + 1))))))))) ∧ (¬ (h 8 6) < 60 → (S_X1_dropOldest  h (fun h21 => ((0 ≤ (h21 8 6) ∧ (h21 8 6) < 60) ∧ ((0 ≤ (h21 8 6) ∧ (h21 8 6) < 60) ∧ ((0 ≤ (h21 8 6) ∧ (h21 8 6) < 60) ∧ ((0 ≤ (h21 8 6) ∧ (h21 8 6) < 60) ∧ ((0 ≤ (h21 8 6) ∧ (h21 8 6) < 60) ∧ ((iR ((h21 8 6) + 1)) ∧ K (sth (sth (sth (sth (sth (sth h21 48 (h21 8 6) fo) 49 (h21 8 6) dy) 50 (h21 8 6) hr) 51 (h21 8 6) t) 52 (h21 8 6) v) 8 6 ((h21 8 6) + 1))))))))))))
set_option maxRecDepth 100000 in
set_option maxHeartbeats 4000000 in
theorem v_X1_add (w : WD) (fo : Int) (dy : Int) (hr : Int) (t : Int) (v : Int) (h : HP) (K : HP → Prop) 
    (H : (((h 8 6) < 60 → ((0 ≤ (h 8 6) ∧ (h 8 6) < 60) ∧ ((0 ≤ (h 8 6) ∧ (h 8 6) < 60) ∧ ((0 ≤ (h 8 6) ∧ (h 8 6) < 60) ∧ ((0 ≤ (h 8 6) ∧ (h 8 6) < 60) ∧ ((0 ≤ (h 8 6) ∧ (h 8 6) < 60) ∧ ((iR ((h 8 6) + 1)) ∧ K (sth (sth (sth (sth (sth (sth h 48 (h 8 6) fo) 49 (h 8 6) dy) 50 (h 8 6) hr) 51 (h 8 6) t) 52 (h 8 6) v) 8 6 ((h 8 6) + 1))))))))) ∧ (¬ (h 8 6) < 60 → (S_X1_dropOldest  h (fun h21 => ((0 ≤ (h21 8 6) ∧ (h21 8 6) < 60) ∧ ((0 ≤ (h21 8 6) ∧ (h21 8 6) < 60) ∧ ((0 ≤ (h21 8 6) ∧ (h21 8 6) < 60) ∧ ((0 ≤ (h21 8 6) ∧ (h21 8 6) < 60) ∧ ((0 ≤ (h21 8 6) ∧ (h21 8 6) < 60) ∧ ((iR ((h21 8 6) + 1)) ∧ K (sth (sth (sth (sth (sth (sth h21 48 (h21 8 6) fo) 49 (h21 8 6) dy) 50 (h21 8 6) hr) 51 (h21 8 6) t) 52 (h21 8 6) v) 8 6 ((h21 8 6) + 1))))))))))))) :
    Ev w Y_X1_add 0 [some (vR 8), some (vI fo), some (vI dy), some (vI hr), some (vI t), some (vI v)] [] h (rV K) := by
  refine e_aload_n (pc := 0) dX1_add_0 rfl rfl ?_
  refine e_getI (q := 8) (ci := 1) (k := 6) (kz := 6) (C := RX1) (T := TX1) (N := 8) (x := (h 8 6)) (pc := 1) dX1_add_1 rfl rfl rfl ev_in1 rfl ul_2_77 ⟨rfl, by decide⟩ rfl ?_
  refine e_bipush (pc := 4) dX1_add_4 ⟨by decide, by decide⟩ (by decide) ?_
  refine e_icmp_lt (pc := 6) (tgt := 13) dX1_add_6 (by decide) (fun c1 => ?_) (fun c1 => ?_)
  · have H := H.1 c1
    refine e_aload_n (pc := 13) dX1_add_13 rfl rfl ?_
    refine e_getR (q := 8) (ci := 1) (k := 0) (y := 48) (C := RX1) (T := TX1) (N := 8) (pc := 14) dX1_add_14 rfl rfl ev_in1 rfl ul_2_71 ⟨rfl, rfl⟩ rfl ?_
    refine e_aload_n (pc := 17) dX1_add_17 rfl rfl ?_
    refine e_getI (q := 8) (ci := 1) (k := 6) (kz := 6) (C := RX1) (T := TX1) (N := 8) (x := (h 8 6)) (pc := 18) dX1_add_18 rfl rfl rfl ev_in1 rfl ul_2_77 ⟨rfl, by decide⟩ rfl ?_
    refine e_iload_n (pc := 21) dX1_add_21 rfl rfl ?_
    refine e_iast (q := 48) (pc := 22) dX1_add_22 rfl H.1 ?_
    have H := H.2
    refine e_aload_n (pc := 23) dX1_add_23 rfl rfl ?_
    refine e_getR (q := 8) (ci := 1) (k := 1) (y := 49) (C := RX1) (T := TX1) (N := 8) (pc := 24) dX1_add_24 rfl rfl ev_in1 rfl ul_2_72 ⟨rfl, rfl⟩ rfl ?_
    refine e_aload_n (pc := 27) dX1_add_27 rfl rfl ?_
    refine e_getI (q := 8) (ci := 1) (k := 6) (kz := 6) (C := RX1) (T := TX1) (N := 8) (x := (h 8 6)) (pc := 28) dX1_add_28 rfl rfl rfl ev_in1 rfl ul_2_77 ⟨rfl, by decide⟩ rfl ?_
    refine e_iload_n (pc := 31) dX1_add_31 rfl rfl ?_
    refine e_iast (q := 49) (pc := 32) dX1_add_32 rfl H.1 ?_
    have H := H.2
    refine e_aload_n (pc := 33) dX1_add_33 rfl rfl ?_
    refine e_getR (q := 8) (ci := 1) (k := 2) (y := 50) (C := RX1) (T := TX1) (N := 8) (pc := 34) dX1_add_34 rfl rfl ev_in1 rfl ul_2_73 ⟨rfl, rfl⟩ rfl ?_
    refine e_aload_n (pc := 37) dX1_add_37 rfl rfl ?_
    refine e_getI (q := 8) (ci := 1) (k := 6) (kz := 6) (C := RX1) (T := TX1) (N := 8) (x := (h 8 6)) (pc := 38) dX1_add_38 rfl rfl rfl ev_in1 rfl ul_2_77 ⟨rfl, by decide⟩ rfl ?_
    refine e_iload_n (pc := 41) dX1_add_41 rfl rfl ?_
    refine e_iast (q := 50) (pc := 42) dX1_add_42 rfl H.1 ?_
    have H := H.2
    refine e_aload_n (pc := 43) dX1_add_43 rfl rfl ?_
    refine e_getR (q := 8) (ci := 1) (k := 3) (y := 51) (C := RX1) (T := TX1) (N := 8) (pc := 44) dX1_add_44 rfl rfl ev_in1 rfl ul_2_74 ⟨rfl, rfl⟩ rfl ?_
    refine e_aload_n (pc := 47) dX1_add_47 rfl rfl ?_
    refine e_getI (q := 8) (ci := 1) (k := 6) (kz := 6) (C := RX1) (T := TX1) (N := 8) (x := (h 8 6)) (pc := 48) dX1_add_48 rfl rfl rfl ev_in1 rfl ul_2_77 ⟨rfl, by decide⟩ rfl ?_
    refine e_iload (pc := 51) dX1_add_51 rfl ?_
    refine e_iast (q := 51) (pc := 53) dX1_add_53 rfl H.1 ?_
    have H := H.2
    refine e_aload_n (pc := 54) dX1_add_54 rfl rfl ?_
    refine e_getR (q := 8) (ci := 1) (k := 4) (y := 52) (C := RX1) (T := TX1) (N := 8) (pc := 55) dX1_add_55 rfl rfl ev_in1 rfl ul_2_75 ⟨rfl, rfl⟩ rfl ?_
    refine e_aload_n (pc := 58) dX1_add_58 rfl rfl ?_
    refine e_getI (q := 8) (ci := 1) (k := 6) (kz := 6) (C := RX1) (T := TX1) (N := 8) (x := (h 8 6)) (pc := 59) dX1_add_59 rfl rfl rfl ev_in1 rfl ul_2_77 ⟨rfl, by decide⟩ rfl ?_
    refine e_iload (pc := 62) dX1_add_62 rfl ?_
    refine e_iast (q := 52) (pc := 64) dX1_add_64 rfl H.1 ?_
    have H := H.2
    refine e_aload_n (pc := 65) dX1_add_65 rfl rfl ?_
    refine e_dup (pc := 66) dX1_add_66 rfl ?_
    refine e_getI (q := 8) (ci := 1) (k := 6) (kz := 6) (C := RX1) (T := TX1) (N := 8) (x := (h 8 6)) (pc := 67) dX1_add_67 rfl rfl rfl ev_in1 rfl ul_2_77 ⟨rfl, by decide⟩ rfl ?_
    refine e_iconst (pc := 70) dX1_add_70 ⟨by decide, by decide⟩ ?_
    refine e_iadd (pc := 71) dX1_add_71 H.1 ?_
    have H := H.2
    refine e_put (q := 8) (ci := 1) (k := 6) (kz := 6) (C := RX1) (T := TX1) (N := 8) (ty := .int) (pc := 72) dX1_add_72 rfl rfl rfl ev_in1 tyX1 tyX1_ok nmX1 rfl ul_2_77 ⟨rfl, by decide⟩ rfl (tyX1_ok 6 (by decide)) (Or.inl rfl) ?_
    exact e_ret (pc := 75) (v := none) dX1_add_75 rfl trivial ⟨rfl, H⟩
  · have H := H.2 c1
    refine e_aload_n (pc := 9) dX1_add_9 rfl rfl ?_
    refine e_invV (pc := 10) (Y' := Y_X1_dropOldest) (as := []) (st := []) (lv0 := [some (vR 8), none]) (q := 8) (ci := 1) (T := TX1) (N := 8) dX1_add_10 m_X1_dropOldest ul_3_233 ⟨ul_3_235, us_X1_dropOldest⟩ ⟨rfl, rfl⟩ rfl rfl rfl rfl rfl rfl rfl (c_X1_dropOldest w h _ H) ?_
    rintro _ h21 ⟨rfl, H⟩
    show Ev w Y_X1_add 13 [some (vR 8), some (vI fo), some (vI dy), some (vI hr), some (vI t), some (vI v)] [] h21 (rV K)
    refine e_aload_n (pc := 13) dX1_add_13 rfl rfl ?_
    refine e_getR (q := 8) (ci := 1) (k := 0) (y := 48) (C := RX1) (T := TX1) (N := 8) (pc := 14) dX1_add_14 rfl rfl ev_in1 rfl ul_2_71 ⟨rfl, rfl⟩ rfl ?_
    refine e_aload_n (pc := 17) dX1_add_17 rfl rfl ?_
    refine e_getI (q := 8) (ci := 1) (k := 6) (kz := 6) (C := RX1) (T := TX1) (N := 8) (x := (h21 8 6)) (pc := 18) dX1_add_18 rfl rfl rfl ev_in1 rfl ul_2_77 ⟨rfl, by decide⟩ rfl ?_
    refine e_iload_n (pc := 21) dX1_add_21 rfl rfl ?_
    refine e_iast (q := 48) (pc := 22) dX1_add_22 rfl H.1 ?_
    have H := H.2
    refine e_aload_n (pc := 23) dX1_add_23 rfl rfl ?_
    refine e_getR (q := 8) (ci := 1) (k := 1) (y := 49) (C := RX1) (T := TX1) (N := 8) (pc := 24) dX1_add_24 rfl rfl ev_in1 rfl ul_2_72 ⟨rfl, rfl⟩ rfl ?_
    refine e_aload_n (pc := 27) dX1_add_27 rfl rfl ?_
    refine e_getI (q := 8) (ci := 1) (k := 6) (kz := 6) (C := RX1) (T := TX1) (N := 8) (x := (h21 8 6)) (pc := 28) dX1_add_28 rfl rfl rfl ev_in1 rfl ul_2_77 ⟨rfl, by decide⟩ rfl ?_
    refine e_iload_n (pc := 31) dX1_add_31 rfl rfl ?_
    refine e_iast (q := 49) (pc := 32) dX1_add_32 rfl H.1 ?_
    have H := H.2
    refine e_aload_n (pc := 33) dX1_add_33 rfl rfl ?_
    refine e_getR (q := 8) (ci := 1) (k := 2) (y := 50) (C := RX1) (T := TX1) (N := 8) (pc := 34) dX1_add_34 rfl rfl ev_in1 rfl ul_2_73 ⟨rfl, rfl⟩ rfl ?_
    refine e_aload_n (pc := 37) dX1_add_37 rfl rfl ?_
    refine e_getI (q := 8) (ci := 1) (k := 6) (kz := 6) (C := RX1) (T := TX1) (N := 8) (x := (h21 8 6)) (pc := 38) dX1_add_38 rfl rfl rfl ev_in1 rfl ul_2_77 ⟨rfl, by decide⟩ rfl ?_
    refine e_iload_n (pc := 41) dX1_add_41 rfl rfl ?_
    refine e_iast (q := 50) (pc := 42) dX1_add_42 rfl H.1 ?_
    have H := H.2
    refine e_aload_n (pc := 43) dX1_add_43 rfl rfl ?_
    refine e_getR (q := 8) (ci := 1) (k := 3) (y := 51) (C := RX1) (T := TX1) (N := 8) (pc := 44) dX1_add_44 rfl rfl ev_in1 rfl ul_2_74 ⟨rfl, rfl⟩ rfl ?_
    refine e_aload_n (pc := 47) dX1_add_47 rfl rfl ?_
    refine e_getI (q := 8) (ci := 1) (k := 6) (kz := 6) (C := RX1) (T := TX1) (N := 8) (x := (h21 8 6)) (pc := 48) dX1_add_48 rfl rfl rfl ev_in1 rfl ul_2_77 ⟨rfl, by decide⟩ rfl ?_
    refine e_iload (pc := 51) dX1_add_51 rfl ?_
    refine e_iast (q := 51) (pc := 53) dX1_add_53 rfl H.1 ?_
    have H := H.2
    refine e_aload_n (pc := 54) dX1_add_54 rfl rfl ?_
    refine e_getR (q := 8) (ci := 1) (k := 4) (y := 52) (C := RX1) (T := TX1) (N := 8) (pc := 55) dX1_add_55 rfl rfl ev_in1 rfl ul_2_75 ⟨rfl, rfl⟩ rfl ?_
    refine e_aload_n (pc := 58) dX1_add_58 rfl rfl ?_
    refine e_getI (q := 8) (ci := 1) (k := 6) (kz := 6) (C := RX1) (T := TX1) (N := 8) (x := (h21 8 6)) (pc := 59) dX1_add_59 rfl rfl rfl ev_in1 rfl ul_2_77 ⟨rfl, by decide⟩ rfl ?_
    refine e_iload (pc := 62) dX1_add_62 rfl ?_
    refine e_iast (q := 52) (pc := 64) dX1_add_64 rfl H.1 ?_
    have H := H.2
    refine e_aload_n (pc := 65) dX1_add_65 rfl rfl ?_
    refine e_dup (pc := 66) dX1_add_66 rfl ?_
    refine e_getI (q := 8) (ci := 1) (k := 6) (kz := 6) (C := RX1) (T := TX1) (N := 8) (x := (h21 8 6)) (pc := 67) dX1_add_67 rfl rfl rfl ev_in1 rfl ul_2_77 ⟨rfl, by decide⟩ rfl ?_
    refine e_iconst (pc := 70) dX1_add_70 ⟨by decide, by decide⟩ ?_
    refine e_iadd (pc := 71) dX1_add_71 H.1 ?_
    have H := H.2
    refine e_put (q := 8) (ci := 1) (k := 6) (kz := 6) (C := RX1) (T := TX1) (N := 8) (ty := .int) (pc := 72) dX1_add_72 rfl rfl rfl ev_in1 tyX1 tyX1_ok nmX1 rfl ul_2_77 ⟨rfl, by decide⟩ rfl (tyX1_ok 6 (by decide)) (Or.inl rfl) ?_
    exact e_ret (pc := 75) (v := none) dX1_add_75 rfl trivial ⟨rfl, H⟩
theorem c_X1_add (w : WD) (fo : Int) (dy : Int) (hr : Int) (t : Int) (v : Int) (h : HP) (K : HP → Prop)  (H : S_X1_add fo dy hr t v h K) : Ev w Y_X1_add 0 [some (vR 8), some (vI fo), some (vI dy), some (vI hr), some (vI t), some (vI v)] [] h (rV K) := v_X1_add w fo dy hr t v h K  H
set_option maxRecDepth 100000 in
set_option maxHeartbeats 4000000 in
theorem v_X9_quarrel (w : WD)  (h : HP) (K : Int → HP → Prop) 
    (I1 : Nat → Int → HP → Prop)
    (I2 : Nat → Nat → Int → Int → HP → Prop)
    (H : (∃ m : Nat, I1 m 0 h))
    (H1 : ∀ (n1 : Nat) (x1 : Int) (g1 : HP), I1 n1 x1 g1 → (((g1 55 33) ≤ x1 → K (-4) g1) ∧ (¬ (g1 55 33) ≤ x1 → ((iR (x1 + 1)) ∧ (∃ m : Nat, I2 n1 m x1 (x1 + 1) g1)))))
    (H2 : ∀ (n1 : Nat) (n2 : Nat) (x1 : Int) (x2 : Int) (g2 : HP), I2 n1 n2 x1 x2 g2 → (((g2 55 33) ≤ x2 → ((iR (x1 + 1)) ∧ (∃ m : Nat, m < n1 ∧ I1 m (x1 + 1) g2))) ∧ (¬ (g2 55 33) ≤ x2 → ((iR (5 * x1)) ∧ ((0 ≤ (5 * x1) ∧ (5 * x1) < 40) ∧ ((iR (5 * x2)) ∧ ((0 ≤ (5 * x2) ∧ (5 * x2) < 40) ∧ ((((¬ (g2 79 (5 * x1)) = (g2 79 (5 * x2)) → True) ∧ ((g2 79 (5 * x1)) = (g2 79 (5 * x2)) → ((iR (5 * x1)) ∧ ((iR ((5 * x1) + 1)) ∧ ((0 ≤ ((5 * x1) + 1) ∧ ((5 * x1) + 1) < 40) ∧ ((iR (5 * x2)) ∧ ((iR ((5 * x2) + 1)) ∧ ((0 ≤ ((5 * x2) + 1) ∧ ((5 * x2) + 1) < 40) ∧ ((¬ (g2 79 ((5 * x1) + 1)) = (g2 79 ((5 * x2) + 1)) → True) ∧ ((g2 79 ((5 * x1) + 1)) = (g2 79 ((5 * x2) + 1)) → ((iR (5 * x1)) ∧ ((iR ((5 * x1) + 2)) ∧ ((0 ≤ ((5 * x1) + 2) ∧ ((5 * x1) + 2) < 40) ∧ ((iR (5 * x2)) ∧ ((iR ((5 * x2) + 2)) ∧ ((0 ≤ ((5 * x2) + 2) ∧ ((5 * x2) + 2) < 40) ∧ True))))))))))))))))) ∧ ((((¬ (((g2 79 (5 * x1)) = (g2 79 (5 * x2))) ∧ (((g2 79 ((5 * x1) + 1)) = (g2 79 ((5 * x2) + 1))) ∧ ((g2 79 ((5 * x1) + 2)) = (g2 79 ((5 * x2) + 2))))) → True) ∧ ((((g2 79 (5 * x1)) = (g2 79 (5 * x2))) ∧ (((g2 79 ((5 * x1) + 1)) = (g2 79 ((5 * x2) + 1))) ∧ ((g2 79 ((5 * x1) + 2)) = (g2 79 ((5 * x2) + 2))))) → ((iR (5 * x1)) ∧ ((iR ((5 * x1) + 3)) ∧ ((0 ≤ ((5 * x1) + 3) ∧ ((5 * x1) + 3) < 40) ∧ ((iR (5 * x2)) ∧ ((iR ((5 * x2) + 3)) ∧ ((0 ≤ ((5 * x2) + 3) ∧ ((5 * x2) + 3) < 40) ∧ ((¬ (g2 79 ((5 * x1) + 3)) = (g2 79 ((5 * x2) + 3)) → True) ∧ ((g2 79 ((5 * x1) + 3)) = (g2 79 ((5 * x2) + 3)) → ((iR (5 * x1)) ∧ ((iR ((5 * x1) + 4)) ∧ ((0 ≤ ((5 * x1) + 4) ∧ ((5 * x1) + 4) < 40) ∧ ((iR (5 * x2)) ∧ ((iR ((5 * x2) + 4)) ∧ ((0 ≤ ((5 * x2) + 4) ∧ ((5 * x2) + 4) < 40) ∧ True))))))))))))))))) ∧ (((((((g2 79 (5 * x1)) = (g2 79 (5 * x2))) ∧ (((g2 79 ((5 * x1) + 1)) = (g2 79 ((5 * x2) + 1))) ∧ ((g2 79 ((5 * x1) + 2)) = (g2 79 ((5 * x2) + 2)))))) ∧ (((g2 79 ((5 * x1) + 3)) = (g2 79 ((5 * x2) + 3))) ∧ (¬ (g2 79 ((5 * x1) + 4)) = (g2 79 ((5 * x2) + 4))))) → ((iR (10 * x1)) ∧ ((iR ((10 * x1) + x2)) ∧ K ((10 * x1) + x2) g2))) ∧ (¬ (((((g2 79 (5 * x1)) = (g2 79 (5 * x2))) ∧ (((g2 79 ((5 * x1) + 1)) = (g2 79 ((5 * x2) + 1))) ∧ ((g2 79 ((5 * x1) + 2)) = (g2 79 ((5 * x2) + 2)))))) ∧ (((g2 79 ((5 * x1) + 3)) = (g2 79 ((5 * x2) + 3))) ∧ (¬ (g2 79 ((5 * x1) + 4)) = (g2 79 ((5 * x2) + 4))))) → ((iR (x2 + 1)) ∧ (∃ m : Nat, m < n2 ∧ I2 n1 m x1 (x2 + 1) g2))))))))))))) :
    Ev w Y_X9_quarrel 0 [some (vR 55), none, none, none] [] h (rI K) := by
  have L1 : ∀ (n1 : Nat) (x1 : Int) (g1 : HP), I1 n1 x1 g1 → Ev w Y_X9_quarrel 2 [some (vR 55), some (vI x1), none, none] [] g1 (rI K) := by
    intro n1
    induction n1 using Nat.strongRecOn with
    | ind n1 ih1 =>
      have L2 : ∀ (n2 : Nat) (x1 : Int) (x2 : Int) (g2 : HP), I2 n1 n2 x1 x2 g2 → Ev w Y_X9_quarrel 14 [some (vR 55), some (vI x1), some (vI x2), none] [] g2 (rI K) := by
        intro n2
        induction n2 using Nat.strongRecOn with
        | ind n2 ih2 =>
          intro x1 x2 g2 H
          have H := H2 n1 n2 x1 x2 g2 H
          refine e_iload_n (pc := 14) dX9_quarrel_14 rfl rfl ?_
          refine e_aload_n (pc := 15) dX9_quarrel_15 rfl rfl ?_
          refine e_getI (q := 55) (ci := 9) (k := 33) (kz := 33) (C := RX9) (T := TX9) (N := 52) (x := (g2 55 33)) (pc := 16) dX9_quarrel_16 rfl rfl rfl ev_in9 rfl ul_4_215 ⟨rfl, by decide⟩ rfl ?_
          refine e_icmp_ge (pc := 19) (tgt := 156) dX9_quarrel_19 (by decide) (fun c2 => ?_) (fun c2 => ?_)
          · have H := H.1 c2
            refine e_iinc (lv' := [some (vR 55), some (vI (x1 + 1)), some (vI x2), none]) (pc := 156) dX9_quarrel_156 rfl H.1 rfl rfl ?_
            have H := H.2
            refine e_goto (pc := 159) (tgt := 2) dX9_quarrel_159 (by decide) ?_
            refine e_mask [true, true, false, false] rfl ?_
            obtain ⟨m, hm, H⟩ := H
            exact ih1 m hm _ _ H
          · have H := H.2 c2
            refine e_aload_n (pc := 22) dX9_quarrel_22 rfl rfl ?_
            refine e_getR (q := 55) (ci := 9) (k := 34) (y := 79) (C := RX9) (T := TX9) (N := 52) (pc := 23) dX9_quarrel_23 rfl rfl ev_in9 rfl ul_4_216 ⟨rfl, rfl⟩ rfl ?_
            refine e_iconst (pc := 26) dX9_quarrel_26 ⟨by decide, by decide⟩ ?_
            refine e_iload_n (pc := 27) dX9_quarrel_27 rfl rfl ?_
            refine e_imul (pc := 28) dX9_quarrel_28 H.1 ?_
            have H := H.2
            refine e_iald (q := 79) (x := (g2 79 (5 * x1))) (pc := 29) dX9_quarrel_29 rfl H.1 rfl ?_
            have H := H.2
            refine e_aload_n (pc := 30) dX9_quarrel_30 rfl rfl ?_
            refine e_getR (q := 55) (ci := 9) (k := 34) (y := 79) (C := RX9) (T := TX9) (N := 52) (pc := 31) dX9_quarrel_31 rfl rfl ev_in9 rfl ul_4_216 ⟨rfl, rfl⟩ rfl ?_
            refine e_iconst (pc := 34) dX9_quarrel_34 ⟨by decide, by decide⟩ ?_
            refine e_iload_n (pc := 35) dX9_quarrel_35 rfl rfl ?_
            refine e_imul (pc := 36) dX9_quarrel_36 H.1 ?_
            have H := H.2
            refine e_iald (q := 79) (x := (g2 79 (5 * x2))) (pc := 37) dX9_quarrel_37 rfl H.1 rfl ?_
            have H := H.2
            have J : Ev w Y_X9_quarrel 92 [some (vR 55), some (vI x1), some (vI x2), none] [vI (b2i (((g2 79 (5 * x1)) = (g2 79 (5 * x2))) ∧ (((g2 79 ((5 * x1) + 1)) = (g2 79 ((5 * x2) + 1))) ∧ ((g2 79 ((5 * x1) + 2)) = (g2 79 ((5 * x2) + 2))))))] g2 (rI K) := by
              have H := H.2
              refine e_istore_n (lv' := [some (vR 55), some (vI x1), some (vI x2), some (vI (b2i (((g2 79 (5 * x1)) = (g2 79 (5 * x2))) ∧ (((g2 79 ((5 * x1) + 1)) = (g2 79 ((5 * x2) + 1))) ∧ ((g2 79 ((5 * x1) + 2)) = (g2 79 ((5 * x2) + 2)))))))]) (pc := 92) dX9_quarrel_92 rfl rfl rfl ?_
              refine e_iload_n (pc := 93) dX9_quarrel_93 rfl rfl ?_
              have Ho := H.1
              have H := H.2
              have J1 : (((((g2 79 (5 * x1)) = (g2 79 (5 * x2))) ∧ (((g2 79 ((5 * x1) + 1)) = (g2 79 ((5 * x2) + 1))) ∧ ((g2 79 ((5 * x1) + 2)) = (g2 79 ((5 * x2) + 2)))))) ∧ (((g2 79 ((5 * x1) + 3)) = (g2 79 ((5 * x2) + 3))) ∧ (¬ (g2 79 ((5 * x1) + 4)) = (g2 79 ((5 * x2) + 4))))) → Ev w Y_X9_quarrel 143 [some (vR 55), some (vI x1), some (vI x2), some (vI (b2i (((g2 79 (5 * x1)) = (g2 79 (5 * x2))) ∧ (((g2 79 ((5 * x1) + 1)) = (g2 79 ((5 * x2) + 1))) ∧ ((g2 79 ((5 * x1) + 2)) = (g2 79 ((5 * x2) + 2)))))))] [] g2 (rI K) := by
                intro hp
                have H := H.1 hp
                refine e_bipush (pc := 143) dX9_quarrel_143 ⟨by decide, by decide⟩ (by decide) ?_
                refine e_iload_n (pc := 145) dX9_quarrel_145 rfl rfl ?_
                refine e_imul (pc := 146) dX9_quarrel_146 H.1 ?_
                have H := H.2
                refine e_iload_n (pc := 147) dX9_quarrel_147 rfl rfl ?_
                refine e_iadd (pc := 148) dX9_quarrel_148 H.1 ?_
                have H := H.2
                exact e_ret (pc := 149) (v := some (vI ((10 * x1) + x2))) dX9_quarrel_149 rfl trivial ⟨_, rfl, H⟩
              have J2 : ¬ (((((g2 79 (5 * x1)) = (g2 79 (5 * x2))) ∧ (((g2 79 ((5 * x1) + 1)) = (g2 79 ((5 * x2) + 1))) ∧ ((g2 79 ((5 * x1) + 2)) = (g2 79 ((5 * x2) + 2)))))) ∧ (((g2 79 ((5 * x1) + 3)) = (g2 79 ((5 * x2) + 3))) ∧ (¬ (g2 79 ((5 * x1) + 4)) = (g2 79 ((5 * x2) + 4))))) → Ev w Y_X9_quarrel 150 [some (vR 55), some (vI x1), some (vI x2), some (vI (b2i (((g2 79 (5 * x1)) = (g2 79 (5 * x2))) ∧ (((g2 79 ((5 * x1) + 1)) = (g2 79 ((5 * x2) + 1))) ∧ ((g2 79 ((5 * x1) + 2)) = (g2 79 ((5 * x2) + 2)))))))] [] g2 (rI K) := by
                intro hp
                have H := H.2 hp
                refine e_iinc (lv' := [some (vR 55), some (vI x1), some (vI (x2 + 1)), some (vI (b2i (((g2 79 (5 * x1)) = (g2 79 (5 * x2))) ∧ (((g2 79 ((5 * x1) + 1)) = (g2 79 ((5 * x2) + 1))) ∧ ((g2 79 ((5 * x1) + 2)) = (g2 79 ((5 * x2) + 2)))))))]) (pc := 150) dX9_quarrel_150 rfl H.1 rfl rfl ?_
                have H := H.2
                refine e_goto (pc := 153) (tgt := 14) dX9_quarrel_153 (by decide) ?_
                refine e_mask [true, true, true, false] rfl ?_
                obtain ⟨m, hm, H⟩ := H
                exact ih2 m hm _ _ _ H
              refine e_ifb_eq (pc := 94) (tgt := 150) dX9_quarrel_94 (by decide) (fun c3 => ?_) (fun c3 => ?_)
              · have Ho := Ho.1 c3
                exact J2 (fun z => c3 z.1)
              · have Ho := Ho.2 c3
                refine e_aload_n (pc := 97) dX9_quarrel_97 rfl rfl ?_
                refine e_getR (q := 55) (ci := 9) (k := 34) (y := 79) (C := RX9) (T := TX9) (N := 52) (pc := 98) dX9_quarrel_98 rfl rfl ev_in9 rfl ul_4_216 ⟨rfl, rfl⟩ rfl ?_
                refine e_iconst (pc := 101) dX9_quarrel_101 ⟨by decide, by decide⟩ ?_
                refine e_iload_n (pc := 102) dX9_quarrel_102 rfl rfl ?_
                refine e_imul (pc := 103) dX9_quarrel_103 Ho.1 ?_
                have Ho := Ho.2
                refine e_iconst (pc := 104) dX9_quarrel_104 ⟨by decide, by decide⟩ ?_
                refine e_iadd (pc := 105) dX9_quarrel_105 Ho.1 ?_
                have Ho := Ho.2
                refine e_iald (q := 79) (x := (g2 79 ((5 * x1) + 3))) (pc := 106) dX9_quarrel_106 rfl Ho.1 rfl ?_
                have Ho := Ho.2
                refine e_aload_n (pc := 107) dX9_quarrel_107 rfl rfl ?_
                refine e_getR (q := 55) (ci := 9) (k := 34) (y := 79) (C := RX9) (T := TX9) (N := 52) (pc := 108) dX9_quarrel_108 rfl rfl ev_in9 rfl ul_4_216 ⟨rfl, rfl⟩ rfl ?_
                refine e_iconst (pc := 111) dX9_quarrel_111 ⟨by decide, by decide⟩ ?_
                refine e_iload_n (pc := 112) dX9_quarrel_112 rfl rfl ?_
                refine e_imul (pc := 113) dX9_quarrel_113 Ho.1 ?_
                have Ho := Ho.2
                refine e_iconst (pc := 114) dX9_quarrel_114 ⟨by decide, by decide⟩ ?_
                refine e_iadd (pc := 115) dX9_quarrel_115 Ho.1 ?_
                have Ho := Ho.2
                refine e_iald (q := 79) (x := (g2 79 ((5 * x2) + 3))) (pc := 116) dX9_quarrel_116 rfl Ho.1 rfl ?_
                have Ho := Ho.2
                refine e_icmp_ne (pc := 117) (tgt := 150) dX9_quarrel_117 (by decide) (fun c4 => ?_) (fun c4 => ?_)
                · have Ho := Ho.1 c4
                  exact J2 (fun z => (fun z => c4 z.1) z.2)
                · have Ho := Ho.2 c4
                  refine e_aload_n (pc := 120) dX9_quarrel_120 rfl rfl ?_
                  refine e_getR (q := 55) (ci := 9) (k := 34) (y := 79) (C := RX9) (T := TX9) (N := 52) (pc := 121) dX9_quarrel_121 rfl rfl ev_in9 rfl ul_4_216 ⟨rfl, rfl⟩ rfl ?_
                  refine e_iconst (pc := 124) dX9_quarrel_124 ⟨by decide, by decide⟩ ?_
                  refine e_iload_n (pc := 125) dX9_quarrel_125 rfl rfl ?_
                  refine e_imul (pc := 126) dX9_quarrel_126 Ho.1 ?_
                  have Ho := Ho.2
                  refine e_iconst (pc := 127) dX9_quarrel_127 ⟨by decide, by decide⟩ ?_
                  refine e_iadd (pc := 128) dX9_quarrel_128 Ho.1 ?_
                  have Ho := Ho.2
                  refine e_iald (q := 79) (x := (g2 79 ((5 * x1) + 4))) (pc := 129) dX9_quarrel_129 rfl Ho.1 rfl ?_
                  have Ho := Ho.2
                  refine e_aload_n (pc := 130) dX9_quarrel_130 rfl rfl ?_
                  refine e_getR (q := 55) (ci := 9) (k := 34) (y := 79) (C := RX9) (T := TX9) (N := 52) (pc := 131) dX9_quarrel_131 rfl rfl ev_in9 rfl ul_4_216 ⟨rfl, rfl⟩ rfl ?_
                  refine e_iconst (pc := 134) dX9_quarrel_134 ⟨by decide, by decide⟩ ?_
                  refine e_iload_n (pc := 135) dX9_quarrel_135 rfl rfl ?_
                  refine e_imul (pc := 136) dX9_quarrel_136 Ho.1 ?_
                  have Ho := Ho.2
                  refine e_iconst (pc := 137) dX9_quarrel_137 ⟨by decide, by decide⟩ ?_
                  refine e_iadd (pc := 138) dX9_quarrel_138 Ho.1 ?_
                  have Ho := Ho.2
                  refine e_iald (q := 79) (x := (g2 79 ((5 * x2) + 4))) (pc := 139) dX9_quarrel_139 rfl Ho.1 rfl ?_
                  have Ho := Ho.2
                  refine e_icmp_eq (pc := 140) (tgt := 150) dX9_quarrel_140 (by decide) (fun c5 => ?_) (fun c5 => ?_)
                  · exact J2 (fun z => (fun z => (fun z => z c5) z.2) z.2)
                  · exact J1 ⟨c3, ⟨c4, c5⟩⟩
            have Ho := H.1
            refine e_icmp_ne (pc := 38) (tgt := 91) dX9_quarrel_38 (by decide) (fun c6 => ?_) (fun c6 => ?_)
            · have Ho := Ho.1 c6
              refine e_iconst (pc := 91) dX9_quarrel_91 ⟨by decide, by decide⟩ ?_
              exact e_top (b2i_f (fun z => c6 z.1)) J
            · have Ho := Ho.2 c6
              refine e_aload_n (pc := 41) dX9_quarrel_41 rfl rfl ?_
              refine e_getR (q := 55) (ci := 9) (k := 34) (y := 79) (C := RX9) (T := TX9) (N := 52) (pc := 42) dX9_quarrel_42 rfl rfl ev_in9 rfl ul_4_216 ⟨rfl, rfl⟩ rfl ?_
              refine e_iconst (pc := 45) dX9_quarrel_45 ⟨by decide, by decide⟩ ?_
              refine e_iload_n (pc := 46) dX9_quarrel_46 rfl rfl ?_
              refine e_imul (pc := 47) dX9_quarrel_47 Ho.1 ?_
              have Ho := Ho.2
              refine e_iconst (pc := 48) dX9_quarrel_48 ⟨by decide, by decide⟩ ?_
              refine e_iadd (pc := 49) dX9_quarrel_49 Ho.1 ?_
              have Ho := Ho.2
              refine e_iald (q := 79) (x := (g2 79 ((5 * x1) + 1))) (pc := 50) dX9_quarrel_50 rfl Ho.1 rfl ?_
              have Ho := Ho.2
              refine e_aload_n (pc := 51) dX9_quarrel_51 rfl rfl ?_
              refine e_getR (q := 55) (ci := 9) (k := 34) (y := 79) (C := RX9) (T := TX9) (N := 52) (pc := 52) dX9_quarrel_52 rfl rfl ev_in9 rfl ul_4_216 ⟨rfl, rfl⟩ rfl ?_
              refine e_iconst (pc := 55) dX9_quarrel_55 ⟨by decide, by decide⟩ ?_
              refine e_iload_n (pc := 56) dX9_quarrel_56 rfl rfl ?_
              refine e_imul (pc := 57) dX9_quarrel_57 Ho.1 ?_
              have Ho := Ho.2
              refine e_iconst (pc := 58) dX9_quarrel_58 ⟨by decide, by decide⟩ ?_
              refine e_iadd (pc := 59) dX9_quarrel_59 Ho.1 ?_
              have Ho := Ho.2
              refine e_iald (q := 79) (x := (g2 79 ((5 * x2) + 1))) (pc := 60) dX9_quarrel_60 rfl Ho.1 rfl ?_
              have Ho := Ho.2
              refine e_icmp_ne (pc := 61) (tgt := 91) dX9_quarrel_61 (by decide) (fun c7 => ?_) (fun c7 => ?_)
              · have Ho := Ho.1 c7
                refine e_iconst (pc := 91) dX9_quarrel_91 ⟨by decide, by decide⟩ ?_
                exact e_top (b2i_f (fun z => (fun z => c7 z.1) z.2)) J
              · have Ho := Ho.2 c7
                refine e_aload_n (pc := 64) dX9_quarrel_64 rfl rfl ?_
                refine e_getR (q := 55) (ci := 9) (k := 34) (y := 79) (C := RX9) (T := TX9) (N := 52) (pc := 65) dX9_quarrel_65 rfl rfl ev_in9 rfl ul_4_216 ⟨rfl, rfl⟩ rfl ?_
                refine e_iconst (pc := 68) dX9_quarrel_68 ⟨by decide, by decide⟩ ?_
                refine e_iload_n (pc := 69) dX9_quarrel_69 rfl rfl ?_
                refine e_imul (pc := 70) dX9_quarrel_70 Ho.1 ?_
                have Ho := Ho.2
                refine e_iconst (pc := 71) dX9_quarrel_71 ⟨by decide, by decide⟩ ?_
                refine e_iadd (pc := 72) dX9_quarrel_72 Ho.1 ?_
                have Ho := Ho.2
                refine e_iald (q := 79) (x := (g2 79 ((5 * x1) + 2))) (pc := 73) dX9_quarrel_73 rfl Ho.1 rfl ?_
                have Ho := Ho.2
                refine e_aload_n (pc := 74) dX9_quarrel_74 rfl rfl ?_
                refine e_getR (q := 55) (ci := 9) (k := 34) (y := 79) (C := RX9) (T := TX9) (N := 52) (pc := 75) dX9_quarrel_75 rfl rfl ev_in9 rfl ul_4_216 ⟨rfl, rfl⟩ rfl ?_
                refine e_iconst (pc := 78) dX9_quarrel_78 ⟨by decide, by decide⟩ ?_
                refine e_iload_n (pc := 79) dX9_quarrel_79 rfl rfl ?_
                refine e_imul (pc := 80) dX9_quarrel_80 Ho.1 ?_
                have Ho := Ho.2
                refine e_iconst (pc := 81) dX9_quarrel_81 ⟨by decide, by decide⟩ ?_
                refine e_iadd (pc := 82) dX9_quarrel_82 Ho.1 ?_
                have Ho := Ho.2
                refine e_iald (q := 79) (x := (g2 79 ((5 * x2) + 2))) (pc := 83) dX9_quarrel_83 rfl Ho.1 rfl ?_
                have Ho := Ho.2
                refine e_icmp_ne (pc := 84) (tgt := 91) dX9_quarrel_84 (by decide) (fun c8 => ?_) (fun c8 => ?_)
                · refine e_iconst (pc := 91) dX9_quarrel_91 ⟨by decide, by decide⟩ ?_
                  exact e_top (b2i_f (fun z => (fun z => c8 z.2) z.2)) J
                · refine e_iconst (pc := 87) dX9_quarrel_87 ⟨by decide, by decide⟩ ?_
                  refine e_goto (pc := 88) (tgt := 92) dX9_quarrel_88 (by decide) ?_
                  exact e_top (b2i_t ⟨c6, ⟨c7, c8⟩⟩) J
      intro x1 g1 H
      have H := H1 n1 x1 g1 H
      refine e_iload_n (pc := 2) dX9_quarrel_2 rfl rfl ?_
      refine e_aload_n (pc := 3) dX9_quarrel_3 rfl rfl ?_
      refine e_getI (q := 55) (ci := 9) (k := 33) (kz := 33) (C := RX9) (T := TX9) (N := 52) (x := (g1 55 33)) (pc := 4) dX9_quarrel_4 rfl rfl rfl ev_in9 rfl ul_4_215 ⟨rfl, by decide⟩ rfl ?_
      refine e_icmp_ge (pc := 7) (tgt := 162) dX9_quarrel_7 (by decide) (fun c1 => ?_) (fun c1 => ?_)
      · have H := H.1 c1
        refine e_bipush (pc := 162) dX9_quarrel_162 ⟨by decide, by decide⟩ (by decide) ?_
        exact e_ret (pc := 164) (v := some (vI (-4))) dX9_quarrel_164 rfl trivial ⟨_, rfl, H⟩
      · have H := H.2 c1
        refine e_iload_n (pc := 10) dX9_quarrel_10 rfl rfl ?_
        refine e_iconst (pc := 11) dX9_quarrel_11 ⟨by decide, by decide⟩ ?_
        refine e_iadd (pc := 12) dX9_quarrel_12 H.1 ?_
        have H := H.2
        refine e_istore_n (lv' := [some (vR 55), some (vI x1), some (vI (x1 + 1)), none]) (pc := 13) dX9_quarrel_13 rfl rfl rfl ?_
        obtain ⟨m, H⟩ := H
        exact L2 m _ _ _ H
  refine e_iconst (pc := 0) dX9_quarrel_0 ⟨by decide, by decide⟩ ?_
  refine e_istore_n (lv' := [some (vR 55), some (vI 0), none, none]) (pc := 1) dX9_quarrel_1 rfl rfl rfl ?_
  obtain ⟨m, H⟩ := H
  exact L1 m _ _ H
set_option maxRecDepth 100000 in
set_option maxHeartbeats 4000000 in
theorem c_X9_quarrel (w : WD)  (h : HP) (H : 0 ≤ h 55 33 ∧ h 55 33 ≤ 8) : Ev w Y_X9_quarrel 0 [some (vR 55), none, none, none] [] h (rI (fun r h' => r = (qrl (fun a b => (h 79 (5 * a) = h 79 (5 * b) ∧ h 79 (5 * a + 1) = h 79 (5 * b + 1) ∧ h 79 (5 * a + 2) = h 79 (5 * b + 2)) ∧ h 79 (5 * a + 3) = h 79 (5 * b + 3) ∧ ¬ h 79 (5 * a + 4) = h 79 (5 * b + 4)) (h 55 33).toNat) ∧ h' = h)) := by
  generalize hp : (fun a b : Int => (h 79 (5 * a) = h 79 (5 * b) ∧ h 79 (5 * a + 1) = h 79 (5 * b + 1) ∧ h 79 (5 * a + 2) = h 79 (5 * b + 2)) ∧ h 79 (5 * a + 3) = h 79 (5 * b + 3) ∧ ¬ h 79 (5 * a + 4) = h 79 (5 * b + 4)) = p
  have hpe : ∀ a b : Int, p a b ↔ ((h 79 (5 * a) = h 79 (5 * b) ∧ h 79 (5 * a + 1) = h 79 (5 * b + 1) ∧ h 79 (5 * a + 2) = h 79 (5 * b + 2)) ∧ h 79 (5 * a + 3) = h 79 (5 * b + 3) ∧ ¬ h 79 (5 * a + 4) = h 79 (5 * b + 4)) := fun a b => by rw [← hp]
  refine v_X9_quarrel w h _ (fun n x1 g => g = h ∧ ∃ k : Nat, x1 = (k : Int) ∧ (k : Int) ≤ h 55 33 ∧ n = (8 - x1).toNat ∧ ∀ a b : Int, 0 ≤ a → a < (k : Int) → a < b → b < h 55 33 → ¬ p a b)
    (fun n1 n2 x1 x2 g => g = h ∧ ∃ k m : Nat, x1 = (k : Int) ∧ (k : Int) < h 55 33 ∧ n1 = (8 - x1).toNat ∧ x2 = (m : Int) ∧ k < m ∧ (m : Int) ≤ h 55 33 ∧ n2 = (8 - x2).toNat ∧ (∀ a b : Int, 0 ≤ a → a < (k : Int) → a < b → b < h 55 33 → ¬ p a b) ∧ ∀ b : Int, (k : Int) < b → b < (m : Int) → ¬ p (k : Int) b) ⟨8, rfl, 0, rfl, by omega, rfl, fun a b y0 y1 => by omega⟩ ?_ ?_
  · rintro n x1 g ⟨rfl, k, rfl, hk, rfl, hn⟩
    refine ⟨fun c => ⟨(qrl_none (fun i j a b d => hn i j a (by omega) b (by omega))).symm, rfl⟩, fun c => ⟨⟨by omega, by omega⟩, 8 - (k + 1), rfl, k, k + 1, rfl, by omega, rfl, by omega, by omega, by omega, by omega, hn, fun b y0 y1 => by omega⟩⟩
  · rintro n1 n2 x1 x2 g ⟨rfl, k, m, rfl, hk, rfl, rfl, hkm, hm, rfl, hn, hn2⟩
    refine ⟨fun c => ⟨⟨by omega, by omega⟩, (8 - ((k + 1 : Nat) : Int)).toNat, by omega, rfl, k + 1, by omega, by omega, by omega, fun a b y0 y1 y2 y3 => ?_⟩, fun c => ⟨⟨by omega, by omega⟩, by omega, ⟨by omega, by omega⟩, by omega, ⟨fun _ => trivial, fun _ => ⟨⟨by omega, by omega⟩, ⟨by omega, by omega⟩, by omega, ⟨by omega, by omega⟩, ⟨by omega, by omega⟩, by omega, fun _ => trivial, fun _ => ⟨⟨by omega, by omega⟩, ⟨by omega, by omega⟩, by omega, ⟨by omega, by omega⟩, ⟨by omega, by omega⟩, by omega, trivial⟩⟩⟩, ⟨fun _ => trivial, fun _ => ⟨⟨by omega, by omega⟩, ⟨by omega, by omega⟩, by omega, ⟨by omega, by omega⟩, ⟨by omega, by omega⟩, by omega, fun _ => trivial, fun _ => ⟨⟨by omega, by omega⟩, ⟨by omega, by omega⟩, by omega, ⟨by omega, by omega⟩, ⟨by omega, by omega⟩, by omega, trivial⟩⟩⟩, fun z => ⟨⟨by omega, by omega⟩, ⟨by omega, by omega⟩, ?_, rfl⟩, fun z => ⟨⟨by omega, by omega⟩, (8 - ((m + 1 : Nat) : Int)).toNat, by omega, rfl, k, m + 1, rfl, hk, rfl, by omega, by omega, by omega, by omega, hn, fun b y0 y1 => ?_⟩⟩⟩
    · by_cases e : a = (k : Int)
      · subst e; exact hn2 b y2 (by omega)
      · exact hn a b y0 (by omega) y2 y3
    · exact (qrl_at hkm (by omega) ((hpe _ _).mpr z) (fun a b y0 y1 y2 y3 => hn a b y0 y1 y2 (by omega)) hn2).symm
    · by_cases e : b = (m : Int)
      · subst e; exact fun y => z ((hpe _ _).mp y)
      · exact hn2 b y0 (by omega)
