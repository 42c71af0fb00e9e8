/-! what is heard: meant, open, taken, asked -/
def EOK (h : HP) : Prop := (0 ≤ h 4 15 ∧ h 4 15 ≤ 12) ∧ (0 ≤ h 4 13 ∧ h 4 13 ≤ 5) ∧ (∀ i : Int, 0 ≤ i → i < 12 → (0 ≤ h 30 i ∧ h 30 i < 1024) ∧ (h 31 i = 0 ∨ h 31 i = 1)) ∧ ∀ i : Int, 0 ≤ i → i < h 4 15 → (0 ≤ h 27 i ∧ h 27 i < h 3 6 ∧ h 20 (h 27 i) = 0) ∧ (0 ≤ h 28 i ∧ h 28 i < h 3 6) ∧ (h 29 i = -1 ∨ (0 ≤ h 29 i ∧ h 29 i < h 3 6))
def wrd (h : HP) (i pt : Int) : Int := if pt = 0 then h 27 i else if pt = 1 then h 28 i else h 29 i
noncomputable def fsN (p : Int → Prop) : Nat → Int
  | 0 => -1
  | k + 1 => cif (fsN p k < 0) (cif (p (k : Int)) (k : Int) (-1)) (fsN p k)
theorem fsN_none {p : Int → Prop} : ∀ {n : Nat}, (∀ i : Int, 0 ≤ i → i < (n : Int) → ¬ p i) → fsN p n = -1
  | 0, _ => rfl
  | n + 1, h => by
    simp only [fsN]
    rw [fsN_none (n := n) (fun i a b => h i a (by omega)), cif_t (by decide), cif_f (h (n : Int) (by omega) (by omega))]
theorem fsN_at {p : Int → Prop} {k : Nat} (hn : ∀ i : Int, 0 ≤ i → i < (k : Int) → ¬ p i) (hp : p (k : Int)) : ∀ {n : Nat}, k < n → fsN p n = (k : Int)
  | 0, h => absurd h (by omega)
  | n + 1, h => by
    simp only [fsN]
    by_cases e : k = n
    · subst e
      rw [fsN_none hn, cif_t (by decide), cif_t hp]
    · rw [fsN_at hn hp (n := n) (by omega), cif_f (by omega)]
set_option maxRecDepth 100000 in
set_option maxHeartbeats 4000000 in
theorem v_X3_wordAt (w : WD) (i : Int) (pt : Int) (h : HP) (K : Int → HP → Prop) 
    (H : ((pt = 0 → ((0 ≤ i ∧ i < 12) ∧ K (h 27 i) h)) ∧ ((pt = 1 → ((0 ≤ i ∧ i < 12) ∧ K (h 28 i) h)) ∧ ((¬ pt = 0 ∧ ¬ pt = 1 → ((0 ≤ i ∧ i < 12) ∧ K (h 29 i) h)))))) :
    Ev w Y_X3_wordAt 0 [some (vR 4), some (vI i), some (vI pt)] [] h (rI K) := by
  refine e_iload_n (pc := 0) dX3_wordAt_0 rfl rfl ?_
  refine e_lookup (pc := 1) dX3_wordAt_1 (by decide) ?_
  by_cases c1 : pt = 0
  · have H := H.1 c1
    refine ⟨27, 28, by rw [c1]; rfl, by decide, ?_⟩
    refine e_aload_n (pc := 28) dX3_wordAt_28 rfl rfl ?_
    refine e_getR (q := 4) (ci := 3) (k := 3) (y := 27) (C := RX3) (T := TX3) (N := 16) (pc := 29) dX3_wordAt_29 rfl rfl ev_in3 rfl ul_1_154 ⟨rfl, rfl⟩ rfl ?_
    refine e_iload_n (pc := 32) dX3_wordAt_32 rfl rfl ?_
    refine e_iald (q := 27) (x := (h 27 i)) (pc := 33) dX3_wordAt_33 rfl H.1 rfl ?_
    have H := H.2
    exact e_ret (pc := 34) (v := some (vI (h 27 i))) dX3_wordAt_34 rfl trivial ⟨_, rfl, H⟩
  · skip
    by_cases c2 : pt = 1
    · have H := H.2.1 c2
      refine ⟨34, 35, by rw [c2]; rfl, by decide, ?_⟩
      refine e_aload_n (pc := 35) dX3_wordAt_35 rfl rfl ?_
      refine e_getR (q := 4) (ci := 3) (k := 4) (y := 28) (C := RX3) (T := TX3) (N := 16) (pc := 36) dX3_wordAt_36 rfl rfl ev_in3 rfl ul_1_156 ⟨rfl, rfl⟩ rfl ?_
      refine e_iload_n (pc := 39) dX3_wordAt_39 rfl rfl ?_
      refine e_iald (q := 28) (x := (h 28 i)) (pc := 40) dX3_wordAt_40 rfl H.1 rfl ?_
      have H := H.2
      exact e_ret (pc := 41) (v := some (vI (h 28 i))) dX3_wordAt_41 rfl trivial ⟨_, rfl, H⟩
    · skip
      have H := H.2.2 ⟨c1, c2⟩
      refine ⟨41, 42, by simp [Op.lookupswitch.offset] <;> (repeat' split) <;> omega, by decide, ?_⟩
      refine e_aload_n (pc := 42) dX3_wordAt_42 rfl rfl ?_
      refine e_getR (q := 4) (ci := 3) (k := 5) (y := 29) (C := RX3) (T := TX3) (N := 16) (pc := 43) dX3_wordAt_43 rfl rfl ev_in3 rfl ul_1_157 ⟨rfl, rfl⟩ rfl ?_
      refine e_iload_n (pc := 46) dX3_wordAt_46 rfl rfl ?_
      refine e_iald (q := 29) (x := (h 29 i)) (pc := 47) dX3_wordAt_47 rfl H.1 rfl ?_
      have H := H.2
      exact e_ret (pc := 48) (v := some (vI (h 29 i))) dX3_wordAt_48 rfl trivial ⟨_, rfl, H⟩
set_option maxRecDepth 100000 in
set_option maxHeartbeats 4000000 in
theorem c_X3_wordAt (w : WD) (i : Int) (pt : Int) (h : HP) (H : 0 ≤ i ∧ i < 12) : Ev w Y_X3_wordAt 0 [some (vR 4), some (vI i), some (vI pt)] [] h (rI (fun r h' => r = (wrd h i pt) ∧ h' = h)) := by
  refine v_X3_wordAt w i pt h _ ⟨fun c => ⟨by omega, ?_, rfl⟩, fun c => ⟨by omega, ?_, rfl⟩, fun c => ⟨by omega, ?_, rfl⟩⟩
  · unfold wrd; rw [if_pos c]
  · unfold wrd; rw [if_neg (by omega), if_pos c]
  · unfold wrd; rw [if_neg (by omega), if_neg (by omega)]
set_option maxRecDepth 100000 in
set_option maxHeartbeats 4000000 in
theorem v_X3_thingsNamed (w : WD) (i : Int) (h : HP) (K : Int → HP → Prop) 
    (H : ((0 ≤ i ∧ i < 12) ∧ ((((¬ (h 29 i) = (-1) → ((0 ≤ i ∧ i < 12) ∧ ((h 3 6 ≤ 16) ∧ True))) ∧ ((h 29 i) = (-1) → ((0 ≤ (h 4 13) ∧ (h 4 13) < 6) ∧ True)))) ∧ ((0 ≤ i ∧ i < 12) ∧ ((h 3 6 ≤ 16) ∧ ((HOK h) ∧ K (bset (fun t => t < h 1 7 ∧ h 10 t = (cif (0 ≤ (h 28 i) ∧ (h 28 i) < h 3 6) (h 21 (h 28 i)) 0) ∧ h 9 t = (cif (¬ (h 29 i) = (-1)) (cif (0 ≤ (h 29 i) ∧ (h 29 i) < h 3 6) (h 21 (h 29 i)) 0) (h 14 (h 4 13)))) 10) h)))))) :
    Ev w Y_X3_thingsNamed 0 [some (vR 4), some (vI i), none] [] h (rI K) := by
  refine e_aload_n (pc := 0) dX3_thingsNamed_0 rfl rfl ?_
  refine e_getR (q := 4) (ci := 3) (k := 5) (y := 29) (C := RX3) (T := TX3) (N := 16) (pc := 1) dX3_thingsNamed_1 rfl rfl ev_in3 rfl ul_1_157 ⟨rfl, rfl⟩ rfl ?_
  refine e_iload_n (pc := 4) dX3_thingsNamed_4 rfl rfl ?_
  refine e_iald (q := 29) (x := (h 29 i)) (pc := 5) dX3_thingsNamed_5 rfl H.1 rfl ?_
  have H := H.2
  refine e_iconst (pc := 6) dX3_thingsNamed_6 ⟨by decide, by decide⟩ ?_
  have J : Ev w Y_X3_thingsNamed 38 [some (vR 4), some (vI i), none] [vI (cif (¬ (h 29 i) = (-1)) (cif (0 ≤ (h 29 i) ∧ (h 29 i) < h 3 6) (h 21 (h 29 i)) 0) (h 14 (h 4 13)))] h (rI K) := by
    have H := H.2
    refine e_istore_n (lv' := [some (vR 4), some (vI i), some (vI (cif (¬ (h 29 i) = (-1)) (cif (0 ≤ (h 29 i) ∧ (h 29 i) < h 3 6) (h 21 (h 29 i)) 0) (h 14 (h 4 13))))]) (pc := 38) dX3_thingsNamed_38 rfl rfl rfl ?_
    refine e_aload_n (pc := 39) dX3_thingsNamed_39 rfl rfl ?_
    refine e_getR (q := 4) (ci := 3) (k := 0) (y := 1) (C := RX3) (T := TX3) (N := 16) (pc := 40) dX3_thingsNamed_40 rfl rfl ev_in3 rfl ul_1_151 ⟨rfl, rfl⟩ rfl ?_
    refine e_aload_n (pc := 43) dX3_thingsNamed_43 rfl rfl ?_
    refine e_getR (q := 4) (ci := 3) (k := 1) (y := 3) (C := RX3) (T := TX3) (N := 16) (pc := 44) dX3_thingsNamed_44 rfl rfl ev_in3 rfl ul_1_152 ⟨rfl, rfl⟩ rfl ?_
    refine e_aload_n (pc := 47) dX3_thingsNamed_47 rfl rfl ?_
    refine e_getR (q := 4) (ci := 3) (k := 4) (y := 28) (C := RX3) (T := TX3) (N := 16) (pc := 48) dX3_thingsNamed_48 rfl rfl ev_in3 rfl ul_1_156 ⟨rfl, rfl⟩ rfl ?_
    refine e_iload_n (pc := 51) dX3_thingsNamed_51 rfl rfl ?_
    refine e_iald (q := 28) (x := (h 28 i)) (pc := 52) dX3_thingsNamed_52 rfl H.1 rfl ?_
    have H := H.2
    refine e_invV (pc := 53) (Y' := Y_X7_numberOf) (as := [vI (h 28 i)]) (st := [vR 1]) (lv0 := [some (vR 3), some (vI (h 28 i))]) (q := 3) (ci := 7) (T := TX7) (N := 8) dX3_thingsNamed_53 m_X7_numberOf ul_3_89 ⟨ul_3_90, ul_3_91⟩ ⟨rfl, rfl⟩ rfl rfl rfl rfl rfl rfl rfl (c_X7_numberOf w (h 28 i) h H.1) ?_
    rintro _ hz ⟨_, rfl, rfl, hh⟩
    rw [hh]
    show Ev w Y_X3_thingsNamed 56 [some (vR 4), some (vI i), some (vI (cif (¬ (h 29 i) = (-1)) (cif (0 ≤ (h 29 i) ∧ (h 29 i) < h 3 6) (h 21 (h 29 i)) 0) (h 14 (h 4 13))))] [vI (cif (0 ≤ (h 28 i) ∧ (h 28 i) < h 3 6) (h 21 (h 28 i)) 0), vR 1] h (rI K)
    have H := H.2
    refine e_iload_n (pc := 56) dX3_thingsNamed_56 rfl rfl ?_
    refine e_invV (pc := 57) (Y' := Y_X4_thingsThere) (as := [vI (cif (0 ≤ (h 28 i) ∧ (h 28 i) < h 3 6) (h 21 (h 28 i)) 0), vI (cif (¬ (h 29 i) = (-1)) (cif (0 ≤ (h 29 i) ∧ (h 29 i) < h 3 6) (h 21 (h 29 i)) 0) (h 14 (h 4 13)))]) (st := []) (lv0 := [some (vR 1), some (vI (cif (0 ≤ (h 28 i) ∧ (h 28 i) < h 3 6) (h 21 (h 28 i)) 0)), some (vI (cif (¬ (h 29 i) = (-1)) (cif (0 ≤ (h 29 i) ∧ (h 29 i) < h 3 6) (h 21 (h 29 i)) 0) (h 14 (h 4 13)))), none, none]) (q := 1) (ci := 4) (T := TX4) (N := 10) dX3_thingsNamed_57 m_X4_thingsThere ul_3_93 ⟨ul_3_94, ul_3_95⟩ ⟨rfl, rfl⟩ rfl rfl rfl rfl rfl rfl rfl (c_X4_thingsThere w (cif (0 ≤ (h 28 i) ∧ (h 28 i) < h 3 6) (h 21 (h 28 i)) 0) (cif (¬ (h 29 i) = (-1)) (cif (0 ≤ (h 29 i) ∧ (h 29 i) < h 3 6) (h 21 (h 29 i)) 0) (h 14 (h 4 13))) h H.1) ?_
    rintro _ hz ⟨_, rfl, rfl, hh⟩
    rw [hh]
    show Ev w Y_X3_thingsNamed 60 [some (vR 4), some (vI i), some (vI (cif (¬ (h 29 i) = (-1)) (cif (0 ≤ (h 29 i) ∧ (h 29 i) < h 3 6) (h 21 (h 29 i)) 0) (h 14 (h 4 13))))] [vI (bset (fun t => t < h 1 7 ∧ h 10 t = (cif (0 ≤ (h 28 i) ∧ (h 28 i) < h 3 6) (h 21 (h 28 i)) 0) ∧ h 9 t = (cif (¬ (h 29 i) = (-1)) (cif (0 ≤ (h 29 i) ∧ (h 29 i) < h 3 6) (h 21 (h 29 i)) 0) (h 14 (h 4 13)))) 10)] h (rI K)
    have H := H.2
    exact e_ret (pc := 60) (v := some (vI (bset (fun t => t < h 1 7 ∧ h 10 t = (cif (0 ≤ (h 28 i) ∧ (h 28 i) < h 3 6) (h 21 (h 28 i)) 0) ∧ h 9 t = (cif (¬ (h 29 i) = (-1)) (cif (0 ≤ (h 29 i) ∧ (h 29 i) < h 3 6) (h 21 (h 29 i)) 0) (h 14 (h 4 13)))) 10))) dX3_thingsNamed_60 rfl trivial ⟨_, rfl, H⟩
  have Ho := H.1
  refine e_icmp_ne (pc := 7) (tgt := 25) dX3_thingsNamed_7 (by decide) (fun c1 => ?_) (fun c1 => ?_)
  · have Ho := Ho.1 c1
    refine e_aload_n (pc := 25) dX3_thingsNamed_25 rfl rfl ?_
    refine e_getR (q := 4) (ci := 3) (k := 1) (y := 3) (C := RX3) (T := TX3) (N := 16) (pc := 26) dX3_thingsNamed_26 rfl rfl ev_in3 rfl ul_1_152 ⟨rfl, rfl⟩ rfl ?_
    refine e_aload_n (pc := 29) dX3_thingsNamed_29 rfl rfl ?_
    refine e_getR (q := 4) (ci := 3) (k := 5) (y := 29) (C := RX3) (T := TX3) (N := 16) (pc := 30) dX3_thingsNamed_30 rfl rfl ev_in3 rfl ul_1_157 ⟨rfl, rfl⟩ rfl ?_
    refine e_iload_n (pc := 33) dX3_thingsNamed_33 rfl rfl ?_
    refine e_iald (q := 29) (x := (h 29 i)) (pc := 34) dX3_thingsNamed_34 rfl Ho.1 rfl ?_
    have Ho := Ho.2
    refine e_invV (pc := 35) (Y' := Y_X7_numberOf) (as := [vI (h 29 i)]) (st := []) (lv0 := [some (vR 3), some (vI (h 29 i))]) (q := 3) (ci := 7) (T := TX7) (N := 8) dX3_thingsNamed_35 m_X7_numberOf ul_3_89 ⟨ul_3_90, ul_3_91⟩ ⟨rfl, rfl⟩ rfl rfl rfl rfl rfl rfl rfl (c_X7_numberOf w (h 29 i) h Ho.1) ?_
    rintro _ hz ⟨_, rfl, rfl, hh⟩
    rw [hh]
    show Ev w Y_X3_thingsNamed 38 [some (vR 4), some (vI i), none] [vI (cif (0 ≤ (h 29 i) ∧ (h 29 i) < h 3 6) (h 21 (h 29 i)) 0)] h (rI K)
    have Ho := Ho.2
    exact e_top (cif_t c1) J
  · have Ho := Ho.2 c1
    refine e_aload_n (pc := 10) dX3_thingsNamed_10 rfl rfl ?_
    refine e_getR (q := 4) (ci := 3) (k := 0) (y := 1) (C := RX3) (T := TX3) (N := 16) (pc := 11) dX3_thingsNamed_11 rfl rfl ev_in3 rfl ul_1_151 ⟨rfl, rfl⟩ rfl ?_
    refine e_getR (q := 1) (ci := 4) (k := 5) (y := 14) (C := RX4) (T := TX4) (N := 10) (pc := 14) dX3_thingsNamed_14 rfl rfl ev_in4 rfl ul_1_43 ⟨rfl, rfl⟩ rfl ?_
    refine e_aload_n (pc := 17) dX3_thingsNamed_17 rfl rfl ?_
    refine e_getI (q := 4) (ci := 3) (k := 13) (kz := 13) (C := RX3) (T := TX3) (N := 16) (x := (h 4 13)) (pc := 18) dX3_thingsNamed_18 rfl rfl rfl ev_in3 rfl ul_1_167 ⟨rfl, by decide⟩ rfl ?_
    refine e_iald (q := 14) (x := (h 14 (h 4 13))) (pc := 21) dX3_thingsNamed_21 rfl Ho.1 rfl ?_
    have Ho := Ho.2
    refine e_goto (pc := 22) (tgt := 38) dX3_thingsNamed_22 (by decide) ?_
    exact e_top (cif_f (fun z => z c1)) J
set_option maxRecDepth 100000 in
set_option maxHeartbeats 4000000 in
theorem c_X3_thingsNamed (w : WD) (i : Int) (h : HP) (H : HOK h ∧ VOK h ∧ EOK h ∧ 0 ≤ i ∧ i < h 4 15) : Ev w Y_X3_thingsNamed 0 [some (vR 4), some (vI i), none] [] h (rI (fun r h' => r = (bset (fun t => t < h 1 7 ∧ h 10 t = h 21 (h 28 i) ∧ h 9 t = cif (h 29 i = -1) (h 14 (h 4 13)) (h 21 (h 29 i))) 10) ∧ h' = h)) := by
  obtain ⟨hH, hV, hE, hi⟩ := H
  have hw := hE.2.2.2 i hi.1 hi.2
  have h15 := hE.1
  have h13 := hE.2.1
  refine v_X3_thingsNamed w i h _ ⟨by omega, ⟨fun _ => ⟨by omega, hV.1.2, trivial⟩, fun _ => ⟨by omega, trivial⟩⟩, by omega, hV.1.2, hH, ?_, rfl⟩
  refine bset_c (fun t a b => ?_)
  rw [cif_t (show 0 ≤ h 28 i ∧ h 28 i < h 3 6 from hw.2.1)]
  by_cases e : h 29 i = -1
  · rw [cif_f (fun z => z e), cif_t e]
  · have e2 : 0 ≤ h 29 i ∧ h 29 i < h 3 6 := by rcases hw.2.2 with z | z; exact absurd z e; exact z
    rw [cif_t e, cif_t e2, cif_f e]
theorem EOK_n {h : HP} {i : Int} (hV : VOK h) (hE : EOK h) (hi : 0 ≤ i ∧ i < h 4 15) : 0 ≤ h 21 (h 27 i) ∧ h 21 (h 27 i) ≤ 3 := by
  have hw := (hE.2.2.2 i hi.1 hi.2).1
  have hn := hV.2.1 (h 27 i) hw.1 hw.2.1
  exact ⟨hn.2.1.1, hn.2.2.1 hw.2.2⟩
set_option maxRecDepth 100000 in
set_option maxHeartbeats 4000000 in
theorem v_X3_statesBy (w : WD) (i : Int) (h : HP) (K : Int → HP → Prop) 
    (H : ((0 ≤ i ∧ i < 12) ∧ ((0 ≤ i ∧ i < 12) ∧ ((h 3 6 ≤ 16) ∧ ((inS (h 1 8) ∧ (0 ≤ (h 30 i) ∧ (h 30 i) < 1024) ∧ (0 ≤ (cif (0 ≤ (h 27 i) ∧ (h 27 i) < h 3 6) (h 21 (h 27 i)) 0) ∧ (cif (0 ≤ (h 27 i) ∧ (h 27 i) < h 3 6) (h 21 (h 27 i)) 0) ≤ 3)) ∧ K (wAll (h 1 8) (h 30 i) (cif (0 ≤ (h 27 i) ∧ (h 27 i) < h 3 6) (h 21 (h 27 i)) 0)) h))))) :
    Ev w Y_X3_statesBy 0 [some (vR 4), some (vI i)] [] h (rI K) := by
  refine e_aload_n (pc := 0) dX3_statesBy_0 rfl rfl ?_
  refine e_getR (q := 4) (ci := 3) (k := 0) (y := 1) (C := RX3) (T := TX3) (N := 16) (pc := 1) dX3_statesBy_1 rfl rfl ev_in3 rfl ul_1_151 ⟨rfl, rfl⟩ rfl ?_
  refine e_getI (q := 1) (ci := 4) (k := 8) (kz := 8) (C := RX4) (T := TX4) (N := 10) (x := (h 1 8)) (pc := 4) dX3_statesBy_4 rfl rfl rfl ev_in4 rfl ul_1_53 ⟨rfl, by decide⟩ rfl ?_
  refine e_aload_n (pc := 7) dX3_statesBy_7 rfl rfl ?_
  refine e_getR (q := 4) (ci := 3) (k := 6) (y := 30) (C := RX3) (T := TX3) (N := 16) (pc := 8) dX3_statesBy_8 rfl rfl ev_in3 rfl ul_1_158 ⟨rfl, rfl⟩ rfl ?_
  refine e_iload_n (pc := 11) dX3_statesBy_11 rfl rfl ?_
  refine e_iald (q := 30) (x := (h 30 i)) (pc := 12) dX3_statesBy_12 rfl H.1 rfl ?_
  have H := H.2
  refine e_aload_n (pc := 13) dX3_statesBy_13 rfl rfl ?_
  refine e_getR (q := 4) (ci := 3) (k := 1) (y := 3) (C := RX3) (T := TX3) (N := 16) (pc := 14) dX3_statesBy_14 rfl rfl ev_in3 rfl ul_1_152 ⟨rfl, rfl⟩ rfl ?_
  refine e_aload_n (pc := 17) dX3_statesBy_17 rfl rfl ?_
  refine e_getR (q := 4) (ci := 3) (k := 3) (y := 27) (C := RX3) (T := TX3) (N := 16) (pc := 18) dX3_statesBy_18 rfl rfl ev_in3 rfl ul_1_154 ⟨rfl, rfl⟩ rfl ?_
  refine e_iload_n (pc := 21) dX3_statesBy_21 rfl rfl ?_
  refine e_iald (q := 27) (x := (h 27 i)) (pc := 22) dX3_statesBy_22 rfl H.1 rfl ?_
  have H := H.2
  refine e_invV (pc := 23) (Y' := Y_X7_numberOf) (as := [vI (h 27 i)]) (st := [vI (h 30 i), vI (h 1 8)]) (lv0 := [some (vR 3), some (vI (h 27 i))]) (q := 3) (ci := 7) (T := TX7) (N := 8) dX3_statesBy_23 m_X7_numberOf ul_3_89 ⟨ul_3_90, ul_3_91⟩ ⟨rfl, rfl⟩ rfl rfl rfl rfl rfl rfl rfl (c_X7_numberOf w (h 27 i) h H.1) ?_
  rintro _ hz ⟨_, rfl, rfl, hh⟩
  rw [hh]
  show Ev w Y_X3_statesBy 26 [some (vR 4), some (vI i)] [vI (cif (0 ≤ (h 27 i) ∧ (h 27 i) < h 3 6) (h 21 (h 27 i)) 0), vI (h 30 i), vI (h 1 8)] h (rI K)
  have H := H.2
  refine e_invSN (pc := 26) (Y' := Y_X8_withAll) (as := [vI (h 1 8), vI (h 30 i), vI (cif (0 ≤ (h 27 i) ∧ (h 27 i) < h 3 6) (h 21 (h 27 i)) 0)]) (st := []) (lv0 := [some (vI (h 1 8)), some (vI (h 30 i)), some (vI (cif (0 ≤ (h 27 i) ∧ (h 27 i) < h 3 6) (h 21 (h 27 i)) 0)), none, none]) dX3_statesBy_26 m_X8_withAll nl_6 ul_3_140 ⟨rfl, rfl⟩ rfl rfl rfl rfl rfl (c_X8_withAll w (h 1 8) (h 30 i) (cif (0 ≤ (h 27 i) ∧ (h 27 i) < h 3 6) (h 21 (h 27 i)) 0) h H.1) ?_
  rintro _ hz ⟨_, rfl, rfl, hh⟩
  rw [hh]
  show Ev w Y_X3_statesBy 29 [some (vR 4), some (vI i)] [vI (wAll (h 1 8) (h 30 i) (cif (0 ≤ (h 27 i) ∧ (h 27 i) < h 3 6) (h 21 (h 27 i)) 0))] h (rI K)
  have H := H.2
  exact e_ret (pc := 29) (v := some (vI (wAll (h 1 8) (h 30 i) (cif (0 ≤ (h 27 i) ∧ (h 27 i) < h 3 6) (h 21 (h 27 i)) 0)))) dX3_statesBy_29 rfl trivial ⟨_, rfl, H⟩
set_option maxRecDepth 100000 in
set_option maxHeartbeats 4000000 in
theorem c_X3_statesBy (w : WD) (i : Int) (h : HP) (H : HOK h ∧ VOK h ∧ EOK h ∧ 0 ≤ i ∧ i < h 4 15) : Ev w Y_X3_statesBy 0 [some (vR 4), some (vI i)] [] h (rI (fun r h' => r = (wAll (h 1 8) (h 30 i) (h 21 (h 27 i))) ∧ h' = h)) := by
  obtain ⟨hH, hV, hE, hi⟩ := H
  have hw := (hE.2.2.2 i hi.1 hi.2).1
  have h15 := hE.1
  have hn := EOK_n hV hE hi
  have e : cif (0 ≤ h 27 i ∧ h 27 i < h 3 6) (h 21 (h 27 i)) 0 = h 21 (h 27 i) := cif_t ⟨hw.1, hw.2.1⟩
  refine v_X3_statesBy w i h _ ⟨by omega, by omega, hV.1.2, ⟨hH.2.2.1, (hE.2.2.1 i hi.1 (by omega)).1, by rw [e]; exact hn⟩, ?_, rfl⟩
  rw [e]
set_option maxRecDepth 100000 in
set_option maxHeartbeats 4000000 in
theorem v_X3_isFirstToDoSo (w : WD) (i : Int) (h : HP) (K : Int → HP → Prop) 
    (I1 : Nat → Int → Int → HP → Prop)
    (H : ((HOK h ∧ VOK h ∧ EOK h ∧ 0 ≤ i ∧ i < h 4 15) ∧ (∃ m : Nat, I1 m (wAll (h 1 8) (h 30 i) (h 21 (h 27 i))) 0 h)))
    (H1 : ∀ (n1 : Nat) (x2 : Int) (x3 : Int) (g1 : HP), I1 n1 x2 x3 g1 → ((i ≤ x3 → K 1 g1) ∧ (¬ i ≤ x3 → ((0 ≤ x3 ∧ x3 < 12) ∧ (((((g1 31 x3) = 0 → True) ∧ (¬ (g1 31 x3) = 0 → ((HOK g1 ∧ VOK g1 ∧ EOK g1 ∧ 0 ≤ x3 ∧ x3 < g1 4 15) ∧ True)))) ∧ (((((g1 31 x3) = 0) ∨ (¬ (wAll (g1 1 8) (g1 30 x3) (g1 21 (g1 27 x3))) = x2)) → ((iR (x3 + 1)) ∧ (∃ m : Nat, m < n1 ∧ I1 m x2 (x3 + 1) g1))) ∧ (¬ (((g1 31 x3) = 0) ∨ (¬ (wAll (g1 1 8) (g1 30 x3) (g1 21 (g1 27 x3))) = x2)) → K 0 g1))))))) :
    Ev w Y_X3_isFirstToDoSo 0 [some (vR 4), some (vI i), none, none] [] h (rI K) := by
  have L1 : ∀ (n1 : Nat) (x2 : Int) (x3 : Int) (g1 : HP), I1 n1 x2 x3 g1 → Ev w Y_X3_isFirstToDoSo 8 [some (vR 4), some (vI i), some (vI x2), some (vI x3)] [] g1 (rI K) := by
    intro n1
    induction n1 using Nat.strongRecOn with
    | ind n1 ih1 =>
      intro x2 x3 g1 H
      have H := H1 n1 x2 x3 g1 H
      refine e_iload_n (pc := 8) dX3_isFirstToDoSo_8 rfl rfl ?_
      refine e_iload_n (pc := 9) dX3_isFirstToDoSo_9 rfl rfl ?_
      refine e_icmp_ge (pc := 10) (tgt := 39) dX3_isFirstToDoSo_10 (by decide) (fun c1 => ?_) (fun c1 => ?_)
      · have H := H.1 c1
        refine e_iconst (pc := 39) dX3_isFirstToDoSo_39 ⟨by decide, by decide⟩ ?_
        exact e_ret (pc := 40) (v := some (vI 1)) dX3_isFirstToDoSo_40 rfl (Or.inr rfl) ⟨_, rfl, H⟩
      · have H := H.2 c1
        refine e_aload_n (pc := 13) dX3_isFirstToDoSo_13 rfl rfl ?_
        refine e_getR (q := 4) (ci := 3) (k := 7) (y := 31) (C := RX3) (T := TX3) (N := 16) (pc := 14) dX3_isFirstToDoSo_14 rfl rfl ev_in3 rfl ul_1_160 ⟨rfl, rfl⟩ rfl ?_
        refine e_iload_n (pc := 17) dX3_isFirstToDoSo_17 rfl rfl ?_
        refine e_zald (q := 31) (x := (g1 31 x3)) (pc := 18) dX3_isFirstToDoSo_18 rfl H.1 rfl ?_
        have H := H.2
        have Ho := H.1
        have H := H.2
        have J1 : (((g1 31 x3) = 0) ∨ (¬ (wAll (g1 1 8) (g1 30 x3) (g1 21 (g1 27 x3))) = x2)) → Ev w Y_X3_isFirstToDoSo 33 [some (vR 4), some (vI i), some (vI x2), some (vI x3)] [] g1 (rI K) := by
          intro hp
          have H := H.1 hp
          refine e_iinc (lv' := [some (vR 4), some (vI i), some (vI x2), some (vI (x3 + 1))]) (pc := 33) dX3_isFirstToDoSo_33 rfl H.1 rfl rfl ?_
          have H := H.2
          refine e_goto (pc := 36) (tgt := 8) dX3_isFirstToDoSo_36 (by decide) ?_
          obtain ⟨m, hm, H⟩ := H
          exact ih1 m hm _ _ _ H
        have J2 : ¬ (((g1 31 x3) = 0) ∨ (¬ (wAll (g1 1 8) (g1 30 x3) (g1 21 (g1 27 x3))) = x2)) → Ev w Y_X3_isFirstToDoSo 31 [some (vR 4), some (vI i), some (vI x2), some (vI x3)] [] g1 (rI K) := by
          intro hp
          have H := H.2 hp
          refine e_iconst (pc := 31) dX3_isFirstToDoSo_31 ⟨by decide, by decide⟩ ?_
          exact e_ret (pc := 32) (v := some (vI 0)) dX3_isFirstToDoSo_32 rfl (Or.inl rfl) ⟨_, rfl, H⟩
        refine e_if_eq (pc := 19) (tgt := 33) dX3_isFirstToDoSo_19 (by decide) (fun c2 => ?_) (fun c2 => ?_)
        · have Ho := Ho.1 c2
          exact J1 (Or.inl c2)
        · have Ho := Ho.2 c2
          refine e_aload_n (pc := 22) dX3_isFirstToDoSo_22 rfl rfl ?_
          refine e_iload_n (pc := 23) dX3_isFirstToDoSo_23 rfl rfl ?_
          refine e_invV (pc := 24) (Y' := Y_X3_statesBy) (as := [vI x3]) (st := []) (lv0 := [some (vR 4), some (vI x3)]) (q := 4) (ci := 3) (T := TX3) (N := 16) dX3_isFirstToDoSo_24 m_X3_statesBy ul_3_135 ⟨ul_3_137, us_X3_statesBy⟩ ⟨rfl, rfl⟩ rfl rfl rfl rfl rfl rfl rfl (c_X3_statesBy w x3 g1 Ho.1) ?_
          rintro _ hz ⟨_, rfl, rfl, hh⟩
          rw [hh]
          show Ev w Y_X3_isFirstToDoSo 27 [some (vR 4), some (vI i), some (vI x2), some (vI x3)] [vI (wAll (g1 1 8) (g1 30 x3) (g1 21 (g1 27 x3)))] g1 (rI K)
          have Ho := Ho.2
          refine e_iload_n (pc := 27) dX3_isFirstToDoSo_27 rfl rfl ?_
          refine e_icmp_ne (pc := 28) (tgt := 33) dX3_isFirstToDoSo_28 (by decide) (fun c3 => ?_) (fun c3 => ?_)
          · exact J1 (Or.inr c3)
          · exact J2 (fun z => z.elim c2 (fun z => z c3))
  refine e_aload_n (pc := 0) dX3_isFirstToDoSo_0 rfl rfl ?_
  refine e_iload_n (pc := 1) dX3_isFirstToDoSo_1 rfl rfl ?_
  refine e_invV (pc := 2) (Y' := Y_X3_statesBy) (as := [vI i]) (st := []) (lv0 := [some (vR 4), some (vI i)]) (q := 4) (ci := 3) (T := TX3) (N := 16) dX3_isFirstToDoSo_2 m_X3_statesBy ul_3_135 ⟨ul_3_137, us_X3_statesBy⟩ ⟨rfl, rfl⟩ rfl rfl rfl rfl rfl rfl rfl (c_X3_statesBy w i h H.1) ?_
  rintro _ hz ⟨_, rfl, rfl, hh⟩
  rw [hh]
  show Ev w Y_X3_isFirstToDoSo 5 [some (vR 4), some (vI i), none, none] [vI (wAll (h 1 8) (h 30 i) (h 21 (h 27 i)))] h (rI K)
  have H := H.2
  refine e_istore_n (lv' := [some (vR 4), some (vI i), some (vI (wAll (h 1 8) (h 30 i) (h 21 (h 27 i)))), none]) (pc := 5) dX3_isFirstToDoSo_5 rfl rfl rfl ?_
  refine e_iconst (pc := 6) dX3_isFirstToDoSo_6 ⟨by decide, by decide⟩ ?_
  refine e_istore_n (lv' := [some (vR 4), some (vI i), some (vI (wAll (h 1 8) (h 30 i) (h 21 (h 27 i)))), some (vI 0)]) (pc := 7) dX3_isFirstToDoSo_7 rfl rfl rfl ?_
  obtain ⟨m, H⟩ := H
  exact L1 m _ _ _ H
set_option maxRecDepth 100000 in
set_option maxHeartbeats 4000000 in
theorem c_X3_isFirstToDoSo (w : WD) (i : Int) (h : HP) (H : HOK h ∧ VOK h ∧ EOK h ∧ 0 ≤ i ∧ i < h 4 15) : Ev w Y_X3_isFirstToDoSo 0 [some (vR 4), some (vI i), none, none] [] h (rI (fun r h' => r = b2i (∀ k : Int, 0 ≤ k → k < i → ¬ (h 31 k = 1 ∧ wAll (h 1 8) (h 30 k) (h 21 (h 27 k)) = wAll (h 1 8) (h 30 i) (h 21 (h 27 i)))) ∧ h' = h)) := by
  obtain ⟨hH, hV, hE, hi⟩ := H
  have h15 := hE.1
  refine v_X3_isFirstToDoSo w i h _ (fun n x2 x3 g => g = h ∧ x2 = wAll (h 1 8) (h 30 i) (h 21 (h 27 i)) ∧ (0 ≤ x3 ∧ x3 ≤ i) ∧ n = (12 - x3).toNat ∧ ∀ k : Int, 0 ≤ k → k < x3 → ¬ (h 31 k = 1 ∧ wAll (h 1 8) (h 30 k) (h 21 (h 27 k)) = wAll (h 1 8) (h 30 i) (h 21 (h 27 i)))) ⟨⟨hH, hV, hE, hi⟩, 12, rfl, rfl, by omega, rfl, fun k a b => by omega⟩ ?_
  rintro n x2 x3 g ⟨rfl, rfl, h0, rfl, hn⟩
  refine ⟨fun c => ⟨(b2i_t (fun k a b => hn k a (by omega))).symm, rfl⟩, fun c => ⟨by omega, ⟨fun _ => trivial, fun _ => ⟨⟨hH, hV, hE, by omega, by omega⟩, trivial⟩⟩, fun z => ⟨⟨by omega, by omega⟩, (12 - (x3 + 1)).toNat, by omega, rfl, rfl, by omega, rfl, fun k a b y => ?_⟩, fun z => ⟨(b2i_f (fun y => ?_)).symm, rfl⟩⟩⟩
  · by_cases e : k = x3
    · subst e
      rcases z with z | z
      · omega
      · exact z y.2
    · exact hn k a (by omega) y
  · have h01 := (hE.2.2.1 x3 h0.1 (by omega)).2
    refine y x3 h0.1 (by omega) ⟨?_, Classical.byContradiction (fun u => z (Or.inr u))⟩
    rcases h01 with u | u
    · exact absurd (Or.inl u) z
    · exact u
def ulp (h : HP) (i : Int) : Prop := h 31 i = 1 ∧ ∀ k : Int, 0 ≤ k → k < i → ¬ (h 31 k = 1 ∧ wAll (h 1 8) (h 30 k) (h 21 (h 27 k)) = wAll (h 1 8) (h 30 i) (h 21 (h 27 i)))
noncomputable def unl (h : HP) : Int := cnt (ulp h) (h 4 15).toNat
set_option maxRecDepth 100000 in
set_option maxHeartbeats 4000000 in
theorem v_X3_unlike (w : WD)  (h : HP) (K : Int → HP → Prop) 
    (I1 : Nat → Int → Int → HP → Prop)
    (H : (∃ m : Nat, I1 m 0 0 h))
    (H1 : ∀ (n1 : Nat) (x1 : Int) (x2 : Int) (g1 : HP), I1 n1 x1 x2 g1 → (((g1 4 15) ≤ x2 → K x1 g1) ∧ (¬ (g1 4 15) ≤ x2 → ((0 ≤ x2 ∧ x2 < 12) ∧ (((((g1 31 x2) = 0 → True) ∧ (¬ (g1 31 x2) = 0 → ((HOK g1 ∧ VOK g1 ∧ EOK g1 ∧ 0 ≤ x2 ∧ x2 < g1 4 15) ∧ True)))) ∧ (((((g1 31 x2) = 0) ∨ (¬ (∀ k : Int, 0 ≤ k → k < x2 → ¬ (g1 31 k = 1 ∧ wAll (g1 1 8) (g1 30 k) (g1 21 (g1 27 k)) = wAll (g1 1 8) (g1 30 x2) (g1 21 (g1 27 x2)))))) → ((iR (x2 + 1)) ∧ (∃ m : Nat, m < n1 ∧ I1 m x1 (x2 + 1) g1))) ∧ (¬ (((g1 31 x2) = 0) ∨ (¬ (∀ k : Int, 0 ≤ k → k < x2 → ¬ (g1 31 k = 1 ∧ wAll (g1 1 8) (g1 30 k) (g1 21 (g1 27 k)) = wAll (g1 1 8) (g1 30 x2) (g1 21 (g1 27 x2)))))) → ((iR (x1 + 1)) ∧ ((iR (x2 + 1)) ∧ (∃ m : Nat, m < n1 ∧ I1 m (x1 + 1) (x2 + 1) g1)))))))))) :
    Ev w Y_X3_unlike 0 [some (vR 4), none, none] [] h (rI K) := by
  have L1 : ∀ (n1 : Nat) (x1 : Int) (x2 : Int) (g1 : HP), I1 n1 x1 x2 g1 → Ev w Y_X3_unlike 4 [some (vR 4), some (vI x1), some (vI x2)] [] g1 (rI K) := by
    intro n1
    induction n1 using Nat.strongRecOn with
    | ind n1 ih1 =>
      intro x1 x2 g1 H
      have H := H1 n1 x1 x2 g1 H
      refine e_iload_n (pc := 4) dX3_unlike_4 rfl rfl ?_
      refine e_aload_n (pc := 5) dX3_unlike_5 rfl rfl ?_
      refine e_getI (q := 4) (ci := 3) (k := 15) (kz := 15) (C := RX3) (T := TX3) (N := 16) (x := (g1 4 15)) (pc := 6) dX3_unlike_6 rfl rfl rfl ev_in3 rfl ul_1_171 ⟨rfl, by decide⟩ rfl ?_
      refine e_icmp_ge (pc := 9) (tgt := 38) dX3_unlike_9 (by decide) (fun c1 => ?_) (fun c1 => ?_)
      · have H := H.1 c1
        refine e_iload_n (pc := 38) dX3_unlike_38 rfl rfl ?_
        exact e_ret (pc := 39) (v := some (vI x1)) dX3_unlike_39 rfl trivial ⟨_, rfl, H⟩
      · have H := H.2 c1
        refine e_aload_n (pc := 12) dX3_unlike_12 rfl rfl ?_
        refine e_getR (q := 4) (ci := 3) (k := 7) (y := 31) (C := RX3) (T := TX3) (N := 16) (pc := 13) dX3_unlike_13 rfl rfl ev_in3 rfl ul_1_160 ⟨rfl, rfl⟩ rfl ?_
        refine e_iload_n (pc := 16) dX3_unlike_16 rfl rfl ?_
        refine e_zald (q := 31) (x := (g1 31 x2)) (pc := 17) dX3_unlike_17 rfl H.1 rfl ?_
        have H := H.2
        have Ho := H.1
        have H := H.2
        have J1 : (((g1 31 x2) = 0) ∨ (¬ (∀ k : Int, 0 ≤ k → k < x2 → ¬ (g1 31 k = 1 ∧ wAll (g1 1 8) (g1 30 k) (g1 21 (g1 27 k)) = wAll (g1 1 8) (g1 30 x2) (g1 21 (g1 27 x2)))))) → Ev w Y_X3_unlike 32 [some (vR 4), some (vI x1), some (vI x2)] [] g1 (rI K) := by
          intro hp
          have H := H.1 hp
          refine e_iinc (lv' := [some (vR 4), some (vI x1), some (vI (x2 + 1))]) (pc := 32) dX3_unlike_32 rfl H.1 rfl rfl ?_
          have H := H.2
          refine e_goto (pc := 35) (tgt := 4) dX3_unlike_35 (by decide) ?_
          obtain ⟨m, hm, H⟩ := H
          exact ih1 m hm _ _ _ H
        have J2 : ¬ (((g1 31 x2) = 0) ∨ (¬ (∀ k : Int, 0 ≤ k → k < x2 → ¬ (g1 31 k = 1 ∧ wAll (g1 1 8) (g1 30 k) (g1 21 (g1 27 k)) = wAll (g1 1 8) (g1 30 x2) (g1 21 (g1 27 x2)))))) → Ev w Y_X3_unlike 29 [some (vR 4), some (vI x1), some (vI x2)] [] g1 (rI K) := by
          intro hp
          have H := H.2 hp
          refine e_iinc (lv' := [some (vR 4), some (vI (x1 + 1)), some (vI x2)]) (pc := 29) dX3_unlike_29 rfl H.1 rfl rfl ?_
          have H := H.2
          refine e_iinc (lv' := [some (vR 4), some (vI (x1 + 1)), some (vI (x2 + 1))]) (pc := 32) dX3_unlike_32 rfl H.1 rfl rfl ?_
          have H := H.2
          refine e_goto (pc := 35) (tgt := 4) dX3_unlike_35 (by decide) ?_
          obtain ⟨m, hm, H⟩ := H
          exact ih1 m hm _ _ _ H
        refine e_if_eq (pc := 18) (tgt := 32) dX3_unlike_18 (by decide) (fun c2 => ?_) (fun c2 => ?_)
        · have Ho := Ho.1 c2
          exact J1 (Or.inl c2)
        · have Ho := Ho.2 c2
          refine e_aload_n (pc := 21) dX3_unlike_21 rfl rfl ?_
          refine e_iload_n (pc := 22) dX3_unlike_22 rfl rfl ?_
          refine e_invV (pc := 23) (Y' := Y_X3_isFirstToDoSo) (as := [vI x2]) (st := []) (lv0 := [some (vR 4), some (vI x2), none, none]) (q := 4) (ci := 3) (T := TX3) (N := 16) dX3_unlike_23 m_X3_isFirstToDoSo ul_3_131 ⟨ul_3_133, us_X3_isFirstToDoSo⟩ ⟨rfl, rfl⟩ rfl rfl rfl rfl rfl rfl rfl (c_X3_isFirstToDoSo w x2 g1 Ho.1) ?_
          rintro _ hz ⟨_, rfl, rfl, hh⟩
          rw [hh]
          show Ev w Y_X3_unlike 26 [some (vR 4), some (vI x1), some (vI x2)] [vI (b2i (∀ k : Int, 0 ≤ k → k < x2 → ¬ (g1 31 k = 1 ∧ wAll (g1 1 8) (g1 30 k) (g1 21 (g1 27 k)) = wAll (g1 1 8) (g1 30 x2) (g1 21 (g1 27 x2)))))] g1 (rI K)
          have Ho := Ho.2
          refine e_ifb_eq (pc := 26) (tgt := 32) dX3_unlike_26 (by decide) (fun c3 => ?_) (fun c3 => ?_)
          · exact J1 (Or.inr c3)
          · exact J2 (fun z => z.elim c2 (fun z => z c3))
  refine e_iconst (pc := 0) dX3_unlike_0 ⟨by decide, by decide⟩ ?_
  refine e_istore_n (lv' := [some (vR 4), some (vI 0), none]) (pc := 1) dX3_unlike_1 rfl rfl rfl ?_
  refine e_iconst (pc := 2) dX3_unlike_2 ⟨by decide, by decide⟩ ?_
  refine e_istore_n (lv' := [some (vR 4), some (vI 0), some (vI 0)]) (pc := 3) dX3_unlike_3 rfl rfl rfl ?_
  obtain ⟨m, H⟩ := H
  exact L1 m _ _ _ H
set_option maxRecDepth 100000 in
set_option maxHeartbeats 4000000 in
theorem c_X3_unlike (w : WD)  (h : HP) (H : HOK h ∧ VOK h ∧ EOK h) : Ev w Y_X3_unlike 0 [some (vR 4), none, none] [] h (rI (fun r h' => r = (unl h) ∧ h' = h)) := by
  obtain ⟨hH, hV, hE⟩ := H
  have h15 := hE.1
  refine v_X3_unlike w h _ (fun n x1 x2 g => g = h ∧ (0 ≤ x2 ∧ x2 ≤ h 4 15) ∧ n = (12 - x2).toNat ∧ x1 = cnt (ulp h) x2.toNat) ⟨12, rfl, by omega, rfl, rfl⟩ ?_
  rintro n x1 x2 g ⟨rfl, h0, rfl, rfl⟩
  have hc := cnt_b (ulp g) x2.toNat
  have hs : cnt (ulp g) (x2 + 1).toNat = cnt (ulp g) x2.toNat + b2i (ulp g x2) := cnt_next h0.1
  refine ⟨fun c => ⟨by unfold unl; rw [show x2 = g 4 15 by omega], rfl⟩, fun c => ⟨by omega, ⟨fun _ => trivial, fun _ => ⟨⟨hH, hV, hE, by omega, by omega⟩, trivial⟩⟩, fun z => ⟨⟨by omega, by omega⟩, (12 - (x2 + 1)).toNat, by omega, rfl, by omega, rfl, ?_⟩, fun z => ⟨⟨by omega, by omega⟩, ⟨by omega, by omega⟩, (12 - (x2 + 1)).toNat, by omega, rfl, by omega, rfl, ?_⟩⟩⟩
  · have : ¬ ulp g x2 := fun y => by
      rcases z with z | z
      · have := y.1; omega
      · exact z y.2
    rw [hs, b2i_f this]; omega
  · have h01 := (hE.2.2.1 x2 h0.1 (by omega)).2
    have : ulp g x2 := ⟨by rcases h01 with u | u; exact absurd (Or.inl u) z; exact u, Classical.byContradiction (fun u => z (Or.inr u))⟩
    rw [hs, b2i_t this]
noncomputable def tkn (h : HP) : Int := cif (h 4 12 = 0 ∨ ¬ unl h = 1) (-1) (fsN (fun i => h 31 i = 1) (h 4 15).toNat)
set_option maxRecDepth 100000 in
set_option maxHeartbeats 4000000 in
theorem v_X3_taken (w : WD)  (h : HP) (K : Int → HP → Prop) 
    (I1 : Nat → Int → HP → Prop)
    (H : (((((h 4 12) = 0 → True) ∧ (¬ (h 4 12) = 0 → ((HOK h ∧ VOK h ∧ EOK h) ∧ True)))) ∧ (((((h 4 12) = 0) ∨ (¬ (unl h) = 1)) → K (-1) h) ∧ (¬ (((h 4 12) = 0) ∨ (¬ (unl h) = 1)) → (∃ m : Nat, I1 m 0 h)))))
    (H1 : ∀ (n1 : Nat) (x1 : Int) (g1 : HP), I1 n1 x1 g1 → (((g1 4 15) ≤ x1 → K (-1) g1) ∧ (¬ (g1 4 15) ≤ x1 → ((0 ≤ x1 ∧ x1 < 12) ∧ (((g1 31 x1) = 0 → ((iR (x1 + 1)) ∧ (∃ m : Nat, m < n1 ∧ I1 m (x1 + 1) g1))) ∧ (¬ (g1 31 x1) = 0 → K x1 g1)))))) :
    Ev w Y_X3_taken 0 [some (vR 4), none] [] h (rI K) := by
  have L1 : ∀ (n1 : Nat) (x1 : Int) (g1 : HP), I1 n1 x1 g1 → Ev w Y_X3_taken 19 [some (vR 4), some (vI x1)] [] g1 (rI K) := by
    intro n1
    induction n1 using Nat.strongRecOn with
    | ind n1 ih1 =>
      intro x1 g1 H
      have H := H1 n1 x1 g1 H
      refine e_iload_n (pc := 19) dX3_taken_19 rfl rfl ?_
      refine e_aload_n (pc := 20) dX3_taken_20 rfl rfl ?_
      refine e_getI (q := 4) (ci := 3) (k := 15) (kz := 15) (C := RX3) (T := TX3) (N := 16) (x := (g1 4 15)) (pc := 21) dX3_taken_21 rfl rfl rfl ev_in3 rfl ul_1_171 ⟨rfl, by decide⟩ rfl ?_
      refine e_icmp_ge (pc := 24) (tgt := 44) dX3_taken_24 (by decide) (fun c3 => ?_) (fun c3 => ?_)
      · have H := H.1 c3
        refine e_iconst (pc := 44) dX3_taken_44 ⟨by decide, by decide⟩ ?_
        exact e_ret (pc := 45) (v := some (vI (-1))) dX3_taken_45 rfl trivial ⟨_, rfl, H⟩
      · have H := H.2 c3
        refine e_aload_n (pc := 27) dX3_taken_27 rfl rfl ?_
        refine e_getR (q := 4) (ci := 3) (k := 7) (y := 31) (C := RX3) (T := TX3) (N := 16) (pc := 28) dX3_taken_28 rfl rfl ev_in3 rfl ul_1_160 ⟨rfl, rfl⟩ rfl ?_
        refine e_iload_n (pc := 31) dX3_taken_31 rfl rfl ?_
        refine e_zald (q := 31) (x := (g1 31 x1)) (pc := 32) dX3_taken_32 rfl H.1 rfl ?_
        have H := H.2
        refine e_if_eq (pc := 33) (tgt := 38) dX3_taken_33 (by decide) (fun c4 => ?_) (fun c4 => ?_)
        · have H := H.1 c4
          refine e_iinc (lv' := [some (vR 4), some (vI (x1 + 1))]) (pc := 38) dX3_taken_38 rfl H.1 rfl rfl ?_
          have H := H.2
          refine e_goto (pc := 41) (tgt := 19) dX3_taken_41 (by decide) ?_
          obtain ⟨m, hm, H⟩ := H
          exact ih1 m hm _ _ H
        · have H := H.2 c4
          refine e_iload_n (pc := 36) dX3_taken_36 rfl rfl ?_
          exact e_ret (pc := 37) (v := some (vI x1)) dX3_taken_37 rfl trivial ⟨_, rfl, H⟩
  refine e_aload_n (pc := 0) dX3_taken_0 rfl rfl ?_
  refine e_getI (q := 4) (ci := 3) (k := 12) (kz := 12) (C := RX3) (T := TX3) (N := 16) (x := (h 4 12)) (pc := 1) dX3_taken_1 rfl rfl rfl ev_in3 rfl ul_1_165 ⟨rfl, by decide⟩ rfl ?_
  have Ho := H.1
  have H := H.2
  have J1 : (((h 4 12) = 0) ∨ (¬ (unl h) = 1)) → Ev w Y_X3_taken 15 [some (vR 4), none] [] h (rI K) := by
    intro hp
    have H := H.1 hp
    refine e_iconst (pc := 15) dX3_taken_15 ⟨by decide, by decide⟩ ?_
    exact e_ret (pc := 16) (v := some (vI (-1))) dX3_taken_16 rfl trivial ⟨_, rfl, H⟩
  have J2 : ¬ (((h 4 12) = 0) ∨ (¬ (unl h) = 1)) → Ev w Y_X3_taken 17 [some (vR 4), none] [] h (rI K) := by
    intro hp
    have H := H.2 hp
    refine e_iconst (pc := 17) dX3_taken_17 ⟨by decide, by decide⟩ ?_
    refine e_istore_n (lv' := [some (vR 4), some (vI 0)]) (pc := 18) dX3_taken_18 rfl rfl rfl ?_
    obtain ⟨m, H⟩ := H
    exact L1 m _ _ H
  refine e_if_eq (pc := 4) (tgt := 15) dX3_taken_4 (by decide) (fun c1 => ?_) (fun c1 => ?_)
  · have Ho := Ho.1 c1
    exact J1 (Or.inl c1)
  · have Ho := Ho.2 c1
    refine e_aload_n (pc := 7) dX3_taken_7 rfl rfl ?_
    refine e_invV (pc := 8) (Y' := Y_X3_unlike) (as := []) (st := []) (lv0 := [some (vR 4), none, none]) (q := 4) (ci := 3) (T := TX3) (N := 16) dX3_taken_8 m_X3_unlike ul_3_185 ⟨ul_3_128, ul_3_129⟩ ⟨rfl, rfl⟩ rfl rfl rfl rfl rfl rfl rfl (c_X3_unlike w h Ho.1) ?_
    rintro _ hz ⟨_, rfl, rfl, hh⟩
    rw [hh]
    show Ev w Y_X3_taken 11 [some (vR 4), none] [vI (unl h)] h (rI K)
    have Ho := Ho.2
    refine e_iconst (pc := 11) dX3_taken_11 ⟨by decide, by decide⟩ ?_
    refine e_icmp_eq (pc := 12) (tgt := 17) dX3_taken_12 (by decide) (fun c2 => ?_) (fun c2 => ?_)
    · exact J2 (fun z => z.elim c1 (fun z => z c2))
    · exact J1 (Or.inr c2)
set_option maxRecDepth 100000 in
set_option maxHeartbeats 4000000 in
theorem c_X3_taken (w : WD)  (h : HP) (H : HOK h ∧ VOK h ∧ EOK h) : Ev w Y_X3_taken 0 [some (vR 4), none] [] h (rI (fun r h' => r = (tkn h) ∧ h' = h)) := by
  obtain ⟨hH, hV, hE⟩ := H
  have h15 := hE.1
  refine v_X3_taken w h _ (fun n x1 g => g = h ∧ ¬ (h 4 12 = 0 ∨ ¬ unl h = 1) ∧ ∃ k : Nat, x1 = (k : Int) ∧ (k : Int) ≤ h 4 15 ∧ n = (12 - x1).toNat ∧ ∀ i : Int, 0 ≤ i → i < (k : Int) → ¬ h 31 i = 1) ⟨⟨fun _ => trivial, fun _ => ⟨⟨hH, hV, hE⟩, trivial⟩⟩, fun z => ⟨?_, rfl⟩, fun z => ⟨12, rfl, z, 0, rfl, by omega, rfl, fun i a b => by omega⟩⟩ ?_
  · unfold tkn; rw [cif_t z]
  · rintro n x1 g ⟨rfl, hz, k, rfl, hk, rfl, hn⟩
    refine ⟨fun c => ⟨?_, rfl⟩, fun c => ⟨by omega, fun z => ⟨⟨by omega, by omega⟩, (12 - ((k + 1 : Nat) : Int)).toNat, by omega, rfl, hz, k + 1, by omega, by omega, by omega, fun i a b => ?_⟩, fun z => ⟨?_, rfl⟩⟩⟩
    · unfold tkn
      rw [cif_f hz, fsN_none (fun i a b => hn i a (by omega))]
    · by_cases e : i = (k : Int)
      · subst e; omega
      · exact hn i a (by omega)
    · unfold tkn
      have h01 := (hE.2.2.1 (k : Int) (by omega) (by omega)).2
      rw [cif_f hz, fsN_at (k := k) (fun i a b => hn i a b) (by rcases h01 with u | u; exact absurd u z; exact u) (by omega)]
set_option maxRecDepth 100000 in
set_option maxHeartbeats 4000000 in
theorem v_X3_openWith (w : WD) (pt : Int) (wd : Int) (h : HP) (K : Int → HP → Prop) 
    (I1 : Nat → Int → Int → HP → Prop)
    (H : (∃ m : Nat, I1 m 0 0 h))
    (H1 : ∀ (n1 : Nat) (x3 : Int) (x4 : Int) (g1 : HP), I1 n1 x3 x4 g1 → (((g1 4 15) ≤ x4 → K x3 g1) ∧ (¬ (g1 4 15) ≤ x4 → ((0 ≤ x4 ∧ x4 < 12) ∧ (((((g1 31 x4) = 0 → True) ∧ (¬ (g1 31 x4) = 0 → ((0 ≤ x4 ∧ x4 < 12) ∧ True)))) ∧ (((((g1 31 x4) = 0) ∨ (¬ (wrd g1 x4 pt) = wd)) → ((iR (x4 + 1)) ∧ (∃ m : Nat, m < n1 ∧ I1 m x3 (x4 + 1) g1))) ∧ (¬ (((g1 31 x4) = 0) ∨ (¬ (wrd g1 x4 pt) = wd)) → ((iR (x3 + 1)) ∧ ((iR (x4 + 1)) ∧ (∃ m : Nat, m < n1 ∧ I1 m (x3 + 1) (x4 + 1) g1)))))))))) :
    Ev w Y_X3_openWith 0 [some (vR 4), some (vI pt), some (vI wd), none, none] [] h (rI K) := by
  have L1 : ∀ (n1 : Nat) (x3 : Int) (x4 : Int) (g1 : HP), I1 n1 x3 x4 g1 → Ev w Y_X3_openWith 5 [some (vR 4), some (vI pt), some (vI wd), some (vI x3), some (vI x4)] [] g1 (rI K) := by
    intro n1
    induction n1 using Nat.strongRecOn with
    | ind n1 ih1 =>
      intro x3 x4 g1 H
      have H := H1 n1 x3 x4 g1 H
      refine e_iload (pc := 5) dX3_openWith_5 rfl ?_
      refine e_aload_n (pc := 7) dX3_openWith_7 rfl rfl ?_
      refine e_getI (q := 4) (ci := 3) (k := 15) (kz := 15) (C := RX3) (T := TX3) (N := 16) (x := (g1 4 15)) (pc := 8) dX3_openWith_8 rfl rfl rfl ev_in3 rfl ul_1_171 ⟨rfl, by decide⟩ rfl ?_
      refine e_icmp_ge (pc := 11) (tgt := 44) dX3_openWith_11 (by decide) (fun c1 => ?_) (fun c1 => ?_)
      · have H := H.1 c1
        refine e_iload_n (pc := 44) dX3_openWith_44 rfl rfl ?_
        exact e_ret (pc := 45) (v := some (vI x3)) dX3_openWith_45 rfl trivial ⟨_, rfl, H⟩
      · have H := H.2 c1
        refine e_aload_n (pc := 14) dX3_openWith_14 rfl rfl ?_
        refine e_getR (q := 4) (ci := 3) (k := 7) (y := 31) (C := RX3) (T := TX3) (N := 16) (pc := 15) dX3_openWith_15 rfl rfl ev_in3 rfl ul_1_160 ⟨rfl, rfl⟩ rfl ?_
        refine e_iload (pc := 18) dX3_openWith_18 rfl ?_
        refine e_zald (q := 31) (x := (g1 31 x4)) (pc := 20) dX3_openWith_20 rfl H.1 rfl ?_
        have H := H.2
        have Ho := H.1
        have H := H.2
        have J1 : (((g1 31 x4) = 0) ∨ (¬ (wrd g1 x4 pt) = wd)) → Ev w Y_X3_openWith 38 [some (vR 4), some (vI pt), some (vI wd), some (vI x3), some (vI x4)] [] g1 (rI K) := by
          intro hp
          have H := H.1 hp
          refine e_iinc (lv' := [some (vR 4), some (vI pt), some (vI wd), some (vI x3), some (vI (x4 + 1))]) (pc := 38) dX3_openWith_38 rfl H.1 rfl rfl ?_
          have H := H.2
          refine e_goto (pc := 41) (tgt := 5) dX3_openWith_41 (by decide) ?_
          obtain ⟨m, hm, H⟩ := H
          exact ih1 m hm _ _ _ H
        have J2 : ¬ (((g1 31 x4) = 0) ∨ (¬ (wrd g1 x4 pt) = wd)) → Ev w Y_X3_openWith 35 [some (vR 4), some (vI pt), some (vI wd), some (vI x3), some (vI x4)] [] g1 (rI K) := by
          intro hp
          have H := H.2 hp
          refine e_iinc (lv' := [some (vR 4), some (vI pt), some (vI wd), some (vI (x3 + 1)), some (vI x4)]) (pc := 35) dX3_openWith_35 rfl H.1 rfl rfl ?_
          have H := H.2
          refine e_iinc (lv' := [some (vR 4), some (vI pt), some (vI wd), some (vI (x3 + 1)), some (vI (x4 + 1))]) (pc := 38) dX3_openWith_38 rfl H.1 rfl rfl ?_
          have H := H.2
          refine e_goto (pc := 41) (tgt := 5) dX3_openWith_41 (by decide) ?_
          obtain ⟨m, hm, H⟩ := H
          exact ih1 m hm _ _ _ H
        refine e_if_eq (pc := 21) (tgt := 38) dX3_openWith_21 (by decide) (fun c2 => ?_) (fun c2 => ?_)
        · have Ho := Ho.1 c2
          exact J1 (Or.inl c2)
        · have Ho := Ho.2 c2
          refine e_aload_n (pc := 24) dX3_openWith_24 rfl rfl ?_
          refine e_iload (pc := 25) dX3_openWith_25 rfl ?_
          refine e_iload_n (pc := 27) dX3_openWith_27 rfl rfl ?_
          refine e_invV (pc := 28) (Y' := Y_X3_wordAt) (as := [vI x4, vI pt]) (st := []) (lv0 := [some (vR 4), some (vI x4), some (vI pt)]) (q := 4) (ci := 3) (T := TX3) (N := 16) dX3_openWith_28 m_X3_wordAt ul_3_158 ⟨ul_3_160, us_X3_wordAt⟩ ⟨rfl, rfl⟩ rfl rfl rfl rfl rfl rfl rfl (c_X3_wordAt w x4 pt g1 Ho.1) ?_
          rintro _ hz ⟨_, rfl, rfl, hh⟩
          rw [hh]
          show Ev w Y_X3_openWith 31 [some (vR 4), some (vI pt), some (vI wd), some (vI x3), some (vI x4)] [vI (wrd g1 x4 pt)] g1 (rI K)
          have Ho := Ho.2
          refine e_iload_n (pc := 31) dX3_openWith_31 rfl rfl ?_
          refine e_icmp_ne (pc := 32) (tgt := 38) dX3_openWith_32 (by decide) (fun c3 => ?_) (fun c3 => ?_)
          · exact J1 (Or.inr c3)
          · exact J2 (fun z => z.elim c2 (fun z => z c3))
  refine e_iconst (pc := 0) dX3_openWith_0 ⟨by decide, by decide⟩ ?_
  refine e_istore_n (lv' := [some (vR 4), some (vI pt), some (vI wd), some (vI 0), none]) (pc := 1) dX3_openWith_1 rfl rfl rfl ?_
  refine e_iconst (pc := 2) dX3_openWith_2 ⟨by decide, by decide⟩ ?_
  refine e_istore (lv' := [some (vR 4), some (vI pt), some (vI wd), some (vI 0), some (vI 0)]) (pc := 3) dX3_openWith_3 rfl rfl ?_
  obtain ⟨m, H⟩ := H
  exact L1 m _ _ _ H
set_option maxRecDepth 100000 in
set_option maxHeartbeats 4000000 in
theorem c_X3_openWith (w : WD) (pt : Int) (wd : Int) (h : HP) (H : EOK h) : Ev w Y_X3_openWith 0 [some (vR 4), some (vI pt), some (vI wd), none, none] [] h (rI (fun r h' => r = (cnt (fun i => h 31 i = 1 ∧ wrd h i pt = wd) (h 4 15).toNat) ∧ h' = h)) := by
  have h15 := H.1
  refine v_X3_openWith w pt wd h _ (fun n x3 x4 g => g = h ∧ (0 ≤ x4 ∧ x4 ≤ h 4 15) ∧ n = (12 - x4).toNat ∧ x3 = cnt (fun i => h 31 i = 1 ∧ wrd h i pt = wd) x4.toNat) ⟨12, rfl, by omega, rfl, rfl⟩ ?_
  rintro n x3 x4 g ⟨rfl, h0, rfl, rfl⟩
  have hc := cnt_b (fun i => g 31 i = 1 ∧ wrd g i pt = wd) x4.toNat
  have hs : cnt (fun i => g 31 i = 1 ∧ wrd g i pt = wd) (x4 + 1).toNat = cnt (fun i => g 31 i = 1 ∧ wrd g i pt = wd) x4.toNat + b2i (g 31 x4 = 1 ∧ wrd g x4 pt = wd) := cnt_next h0.1
  refine ⟨fun c => ⟨by rw [show x4 = g 4 15 by omega], rfl⟩, fun c => ⟨by omega, ⟨fun _ => trivial, fun _ => ⟨by omega, trivial⟩⟩, fun z => ⟨⟨by omega, by omega⟩, (12 - (x4 + 1)).toNat, by omega, rfl, by omega, rfl, ?_⟩, fun z => ⟨⟨by omega, by omega⟩, ⟨by omega, by omega⟩, (12 - (x4 + 1)).toNat, by omega, rfl, by omega, rfl, ?_⟩⟩⟩
  · have : ¬ (g 31 x4 = 1 ∧ wrd g x4 pt = wd) := fun y => by
      rcases z with z | z
      · have := y.1; omega
      · exact z y.2
    rw [hs, b2i_f this]; omega
  · have h01 := (H.2.2.1 x4 h0.1 (by omega)).2
    have : g 31 x4 = 1 ∧ wrd g x4 pt = wd := ⟨by rcases h01 with u | u; exact absurd (Or.inl u) z; exact u, Classical.byContradiction (fun u => z (Or.inr u))⟩
    rw [hs, b2i_t this]
noncomputable def grt (h : HP) (pt : Int) : Nat → Int
  | 0 => 0
  | k + 1 => cif (h 31 (k : Int) = 0) (grt h pt k) (max (grt h pt k) (cnt (fun i => h 31 i = 1 ∧ wrd h i pt = wrd h (k : Int) pt) (h 4 15).toNat))
set_option maxRecDepth 100000 in
set_option maxHeartbeats 4000000 in
theorem v_X3_greatestWithOneAnswer (w : WD) (pt : Int) (h : HP) (K : Int → HP → Prop) 
    (I1 : Nat → Int → Int → HP → Prop)
    (H : (∃ m : Nat, I1 m 0 0 h))
    (H1 : ∀ (n1 : Nat) (x2 : Int) (x3 : Int) (g1 : HP), I1 n1 x2 x3 g1 → (((g1 4 15) ≤ x3 → K x2 g1) ∧ (¬ (g1 4 15) ≤ x3 → ((0 ≤ x3 ∧ x3 < 12) ∧ (((g1 31 x3) = 0 → ((iR (x3 + 1)) ∧ (∃ m : Nat, m < n1 ∧ I1 m x2 (x3 + 1) g1))) ∧ (¬ (g1 31 x3) = 0 → ((0 ≤ x3 ∧ x3 < 12) ∧ ((EOK g1) ∧ ((iR (x3 + 1)) ∧ (∃ m : Nat, m < n1 ∧ I1 m (max x2 (cnt (fun i => g1 31 i = 1 ∧ wrd g1 i pt = (wrd g1 x3 pt)) (g1 4 15).toNat)) (x3 + 1) g1)))))))))) :
    Ev w Y_X3_greatestWithOneAnswer 0 [some (vR 4), some (vI pt), none, none] [] h (rI K) := by
  have L1 : ∀ (n1 : Nat) (x2 : Int) (x3 : Int) (g1 : HP), I1 n1 x2 x3 g1 → Ev w Y_X3_greatestWithOneAnswer 4 [some (vR 4), some (vI pt), some (vI x2), some (vI x3)] [] g1 (rI K) := by
    intro n1
    induction n1 using Nat.strongRecOn with
    | ind n1 ih1 =>
      intro x2 x3 g1 H
      have H := H1 n1 x2 x3 g1 H
      refine e_iload_n (pc := 4) dX3_greatestWithOneAnswer_4 rfl rfl ?_
      refine e_aload_n (pc := 5) dX3_greatestWithOneAnswer_5 rfl rfl ?_
      refine e_getI (q := 4) (ci := 3) (k := 15) (kz := 15) (C := RX3) (T := TX3) (N := 16) (x := (g1 4 15)) (pc := 6) dX3_greatestWithOneAnswer_6 rfl rfl rfl ev_in3 rfl ul_1_171 ⟨rfl, by decide⟩ rfl ?_
      refine e_icmp_ge (pc := 9) (tgt := 43) dX3_greatestWithOneAnswer_9 (by decide) (fun c1 => ?_) (fun c1 => ?_)
      · have H := H.1 c1
        refine e_iload_n (pc := 43) dX3_greatestWithOneAnswer_43 rfl rfl ?_
        exact e_ret (pc := 44) (v := some (vI x2)) dX3_greatestWithOneAnswer_44 rfl trivial ⟨_, rfl, H⟩
      · have H := H.2 c1
        refine e_aload_n (pc := 12) dX3_greatestWithOneAnswer_12 rfl rfl ?_
        refine e_getR (q := 4) (ci := 3) (k := 7) (y := 31) (C := RX3) (T := TX3) (N := 16) (pc := 13) dX3_greatestWithOneAnswer_13 rfl rfl ev_in3 rfl ul_1_160 ⟨rfl, rfl⟩ rfl ?_
        refine e_iload_n (pc := 16) dX3_greatestWithOneAnswer_16 rfl rfl ?_
        refine e_zald (q := 31) (x := (g1 31 x3)) (pc := 17) dX3_greatestWithOneAnswer_17 rfl H.1 rfl ?_
        have H := H.2
        refine e_if_eq (pc := 18) (tgt := 37) dX3_greatestWithOneAnswer_18 (by decide) (fun c2 => ?_) (fun c2 => ?_)
        · have H := H.1 c2
          refine e_iinc (lv' := [some (vR 4), some (vI pt), some (vI x2), some (vI (x3 + 1))]) (pc := 37) dX3_greatestWithOneAnswer_37 rfl H.1 rfl rfl ?_
          have H := H.2
          refine e_goto (pc := 40) (tgt := 4) dX3_greatestWithOneAnswer_40 (by decide) ?_
          obtain ⟨m, hm, H⟩ := H
          exact ih1 m hm _ _ _ H
        · have H := H.2 c2
          refine e_iload_n (pc := 21) dX3_greatestWithOneAnswer_21 rfl rfl ?_
          refine e_aload_n (pc := 22) dX3_greatestWithOneAnswer_22 rfl rfl ?_
          refine e_iload_n (pc := 23) dX3_greatestWithOneAnswer_23 rfl rfl ?_
          refine e_aload_n (pc := 24) dX3_greatestWithOneAnswer_24 rfl rfl ?_
          refine e_iload_n (pc := 25) dX3_greatestWithOneAnswer_25 rfl rfl ?_
          refine e_iload_n (pc := 26) dX3_greatestWithOneAnswer_26 rfl rfl ?_
          refine e_invV (pc := 27) (Y' := Y_X3_wordAt) (as := [vI x3, vI pt]) (st := [vI pt, vR 4, vI x2]) (lv0 := [some (vR 4), some (vI x3), some (vI pt)]) (q := 4) (ci := 3) (T := TX3) (N := 16) dX3_greatestWithOneAnswer_27 m_X3_wordAt ul_3_158 ⟨ul_3_160, us_X3_wordAt⟩ ⟨rfl, rfl⟩ rfl rfl rfl rfl rfl rfl rfl (c_X3_wordAt w x3 pt g1 H.1) ?_
          rintro _ hz ⟨_, rfl, rfl, hh⟩
          rw [hh]
          show Ev w Y_X3_greatestWithOneAnswer 30 [some (vR 4), some (vI pt), some (vI x2), some (vI x3)] [vI (wrd g1 x3 pt), vI pt, vR 4, vI x2] g1 (rI K)
          have H := H.2
          refine e_invV (pc := 30) (Y' := Y_X3_openWith) (as := [vI pt, vI (wrd g1 x3 pt)]) (st := [vI x2]) (lv0 := [some (vR 4), some (vI pt), some (vI (wrd g1 x3 pt)), none, none]) (q := 4) (ci := 3) (T := TX3) (N := 16) dX3_greatestWithOneAnswer_30 m_X3_openWith ul_3_162 ⟨ul_3_164, us_X3_openWith⟩ ⟨rfl, rfl⟩ rfl rfl rfl rfl rfl rfl rfl (c_X3_openWith w pt (wrd g1 x3 pt) g1 H.1) ?_
          rintro _ hz ⟨_, rfl, rfl, hh⟩
          rw [hh]
          show Ev w Y_X3_greatestWithOneAnswer 33 [some (vR 4), some (vI pt), some (vI x2), some (vI x3)] [vI (cnt (fun i => g1 31 i = 1 ∧ wrd g1 i pt = (wrd g1 x3 pt)) (g1 4 15).toNat), vI x2] g1 (rI K)
          have H := H.2
          refine e_max (pc := 33) dX3_greatestWithOneAnswer_33 ul_3_166 ⟨rfl, rfl⟩ rfl ?_
          refine e_istore_n (lv' := [some (vR 4), some (vI pt), some (vI (max x2 (cnt (fun i => g1 31 i = 1 ∧ wrd g1 i pt = (wrd g1 x3 pt)) (g1 4 15).toNat))), some (vI x3)]) (pc := 36) dX3_greatestWithOneAnswer_36 rfl rfl rfl ?_
          refine e_iinc (lv' := [some (vR 4), some (vI pt), some (vI (max x2 (cnt (fun i => g1 31 i = 1 ∧ wrd g1 i pt = (wrd g1 x3 pt)) (g1 4 15).toNat))), some (vI (x3 + 1))]) (pc := 37) dX3_greatestWithOneAnswer_37 rfl H.1 rfl rfl ?_
          have H := H.2
          refine e_goto (pc := 40) (tgt := 4) dX3_greatestWithOneAnswer_40 (by decide) ?_
          obtain ⟨m, hm, H⟩ := H
          exact ih1 m hm _ _ _ H
  refine e_iconst (pc := 0) dX3_greatestWithOneAnswer_0 ⟨by decide, by decide⟩ ?_
  refine e_istore_n (lv' := [some (vR 4), some (vI pt), some (vI 0), none]) (pc := 1) dX3_greatestWithOneAnswer_1 rfl rfl rfl ?_
  refine e_iconst (pc := 2) dX3_greatestWithOneAnswer_2 ⟨by decide, by decide⟩ ?_
  refine e_istore_n (lv' := [some (vR 4), some (vI pt), some (vI 0), some (vI 0)]) (pc := 3) dX3_greatestWithOneAnswer_3 rfl rfl rfl ?_
  obtain ⟨m, H⟩ := H
  exact L1 m _ _ _ H
set_option maxRecDepth 100000 in
set_option maxHeartbeats 4000000 in
theorem c_X3_greatestWithOneAnswer (w : WD) (pt : Int) (h : HP) (H : EOK h) : Ev w Y_X3_greatestWithOneAnswer 0 [some (vR 4), some (vI pt), none, none] [] h (rI (fun r h' => r = (grt h pt (h 4 15).toNat) ∧ h' = h)) := by
  have h15 := H.1
  refine v_X3_greatestWithOneAnswer w pt h _ (fun n x2 x3 g => g = h ∧ ∃ k : Nat, x3 = (k : Int) ∧ (k : Int) ≤ h 4 15 ∧ n = (12 - x3).toNat ∧ x2 = grt h pt k) ⟨12, rfl, 0, rfl, by omega, rfl, rfl⟩ ?_
  rintro n x2 x3 g ⟨rfl, k, rfl, hk, rfl, rfl⟩
  refine ⟨fun c => ⟨by rw [show k = (g 4 15).toNat by omega], rfl⟩, fun c => ⟨by omega, fun z => ⟨⟨by omega, by omega⟩, (12 - ((k + 1 : Nat) : Int)).toNat, by omega, rfl, k + 1, by omega, by omega, by omega, ?_⟩, fun z => ⟨by omega, H, ⟨by omega, by omega⟩, (12 - ((k + 1 : Nat) : Int)).toNat, by omega, rfl, k + 1, by omega, by omega, by omega, ?_⟩⟩⟩
  · simp only [grt]; rw [cif_t z]
  · simp only [grt]; rw [cif_f z]
noncomputable def pta (a b c : Int) : Int := cif (b < a) (cif (c < b) 2 1) (cif (c < a) 2 0)
set_option maxRecDepth 100000 in
set_option maxHeartbeats 4000000 in
theorem v_X3_partToAsk (w : WD)  (h : HP) (K : Int → HP → Prop) 
    (I1 : Nat → Int → Int → HP → Prop)
    (H : (∃ m : Nat, I1 m 0 1 h))
    (H1 : ∀ (n1 : Nat) (x1 : Int) (x2 : Int) (g1 : HP), I1 n1 x1 x2 g1 → ((3 ≤ x2 → K x1 g1) ∧ (¬ 3 ≤ x2 → ((EOK g1) ∧ ((EOK g1) ∧ (((grt g1 x1 (g1 4 15).toNat) ≤ (grt g1 x2 (g1 4 15).toNat) → ((iR (x2 + 1)) ∧ (∃ m : Nat, m < n1 ∧ I1 m x1 (x2 + 1) g1))) ∧ (¬ (grt g1 x1 (g1 4 15).toNat) ≤ (grt g1 x2 (g1 4 15).toNat) → ((iR (x2 + 1)) ∧ (∃ m : Nat, m < n1 ∧ I1 m x2 (x2 + 1) g1))))))))) :
    Ev w Y_X3_partToAsk 0 [some (vR 4), none, none] [] h (rI K) := by
  have L1 : ∀ (n1 : Nat) (x1 : Int) (x2 : Int) (g1 : HP), I1 n1 x1 x2 g1 → Ev w Y_X3_partToAsk 4 [some (vR 4), some (vI x1), some (vI x2)] [] g1 (rI K) := by
    intro n1
    induction n1 using Nat.strongRecOn with
    | ind n1 ih1 =>
      intro x1 x2 g1 H
      have H := H1 n1 x1 x2 g1 H
      refine e_iload_n (pc := 4) dX3_partToAsk_4 rfl rfl ?_
      refine e_iconst (pc := 5) dX3_partToAsk_5 ⟨by decide, by decide⟩ ?_
      refine e_icmp_ge (pc := 6) (tgt := 30) dX3_partToAsk_6 (by decide) (fun c1 => ?_) (fun c1 => ?_)
      · have H := H.1 c1
        refine e_iload_n (pc := 30) dX3_partToAsk_30 rfl rfl ?_
        exact e_ret (pc := 31) (v := some (vI x1)) dX3_partToAsk_31 rfl trivial ⟨_, rfl, H⟩
      · have H := H.2 c1
        refine e_aload_n (pc := 9) dX3_partToAsk_9 rfl rfl ?_
        refine e_iload_n (pc := 10) dX3_partToAsk_10 rfl rfl ?_
        refine e_invV (pc := 11) (Y' := Y_X3_greatestWithOneAnswer) (as := [vI x2]) (st := []) (lv0 := [some (vR 4), some (vI x2), none, none]) (q := 4) (ci := 3) (T := TX3) (N := 16) dX3_partToAsk_11 m_X3_greatestWithOneAnswer ul_3_154 ⟨ul_3_156, us_X3_greatestWithOneAnswer⟩ ⟨rfl, rfl⟩ rfl rfl rfl rfl rfl rfl rfl (c_X3_greatestWithOneAnswer w x2 g1 H.1) ?_
        rintro _ hz ⟨_, rfl, rfl, hh⟩
        rw [hh]
        show Ev w Y_X3_partToAsk 14 [some (vR 4), some (vI x1), some (vI x2)] [vI (grt g1 x2 (g1 4 15).toNat)] g1 (rI K)
        have H := H.2
        refine e_aload_n (pc := 14) dX3_partToAsk_14 rfl rfl ?_
        refine e_iload_n (pc := 15) dX3_partToAsk_15 rfl rfl ?_
        refine e_invV (pc := 16) (Y' := Y_X3_greatestWithOneAnswer) (as := [vI x1]) (st := [vI (grt g1 x2 (g1 4 15).toNat)]) (lv0 := [some (vR 4), some (vI x1), none, none]) (q := 4) (ci := 3) (T := TX3) (N := 16) dX3_partToAsk_16 m_X3_greatestWithOneAnswer ul_3_154 ⟨ul_3_156, us_X3_greatestWithOneAnswer⟩ ⟨rfl, rfl⟩ rfl rfl rfl rfl rfl rfl rfl (c_X3_greatestWithOneAnswer w x1 g1 H.1) ?_
        rintro _ hz ⟨_, rfl, rfl, hh⟩
        rw [hh]
        show Ev w Y_X3_partToAsk 19 [some (vR 4), some (vI x1), some (vI x2)] [vI (grt g1 x1 (g1 4 15).toNat), vI (grt g1 x2 (g1 4 15).toNat)] g1 (rI K)
        have H := H.2
        refine e_icmp_ge (pc := 19) (tgt := 24) dX3_partToAsk_19 (by decide) (fun c2 => ?_) (fun c2 => ?_)
        · have H := H.1 c2
          refine e_iinc (lv' := [some (vR 4), some (vI x1), some (vI (x2 + 1))]) (pc := 24) dX3_partToAsk_24 rfl H.1 rfl rfl ?_
          have H := H.2
          refine e_goto (pc := 27) (tgt := 4) dX3_partToAsk_27 (by decide) ?_
          obtain ⟨m, hm, H⟩ := H
          exact ih1 m hm _ _ _ H
        · have H := H.2 c2
          refine e_iload_n (pc := 22) dX3_partToAsk_22 rfl rfl ?_
          refine e_istore_n (lv' := [some (vR 4), some (vI x2), some (vI x2)]) (pc := 23) dX3_partToAsk_23 rfl rfl rfl ?_
          refine e_iinc (lv' := [some (vR 4), some (vI x2), some (vI (x2 + 1))]) (pc := 24) dX3_partToAsk_24 rfl H.1 rfl rfl ?_
          have H := H.2
          refine e_goto (pc := 27) (tgt := 4) dX3_partToAsk_27 (by decide) ?_
          obtain ⟨m, hm, H⟩ := H
          exact ih1 m hm _ _ _ H
  refine e_iconst (pc := 0) dX3_partToAsk_0 ⟨by decide, by decide⟩ ?_
  refine e_istore_n (lv' := [some (vR 4), some (vI 0), none]) (pc := 1) dX3_partToAsk_1 rfl rfl rfl ?_
  refine e_iconst (pc := 2) dX3_partToAsk_2 ⟨by decide, by decide⟩ ?_
  refine e_istore_n (lv' := [some (vR 4), some (vI 0), some (vI 1)]) (pc := 3) dX3_partToAsk_3 rfl rfl rfl ?_
  obtain ⟨m, H⟩ := H
  exact L1 m _ _ _ H
set_option maxRecDepth 100000 in
set_option maxHeartbeats 4000000 in
theorem c_X3_partToAsk (w : WD)  (h : HP) (H : EOK h) : Ev w Y_X3_partToAsk 0 [some (vR 4), none, none] [] h (rI (fun r h' => r = (pta (grt h 0 (h 4 15).toNat) (grt h 1 (h 4 15).toNat) (grt h 2 (h 4 15).toNat)) ∧ h' = h)) := by
  refine v_X3_partToAsk w h _ (fun n x1 x2 g => g = h ∧ n = (3 - x2).toNat ∧ ((x2 = 1 ∧ x1 = 0) ∨ (x2 = 2 ∧ ((x1 = 1 ∧ grt h 1 (h 4 15).toNat < grt h 0 (h 4 15).toNat) ∨ (x1 = 0 ∧ ¬ grt h 1 (h 4 15).toNat < grt h 0 (h 4 15).toNat))) ∨ (x2 = 3 ∧ x1 = pta (grt h 0 (h 4 15).toNat) (grt h 1 (h 4 15).toNat) (grt h 2 (h 4 15).toNat)))) ⟨2, rfl, rfl, Or.inl ⟨rfl, rfl⟩⟩ ?_
  rintro n x1 x2 g ⟨rfl, rfl, hx⟩
  refine ⟨fun c => ?_, fun c => ⟨H, H, fun z => ⟨⟨by omega, by omega⟩, (3 - (x2 + 1)).toNat, by omega, rfl, rfl, ?_⟩, fun z => ⟨⟨by omega, by omega⟩, (3 - (x2 + 1)).toNat, by omega, rfl, rfl, ?_⟩⟩⟩
  · rcases hx with y | y | y
    · omega
    · omega
    · exact ⟨y.2, rfl⟩
  · rcases hx with ⟨rfl, rfl⟩ | ⟨rfl, ⟨rfl, y⟩ | ⟨rfl, y⟩⟩ | y
    · exact Or.inr (Or.inl ⟨rfl, Or.inr ⟨rfl, by omega⟩⟩)
    · refine Or.inr (Or.inr ⟨rfl, ?_⟩)
      unfold pta
      rw [cif_t y, cif_f (by omega)]
    · refine Or.inr (Or.inr ⟨rfl, ?_⟩)
      unfold pta
      rw [cif_f y, cif_f (by omega)]
    · omega
  · rcases hx with ⟨rfl, rfl⟩ | ⟨rfl, ⟨rfl, y⟩ | ⟨rfl, y⟩⟩ | y
    · exact Or.inr (Or.inl ⟨rfl, Or.inl ⟨rfl, by omega⟩⟩)
    · refine Or.inr (Or.inr ⟨rfl, ?_⟩)
      unfold pta
      rw [cif_t y, cif_t (by omega)]
    · refine Or.inr (Or.inr ⟨rfl, ?_⟩)
      unfold pta
      rw [cif_f y, cif_t (by omega)]
    · omega
