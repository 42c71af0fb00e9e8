/-! ticks of both sides; firing over states that agree -/
def agr (n : Int) (f g : Int → Int) : Prop := ∀ t : Int, 0 ≤ t → t < n → f t = g t
theorem agr_us {n t v : Int} {f g : Int → Int} (h : agr n f g) : agr n (us f t v) (us g t v) := fun u a b => by
  by_cases e : u = t
  · rw [e, us_s, us_s]
  · rw [us_n e, us_n e]; exact h u a b
theorem fir_rel {TN IN TN' IN' : Int → Int} {wk wk' : Int → Int → List Int} {NB NB' : (Int → Int) → (Int → Int) → Prop} {N T : Int} (hT : T ≤ 10)
    (h1 : ∀ s : Int, 0 ≤ s → s < N → TN s = TN' s ∧ IN s = IN' s ∧ 0 ≤ TN s ∧ TN s < T)
    (h2 : ∀ t v : Int, 0 ≤ t → wk t v = wk' t v) (h3 : ∀ t v s : Int, s ∈ wk t v → 0 ≤ s ∧ s < N)
    (h4 : ∀ f f' g g' : Int → Int, agr 10 f g → agr 10 f' g' → (NB f f' ↔ NB' g g')) :
    ∀ (F k : Nat) (c : Int) (f g r r' : Int → Int) (hd : Int) (L : List Int), agr 10 f g → agr T r r' → (∀ s : Int, s ∈ L → 0 ≤ s ∧ s < N) →
      agr 10 (fir TN IN wk NB F k c f r hd L).1 (fir TN' IN' wk' NB' F k c g r' hd L).1 ∧ agr T (fir TN IN wk NB F k c f r hd L).2.1 (fir TN' IN' wk' NB' F k c g r' hd L).2.1 ∧ (fir TN IN wk NB F k c f r hd L).2.2 = (fir TN' IN' wk' NB' F k c g r' hd L).2.2
  | 0, k, c, f, g, r, r', hd, L, hf, hr, hL => ⟨hf, hr, rfl⟩
  | F + 1, k, c, f, g, r, r', hd, L, hf, hr, hL => by
    by_cases hk : k < L.length ∧ c < 30
    · generalize hs : L.getD k 0 = s
      have hm := hL s (by rw [← hs]; exact getD_mem hk.1)
      have e := h1 s hm.1 hm.2
      have ef : f (TN s) = g (TN s) := hf _ e.2.2.1 (by omega)
      by_cases z : f (TN s) = IN s
      · rw [fir_same hk hs z, fir_same hk hs (by rw [← e.1, ← e.2.1, ← ef]; exact z)]
        exact fir_rel hT h1 h2 h3 h4 F (k + 1) c f g r r' hd L hf hr hL
      · have z' : ¬ g (TN' s) = IN' s := by rw [← e.1, ← e.2.1, ← ef]; exact z
        have hu : agr 10 (us f (TN s) (IN s)) (us g (TN' s) (IN' s)) := by rw [← e.1, ← e.2.1]; exact agr_us hf
        have hb := h4 _ _ _ _ hf hu
        by_cases y : NB f (us f (TN s) (IN s))
        · rw [fir_bar hk hs z y, fir_bar hk hs z' (hb.mp y)]
          exact fir_rel hT h1 h2 h3 h4 F (k + 1) c f g r r' (hd + 1) L hf hr hL
        · rw [fir_go hk hs z y, fir_go hk hs z' (fun u => y (hb.mpr u)), ← e.1, ← e.2.1, ← h2 (TN s) (IN s) e.2.2.1]
          rw [← e.1, ← e.2.1] at hu
          refine fir_rel hT h1 h2 h3 h4 F (k + 1) (c + 1) _ _ _ _ hd _ hu (agr_us hr) (fun s' hs' => ?_)
          rw [List.mem_append] at hs'
          rcases hs' with q | q
          · exact hL s' q
          · exact h3 _ _ s' q
    · rw [fir_stop hk, fir_stop hk]
      exact ⟨hf, hr, rfl⟩
def S_X8_ticks (a : Int) (h : HP) (K : Int → HP → Prop) : Prop := (¬ (1 ≤ a ∧ a ≤ 100) → K (-1) h) ∧ ((1 ≤ a ∧ a ≤ 100) → ∃ J : Nat → HP → Prop, J 0 h ∧ (∀ (k : Nat) (g : HP), (k : Int) < a → J k g → S_X4_passHour g (fun h1 => 0 ≤ h1 1 9 ∧ S_X6_fireAt (h1 1 9 % 24) h1 (fun h2 => J (k + 1) h2))) ∧ ∀ g : HP, J a.toNat g → K (g 1 9) g)
theorem pass_mono {h : HP} {K K' : HP → Prop} (H : S_X4_passHour h K) (hk : ∀ h', K h' → K' h') : S_X4_passHour h K' := ⟨H.1, fun h' a b c d e => hk h' (H.2 h' a b c d e)⟩
theorem run_mono {c0 : Int} {h : HP} {K K' : HP → Prop} (H : S_X6_runRow c0 h K) (hk : ∀ h', K h' → K' h') : S_X6_runRow c0 h K' := by
  obtain ⟨L, h1, h2⟩ := H
  exact ⟨L, h1, fun h' a b c d => hk h' (h2 h' a b c d)⟩
theorem rouse_mono {t v : Int} {h : HP} {K K' : HP → Prop} (H : S_X6_rouse t v h K) (hk : ∀ h', K h' → K' h') : S_X6_rouse t v h K' := by
  obtain ⟨L, h1, h2⟩ := H
  exact ⟨L, h1, fun h' a b c d => hk h' (h2 h' a b c d)⟩
theorem fireAt_mono {v : Int} {h : HP} {K K' : HP → Prop} (H : S_X6_fireAt v h K) (hk : ∀ h', K h' → K' h') : S_X6_fireAt v h K' := rouse_mono H (fun _ y => run_mono y (fun _ u => hk _ u))
theorem mfire_mono {c0 : Int} {h : HP} {K K' : HP → Prop} (H : S_X9_fire c0 h K) (hk : ∀ h', K h' → K' h') : S_X9_fire c0 h K' := by
  obtain ⟨L, h1, h2⟩ := H
  exact ⟨L, h1, fun h' a b c d => hk h' (h2 h' a b c d)⟩
set_option maxRecDepth 100000 in
set_option maxHeartbeats 4000000 in
theorem v_X8_ticks (w : WD) (a : Int) (h : HP) (K : Int → HP → Prop) 
    (I1 : Nat → Int → HP → Prop)
    (H : (((1 ≤ a ∧ a ≤ 100) → (∃ m : Nat, I1 m 0 h)) ∧ (¬ (1 ≤ a ∧ a ≤ 100) → K (-1) h)))
    (H1 : ∀ (n1 : Nat) (x2 : Int) (g1 : HP), I1 n1 x2 g1 → ((a ≤ x2 → K (g1 1 9) g1) ∧ (¬ a ≤ x2 → (S_X4_passHour g1 (fun h21 => ((0 ≤ h21 1 9) ∧ (S_X6_fireAt (h21 1 9 % 24) h21 (fun h22 => ((iR (x2 + 1)) ∧ (∃ m : Nat, m < n1 ∧ I1 m (x2 + 1) h22)))))))))) :
    Ev w Y_X8_ticks 0 [some (vR 0), some (vI a), none] [] h (rI K) := by
  have L1 : ∀ (n1 : Nat) (x2 : Int) (g1 : HP), I1 n1 x2 g1 → Ev w Y_X8_ticks 14 [some (vR 0), some (vI a), some (vI x2)] [] g1 (rI K) := by
    intro n1
    induction n1 using Nat.strongRecOn with
    | ind n1 ih1 =>
      intro x2 g1 H
      have H := H1 n1 x2 g1 H
      refine e_iload_n (pc := 14) dX8_ticks_14 rfl rfl ?_
      refine e_iload_n (pc := 15) dX8_ticks_15 rfl rfl ?_
      refine e_icmp_ge (pc := 16) (tgt := 46) dX8_ticks_16 (by decide) (fun c2 => ?_) (fun c2 => ?_)
      · have H := H.1 c2
        refine e_aload_n (pc := 46) dX8_ticks_46 rfl rfl ?_
        refine e_getR (q := 0) (ci := 8) (k := 0) (y := 1) (C := RX8) (T := TX8) (N := 9) (pc := 47) dX8_ticks_47 rfl rfl ev_in8 rfl ul_2_98 ⟨rfl, rfl⟩ rfl ?_
        refine e_getI (q := 1) (ci := 4) (k := 9) (kz := 9) (C := RX4) (T := TX4) (N := 10) (x := (g1 1 9)) (pc := 50) dX8_ticks_50 rfl rfl rfl ev_in4 rfl ul_1_55 ⟨rfl, by decide⟩ rfl ?_
        exact e_ret (pc := 53) (v := some (vI (g1 1 9))) dX8_ticks_53 rfl trivial ⟨_, rfl, H⟩
      · have H := H.2 c2
        refine e_aload_n (pc := 19) dX8_ticks_19 rfl rfl ?_
        refine e_getR (q := 0) (ci := 8) (k := 0) (y := 1) (C := RX8) (T := TX8) (N := 9) (pc := 20) dX8_ticks_20 rfl rfl ev_in8 rfl ul_2_98 ⟨rfl, rfl⟩ rfl ?_
        refine e_invV (pc := 23) (Y' := Y_X4_passHour) (as := []) (st := []) (lv0 := [some (vR 1), none]) (q := 1) (ci := 4) (T := TX4) (N := 10) dX8_ticks_23 m_X4_passHour ul_4_61 ⟨ul_4_62, ul_4_63⟩ ⟨rfl, rfl⟩ rfl rfl rfl rfl rfl rfl rfl (c_X4_passHour w g1 _ H) ?_
        rintro _ h21 ⟨rfl, H⟩
        show Ev w Y_X8_ticks 26 [some (vR 0), some (vI a), some (vI x2)] [] h21 (rI K)
        refine e_aload_n (pc := 26) dX8_ticks_26 rfl rfl ?_
        refine e_getR (q := 0) (ci := 8) (k := 5) (y := 6) (C := RX8) (T := TX8) (N := 9) (pc := 27) dX8_ticks_27 rfl rfl ev_in8 rfl ul_2_103 ⟨rfl, rfl⟩ rfl ?_
        refine e_aload_n (pc := 30) dX8_ticks_30 rfl rfl ?_
        refine e_getR (q := 0) (ci := 8) (k := 0) (y := 1) (C := RX8) (T := TX8) (N := 9) (pc := 31) dX8_ticks_31 rfl rfl ev_in8 rfl ul_2_98 ⟨rfl, rfl⟩ rfl ?_
        refine e_invV (pc := 34) (Y' := Y_X4_hourOfDay) (as := []) (st := [vR 6]) (lv0 := [some (vR 1)]) (q := 1) (ci := 4) (T := TX4) (N := 10) dX8_ticks_34 m_X4_hourOfDay ul_3_190 ⟨ul_3_191, ul_3_192⟩ ⟨rfl, rfl⟩ rfl rfl rfl rfl rfl rfl rfl (c_X4_hourOfDay w h21 H.1) ?_
        rintro _ hz ⟨_, rfl, rfl, hh⟩
        rw [hh]
        show Ev w Y_X8_ticks 37 [some (vR 0), some (vI a), some (vI x2)] [vI (h21 1 9 % 24), vR 6] h21 (rI K)
        have H := H.2
        refine e_invV (pc := 37) (Y' := Y_X6_fireAt) (as := [vI (h21 1 9 % 24)]) (st := []) (lv0 := [some (vR 6), some (vI (h21 1 9 % 24))]) (q := 6) (ci := 6) (T := TX6) (N := 10) dX8_ticks_37 m_X6_fireAt ul_4_65 ⟨ul_4_66, ul_4_67⟩ ⟨rfl, rfl⟩ rfl rfl rfl rfl rfl rfl rfl (c_X6_fireAt w (h21 1 9 % 24) h21 _ H) ?_
        rintro _ h22 ⟨rfl, H⟩
        show Ev w Y_X8_ticks 40 [some (vR 0), some (vI a), some (vI x2)] [] h22 (rI K)
        refine e_iinc (lv' := [some (vR 0), some (vI a), some (vI (x2 + 1))]) (pc := 40) dX8_ticks_40 rfl H.1 rfl rfl ?_
        have H := H.2
        refine e_goto (pc := 43) (tgt := 14) dX8_ticks_43 (by decide) ?_
        obtain ⟨m, hm, H⟩ := H
        exact ih1 m hm _ _ H
  refine e_iload_n (pc := 0) dX8_ticks_0 rfl rfl ?_
  refine e_iconst (pc := 1) dX8_ticks_1 ⟨by decide, by decide⟩ ?_
  refine e_bipush (pc := 2) dX8_ticks_2 ⟨by decide, by decide⟩ (by decide) ?_
  refine e_invS (pc := 4) (Y' := Y_X8_within) (as := [vI a, vI 1, vI 100]) (st := []) (lv0 := [some (vI a), some (vI 1), some (vI 100)]) dX8_ticks_4 m_X8_within ul_2_130 ul_2_131 ⟨rfl, rfl⟩ rfl rfl rfl rfl rfl (c_X8_within w a 1 100 h) ?_
  rintro _ hz ⟨_, rfl, rfl, hh⟩
  rw [hh]
  show Ev w Y_X8_ticks 7 [some (vR 0), some (vI a), none] [vI (b2i (1 ≤ a ∧ a ≤ 100))] h (rI K)
  refine e_ifb_ne (pc := 7) (tgt := 12) dX8_ticks_7 (by decide) (fun c1 => ?_) (fun c1 => ?_)
  · have H := H.1 c1
    refine e_iconst (pc := 12) dX8_ticks_12 ⟨by decide, by decide⟩ ?_
    refine e_istore_n (lv' := [some (vR 0), some (vI a), some (vI 0)]) (pc := 13) dX8_ticks_13 rfl rfl rfl ?_
    obtain ⟨m, H⟩ := H
    exact L1 m _ _ H
  · have H := H.2 c1
    refine e_iconst (pc := 10) dX8_ticks_10 ⟨by decide, by decide⟩ ?_
    exact e_ret (pc := 11) (v := some (vI (-1))) dX8_ticks_11 rfl trivial ⟨_, rfl, H⟩
set_option maxRecDepth 100000 in
set_option maxHeartbeats 4000000 in
theorem c_X8_ticks (w : WD) (a : Int) (h : HP) (K : Int → HP → Prop)  (H : S_X8_ticks a h K) : Ev w Y_X8_ticks 0 [some (vR 0), some (vI a), none] [] h (rI K) := by
  obtain ⟨HN, HK⟩ := H
  by_cases ha : 1 ≤ a ∧ a ≤ 100
  case neg => exact v_X8_ticks w a h K (fun _ _ _ => False) ⟨fun c => absurd c ha, HN⟩ (fun _ _ _ f => f.elim)
  obtain ⟨J, h0, hs, he⟩ := HK ha
  refine v_X8_ticks w a h K (fun n x2 g => ∃ k : Nat, x2 = (k : Int) ∧ (k : Int) ≤ a ∧ n = (a - (k : Int)).toNat ∧ J k g) ⟨fun _ => ⟨a.toNat, 0, rfl, by omega, by omega, h0⟩, fun c => absurd ha c⟩ ?_
  rintro n x2 g ⟨k, rfl, hk, rfl, hj⟩
  refine ⟨fun c => he g (by rw [show a.toNat = k by omega]; exact hj), fun c => pass_mono (hs k g (by omega) hj) (fun h1 y => ⟨y.1, fireAt_mono y.2 (fun h2 u => ⟨⟨by omega, by omega⟩, (a - ((k + 1 : Nat) : Int)).toNat, by omega, k + 1, by omega, by omega, rfl, u⟩)⟩)⟩
def tkM (g g1 : HP) : Prop := (∀ q, q ≠ 59 → q ≠ 55 → q ≠ 86 → g1 q = g q) ∧ (∀ i : Int, i ≠ 8 → i ≠ 47 → g1 55 i = g 55 i) ∧ g1 55 8 = g 55 8 + 1 ∧ (∀ t : Int, 0 ≤ t → t < g 55 0 → g1 59 t = g 59 t + g 60 t * g 58 t) ∧ (∀ t : Int, g 55 0 ≤ t → g1 59 t = g 59 t) ∧ g1 55 47 = ((wkP (fun s => g 79 (5 * s) = 0 ∧ g 79 (5 * s + 1) = (g 55 8 + 1) % 24) (g 55 33).toNat).length : Int) ∧ rwH (g1 86) (wkP (fun s => g 79 (5 * s) = 0 ∧ g 79 (5 * s + 1) = (g 55 8 + 1) % 24) (g 55 33).toNat)
def tkP (g : HP) : Prop := mHOK g ∧ (0 ≤ g 55 33 ∧ g 55 33 ≤ 8) ∧ (∀ t : Int, 0 ≤ t → t < 10 → 0 ≤ g 59 t ∧ g 59 t ≤ 1000000000) ∧ (0 ≤ g 55 8 ∧ g 55 8 ≤ 1000000000)
def S_X9_ticks (a : Int) (h : HP) (K : Int → HP → Prop) : Prop := (¬ (1 ≤ a ∧ a ≤ 100) → K (-1) h) ∧ ((1 ≤ a ∧ a ≤ 100) → ∃ J : Nat → HP → Prop, J 0 h ∧ (∀ (k : Nat) (g : HP), (k : Int) < a → J k g → tkP g ∧ ∀ g1 : HP, tkM g g1 → S_X9_fire 0 g1 (fun h2 => J (k + 1) h2)) ∧ ∀ g : HP, J a.toNat g → K (g 55 8) g)
set_option maxRecDepth 100000 in
set_option maxHeartbeats 4000000 in
theorem v_X9_ticks (w : WD) (a : Int) (h : HP) (K : Int → HP → Prop) 
    (I1 : Nat → Int → HP → Prop)
    (I2 : Nat → Nat → Int → Int → HP → Prop)
    (I3 : Nat → Nat → Int → Int → HP → Prop)
    (H : (((1 ≤ a ∧ a ≤ 100) → (∃ m : Nat, I1 m 0 h)) ∧ (¬ (1 ≤ a ∧ a ≤ 100) → K (-1) h)))
    (H1 : ∀ (n1 : Nat) (x2 : Int) (g1 : HP), I1 n1 x2 g1 → ((a ≤ x2 → K (g1 55 8) g1) ∧ (¬ a ≤ x2 → (∃ m : Nat, I2 n1 m x2 0 g1))))
    (H2 : ∀ (n1 : Nat) (n2 : Nat) (x2 : Int) (x3 : Int) (g2 : HP), I2 n1 n2 x2 x3 g2 → (((g2 55 0) ≤ x3 → ((iR ((g2 55 8) + 1)) ∧ (∃ m : Nat, I3 n1 m x2 0 (sth (sth g2 55 8 ((g2 55 8) + 1)) 55 47 0)))) ∧ (¬ (g2 55 0) ≤ x3 → ((0 ≤ x3 ∧ x3 < 10) ∧ ((0 ≤ x3 ∧ x3 < 10) ∧ ((0 ≤ x3 ∧ x3 < 10) ∧ ((iR ((g2 60 x3) * (g2 58 x3))) ∧ ((iR ((g2 59 x3) + ((g2 60 x3) * (g2 58 x3)))) ∧ ((0 ≤ x3 ∧ x3 < 10) ∧ ((iR (x3 + 1)) ∧ (∃ m : Nat, m < n2 ∧ I2 n1 m x2 (x3 + 1) (sth g2 59 x3 ((g2 59 x3) + ((g2 60 x3) * (g2 58 x3)))))))))))))))
    (H3 : ∀ (n1 : Nat) (n3 : Nat) (x2 : Int) (x3 : Int) (g3 : HP), I3 n1 n3 x2 x3 g3 → (((g3 55 33) ≤ x3 → (S_X9_fire 0 g3 (fun h21 => ((iR (x2 + 1)) ∧ (∃ m : Nat, m < n1 ∧ I1 m (x2 + 1) h21))))) ∧ (¬ (g3 55 33) ≤ x3 → ((iR (5 * x3)) ∧ ((0 ≤ (5 * x3) ∧ (5 * x3) < 40) ∧ ((((¬ (g3 79 (5 * x3)) = 0 → True) ∧ ((g3 79 (5 * x3)) = 0 → ((iR (5 * x3)) ∧ ((iR ((5 * x3) + 1)) ∧ ((0 ≤ ((5 * x3) + 1) ∧ ((5 * x3) + 1) < 40) ∧ ((0 ≤ (g3 55 8)) ∧ True))))))) ∧ (((((g3 79 (5 * x3)) = 0) ∧ ((g3 79 ((5 * x3) + 1)) = ((g3 55 8) % 24))) → ((0 ≤ (g3 55 47) ∧ (g3 55 47) < 400) ∧ ((iR ((g3 55 47) + 1)) ∧ ((iR (x3 + 1)) ∧ (∃ m : Nat, m < n3 ∧ I3 n1 m x2 (x3 + 1) (sth (sth g3 86 (g3 55 47) x3) 55 47 ((g3 55 47) + 1))))))) ∧ (¬ (((g3 79 (5 * x3)) = 0) ∧ ((g3 79 ((5 * x3) + 1)) = ((g3 55 8) % 24))) → ((iR (x3 + 1)) ∧ (∃ m : Nat, m < n3 ∧ I3 n1 m x2 (x3 + 1) g3)))))))))) :
    Ev w Y_X9_ticks 0 [some (vR 55), some (vI a), none, none] [] h (rI K) := by
  have L1 : ∀ (n1 : Nat) (x2 : Int) (g1 : HP), I1 n1 x2 g1 → Ev w Y_X9_ticks 16 [some (vR 55), some (vI a), some (vI x2), none] [] g1 (rI K) := by
    intro n1
    induction n1 using Nat.strongRecOn with
    | ind n1 ih1 =>
      have L3 : ∀ (n3 : Nat) (x2 : Int) (x3 : Int) (g3 : HP), I3 n1 n3 x2 x3 g3 → Ev w Y_X9_ticks 76 [some (vR 55), some (vI a), some (vI x2), some (vI x3)] [] g3 (rI K) := by
        intro n3
        induction n3 using Nat.strongRecOn with
        | ind n3 ih3 =>
          intro x2 x3 g3 H
          have H := H3 n1 n3 x2 x3 g3 H
          refine e_iload_n (pc := 76) dX9_ticks_76 rfl rfl ?_
          refine e_aload_n (pc := 77) dX9_ticks_77 rfl rfl ?_
          refine e_getI (q := 55) (ci := 9) (k := 33) (kz := 33) (C := RX9) (T := TX9) (N := 52) (x := (g3 55 33)) (pc := 78) dX9_ticks_78 rfl rfl rfl ev_in9 rfl ul_4_215 ⟨rfl, by decide⟩ rfl ?_
          refine e_icmp_ge (pc := 81) (tgt := 141) dX9_ticks_81 (by decide) (fun c3 => ?_) (fun c3 => ?_)
          · have H := H.1 c3
            refine e_aload_n (pc := 141) dX9_ticks_141 rfl rfl ?_
            refine e_iconst (pc := 142) dX9_ticks_142 ⟨by decide, by decide⟩ ?_
            refine e_invV (pc := 143) (Y' := Y_X9_fire) (as := [vI 0]) (st := []) (lv0 := [some (vR 55), some (vI 0), none, none, none, none, none, none]) (q := 55) (ci := 9) (T := TX9) (N := 52) dX9_ticks_143 m_X9_fire ul_6_34 ⟨ul_6_36, us_X9_fire⟩ ⟨rfl, rfl⟩ rfl rfl rfl rfl rfl rfl rfl (c_X9_fire w 0 g3 _ H) ?_
            rintro _ h21 ⟨rfl, H⟩
            show Ev w Y_X9_ticks 146 [some (vR 55), some (vI a), some (vI x2), some (vI x3)] [] h21 (rI K)
            refine e_iinc (lv' := [some (vR 55), some (vI a), some (vI (x2 + 1)), some (vI x3)]) (pc := 146) dX9_ticks_146 rfl H.1 rfl rfl ?_
            have H := H.2
            refine e_goto (pc := 149) (tgt := 16) dX9_ticks_149 (by decide) ?_
            refine e_mask [true, true, true, false] rfl ?_
            obtain ⟨m, hm, H⟩ := H
            exact ih1 m hm _ _ H
          · have H := H.2 c3
            refine e_aload_n (pc := 84) dX9_ticks_84 rfl rfl ?_
            refine e_getR (q := 55) (ci := 9) (k := 34) (y := 79) (C := RX9) (T := TX9) (N := 52) (pc := 85) dX9_ticks_85 rfl rfl ev_in9 rfl ul_4_216 ⟨rfl, rfl⟩ rfl ?_
            refine e_iconst (pc := 88) dX9_ticks_88 ⟨by decide, by decide⟩ ?_
            refine e_iload_n (pc := 89) dX9_ticks_89 rfl rfl ?_
            refine e_imul (pc := 90) dX9_ticks_90 H.1 ?_
            have H := H.2
            refine e_iald (q := 79) (x := (g3 79 (5 * x3))) (pc := 91) dX9_ticks_91 rfl H.1 rfl ?_
            have H := H.2
            have Ho := H.1
            have H := H.2
            have J1 : (((g3 79 (5 * x3)) = 0) ∧ ((g3 79 ((5 * x3) + 1)) = ((g3 55 8) % 24))) → Ev w Y_X9_ticks 115 [some (vR 55), some (vI a), some (vI x2), some (vI x3)] [] g3 (rI K) := by
              intro hp
              have H := H.1 hp
              refine e_aload_n (pc := 115) dX9_ticks_115 rfl rfl ?_
              refine e_getR (q := 55) (ci := 9) (k := 48) (y := 86) (C := RX9) (T := TX9) (N := 52) (pc := 116) dX9_ticks_116 rfl rfl ev_in9 rfl ul_4_230 ⟨rfl, rfl⟩ rfl ?_
              refine e_aload_n (pc := 119) dX9_ticks_119 rfl rfl ?_
              refine e_getI (q := 55) (ci := 9) (k := 47) (kz := 47) (C := RX9) (T := TX9) (N := 52) (x := (g3 55 47)) (pc := 120) dX9_ticks_120 rfl rfl rfl ev_in9 rfl ul_4_229 ⟨rfl, by decide⟩ rfl ?_
              refine e_iload_n (pc := 123) dX9_ticks_123 rfl rfl ?_
              refine e_iast (q := 86) (pc := 124) dX9_ticks_124 rfl H.1 ?_
              have H := H.2
              refine e_aload_n (pc := 125) dX9_ticks_125 rfl rfl ?_
              refine e_dup (pc := 126) dX9_ticks_126 rfl ?_
              refine e_getI (q := 55) (ci := 9) (k := 47) (kz := 47) (C := RX9) (T := TX9) (N := 52) (x := (g3 55 47)) (pc := 127) dX9_ticks_127 rfl rfl rfl ev_in9 rfl ul_4_229 ⟨rfl, by decide⟩ rfl ?_
              refine e_iconst (pc := 130) dX9_ticks_130 ⟨by decide, by decide⟩ ?_
              refine e_iadd (pc := 131) dX9_ticks_131 H.1 ?_
              have H := H.2
              refine e_put (q := 55) (ci := 9) (k := 47) (kz := 47) (C := RX9) (T := TX9) (N := 52) (ty := .int) (pc := 132) dX9_ticks_132 rfl rfl rfl ev_in9 tyX9 tyX9_ok nmX9 rfl ul_4_229 ⟨rfl, by decide⟩ rfl (tyX9_ok 47 (by decide)) (Or.inl rfl) ?_
              refine e_iinc (lv' := [some (vR 55), some (vI a), some (vI x2), some (vI (x3 + 1))]) (pc := 135) dX9_ticks_135 rfl H.1 rfl rfl ?_
              have H := H.2
              refine e_goto (pc := 138) (tgt := 76) dX9_ticks_138 (by decide) ?_
              obtain ⟨m, hm, H⟩ := H
              exact ih3 m hm _ _ _ H
            have J2 : ¬ (((g3 79 (5 * x3)) = 0) ∧ ((g3 79 ((5 * x3) + 1)) = ((g3 55 8) % 24))) → Ev w Y_X9_ticks 135 [some (vR 55), some (vI a), some (vI x2), some (vI x3)] [] g3 (rI K) := by
              intro hp
              have H := H.2 hp
              refine e_iinc (lv' := [some (vR 55), some (vI a), some (vI x2), some (vI (x3 + 1))]) (pc := 135) dX9_ticks_135 rfl H.1 rfl rfl ?_
              have H := H.2
              refine e_goto (pc := 138) (tgt := 76) dX9_ticks_138 (by decide) ?_
              obtain ⟨m, hm, H⟩ := H
              exact ih3 m hm _ _ _ H
            refine e_if_ne (pc := 92) (tgt := 135) dX9_ticks_92 (by decide) (fun c4 => ?_) (fun c4 => ?_)
            · have Ho := Ho.1 c4
              exact J2 (fun z => c4 z.1)
            · have Ho := Ho.2 c4
              refine e_aload_n (pc := 95) dX9_ticks_95 rfl rfl ?_
              refine e_getR (q := 55) (ci := 9) (k := 34) (y := 79) (C := RX9) (T := TX9) (N := 52) (pc := 96) dX9_ticks_96 rfl rfl ev_in9 rfl ul_4_216 ⟨rfl, rfl⟩ rfl ?_
              refine e_iconst (pc := 99) dX9_ticks_99 ⟨by decide, by decide⟩ ?_
              refine e_iload_n (pc := 100) dX9_ticks_100 rfl rfl ?_
              refine e_imul (pc := 101) dX9_ticks_101 Ho.1 ?_
              have Ho := Ho.2
              refine e_iconst (pc := 102) dX9_ticks_102 ⟨by decide, by decide⟩ ?_
              refine e_iadd (pc := 103) dX9_ticks_103 Ho.1 ?_
              have Ho := Ho.2
              refine e_iald (q := 79) (x := (g3 79 ((5 * x3) + 1))) (pc := 104) dX9_ticks_104 rfl Ho.1 rfl ?_
              have Ho := Ho.2
              refine e_aload_n (pc := 105) dX9_ticks_105 rfl rfl ?_
              refine e_getI (q := 55) (ci := 9) (k := 8) (kz := 8) (C := RX9) (T := TX9) (N := 52) (x := (g3 55 8)) (pc := 106) dX9_ticks_106 rfl rfl rfl ev_in9 rfl ul_4_190 ⟨rfl, by decide⟩ rfl ?_
              refine e_bipush (pc := 109) dX9_ticks_109 ⟨by decide, by decide⟩ (by decide) ?_
              refine e_irem (pc := 111) dX9_ticks_111 ⟨Ho.1, by decide⟩ ?_
              have Ho := Ho.2
              refine e_icmp_ne (pc := 112) (tgt := 135) dX9_ticks_112 (by decide) (fun c5 => ?_) (fun c5 => ?_)
              · exact J2 (fun z => c5 z.2)
              · exact J1 ⟨c4, c5⟩
      have L2 : ∀ (n2 : Nat) (x2 : Int) (x3 : Int) (g2 : HP), I2 n1 n2 x2 x3 g2 → Ev w Y_X9_ticks 23 [some (vR 55), some (vI a), some (vI x2), some (vI x3)] [] g2 (rI K) := by
        intro n2
        induction n2 using Nat.strongRecOn with
        | ind n2 ih2 =>
          intro x2 x3 g2 H
          have H := H2 n1 n2 x2 x3 g2 H
          refine e_iload_n (pc := 23) dX9_ticks_23 rfl rfl ?_
          refine e_aload_n (pc := 24) dX9_ticks_24 rfl rfl ?_
          refine e_getI (q := 55) (ci := 9) (k := 0) (kz := 0) (C := RX9) (T := TX9) (N := 52) (x := (g2 55 0)) (pc := 25) dX9_ticks_25 rfl rfl rfl ev_in9 rfl ul_4_182 ⟨rfl, by decide⟩ rfl ?_
          refine e_icmp_ge (pc := 28) (tgt := 59) dX9_ticks_28 (by decide) (fun c6 => ?_) (fun c6 => ?_)
          · have H := H.1 c6
            refine e_aload_n (pc := 59) dX9_ticks_59 rfl rfl ?_
            refine e_dup (pc := 60) dX9_ticks_60 rfl ?_
            refine e_getI (q := 55) (ci := 9) (k := 8) (kz := 8) (C := RX9) (T := TX9) (N := 52) (x := (g2 55 8)) (pc := 61) dX9_ticks_61 rfl rfl rfl ev_in9 rfl ul_4_190 ⟨rfl, by decide⟩ rfl ?_
            refine e_iconst (pc := 64) dX9_ticks_64 ⟨by decide, by decide⟩ ?_
            refine e_iadd (pc := 65) dX9_ticks_65 H.1 ?_
            have H := H.2
            refine e_put (q := 55) (ci := 9) (k := 8) (kz := 8) (C := RX9) (T := TX9) (N := 52) (ty := .int) (pc := 66) dX9_ticks_66 rfl rfl rfl ev_in9 tyX9 tyX9_ok nmX9 rfl ul_4_190 ⟨rfl, by decide⟩ rfl (tyX9_ok 8 (by decide)) (Or.inl rfl) ?_
            refine e_aload_n (pc := 69) dX9_ticks_69 rfl rfl ?_
            refine e_iconst (pc := 70) dX9_ticks_70 ⟨by decide, by decide⟩ ?_
            refine e_put (q := 55) (ci := 9) (k := 47) (kz := 47) (C := RX9) (T := TX9) (N := 52) (ty := .int) (pc := 71) dX9_ticks_71 rfl rfl rfl ev_in9 tyX9 tyX9_ok nmX9 rfl ul_4_229 ⟨rfl, by decide⟩ rfl (tyX9_ok 47 (by decide)) (Or.inl rfl) ?_
            refine e_iconst (pc := 74) dX9_ticks_74 ⟨by decide, by decide⟩ ?_
            refine e_istore_n (lv' := [some (vR 55), some (vI a), some (vI x2), some (vI 0)]) (pc := 75) dX9_ticks_75 rfl rfl rfl ?_
            obtain ⟨m, H⟩ := H
            exact L3 m _ _ _ H
          · have H := H.2 c6
            refine e_aload_n (pc := 31) dX9_ticks_31 rfl rfl ?_
            refine e_getR (q := 55) (ci := 9) (k := 4) (y := 59) (C := RX9) (T := TX9) (N := 52) (pc := 32) dX9_ticks_32 rfl rfl ev_in9 rfl ul_4_186 ⟨rfl, rfl⟩ rfl ?_
            refine e_iload_n (pc := 35) dX9_ticks_35 rfl rfl ?_
            refine e_dup2 (pc := 36) dX9_ticks_36 rfl rfl ?_
            refine e_iald (q := 59) (x := (g2 59 x3)) (pc := 37) dX9_ticks_37 rfl H.1 rfl ?_
            have H := H.2
            refine e_aload_n (pc := 38) dX9_ticks_38 rfl rfl ?_
            refine e_getR (q := 55) (ci := 9) (k := 5) (y := 60) (C := RX9) (T := TX9) (N := 52) (pc := 39) dX9_ticks_39 rfl rfl ev_in9 rfl ul_4_187 ⟨rfl, rfl⟩ rfl ?_
            refine e_iload_n (pc := 42) dX9_ticks_42 rfl rfl ?_
            refine e_iald (q := 60) (x := (g2 60 x3)) (pc := 43) dX9_ticks_43 rfl H.1 rfl ?_
            have H := H.2
            refine e_aload_n (pc := 44) dX9_ticks_44 rfl rfl ?_
            refine e_getR (q := 55) (ci := 9) (k := 3) (y := 58) (C := RX9) (T := TX9) (N := 52) (pc := 45) dX9_ticks_45 rfl rfl ev_in9 rfl ul_4_185 ⟨rfl, rfl⟩ rfl ?_
            refine e_iload_n (pc := 48) dX9_ticks_48 rfl rfl ?_
            refine e_iald (q := 58) (x := (g2 58 x3)) (pc := 49) dX9_ticks_49 rfl H.1 rfl ?_
            have H := H.2
            refine e_imul (pc := 50) dX9_ticks_50 H.1 ?_
            have H := H.2
            refine e_iadd (pc := 51) dX9_ticks_51 H.1 ?_
            have H := H.2
            refine e_iast (q := 59) (pc := 52) dX9_ticks_52 rfl H.1 ?_
            have H := H.2
            refine e_iinc (lv' := [some (vR 55), some (vI a), some (vI x2), some (vI (x3 + 1))]) (pc := 53) dX9_ticks_53 rfl H.1 rfl rfl ?_
            have H := H.2
            refine e_goto (pc := 56) (tgt := 23) dX9_ticks_56 (by decide) ?_
            obtain ⟨m, hm, H⟩ := H
            exact ih2 m hm _ _ _ H
      intro x2 g1 H
      have H := H1 n1 x2 g1 H
      refine e_iload_n (pc := 16) dX9_ticks_16 rfl rfl ?_
      refine e_iload_n (pc := 17) dX9_ticks_17 rfl rfl ?_
      refine e_icmp_ge (pc := 18) (tgt := 152) dX9_ticks_18 (by decide) (fun c2 => ?_) (fun c2 => ?_)
      · have H := H.1 c2
        refine e_aload_n (pc := 152) dX9_ticks_152 rfl rfl ?_
        refine e_getI (q := 55) (ci := 9) (k := 8) (kz := 8) (C := RX9) (T := TX9) (N := 52) (x := (g1 55 8)) (pc := 153) dX9_ticks_153 rfl rfl rfl ev_in9 rfl ul_4_190 ⟨rfl, by decide⟩ rfl ?_
        exact e_ret (pc := 156) (v := some (vI (g1 55 8))) dX9_ticks_156 rfl trivial ⟨_, rfl, H⟩
      · have H := H.2 c2
        refine e_iconst (pc := 21) dX9_ticks_21 ⟨by decide, by decide⟩ ?_
        refine e_istore_n (lv' := [some (vR 55), some (vI a), some (vI x2), some (vI 0)]) (pc := 22) dX9_ticks_22 rfl rfl rfl ?_
        obtain ⟨m, H⟩ := H
        exact L2 m _ _ _ H
  refine e_iload_n (pc := 0) dX9_ticks_0 rfl rfl ?_
  refine e_i2l (pc := 1) dX9_ticks_1 ?_
  refine e_lconst (x := 1) (pc := 2) dX9_ticks_2 ⟨by decide, by decide⟩ (by decide) ?_
  refine e_ldc2 (x := 100) (pc := 3) dX9_ticks_3 ul_5_108 ⟨by decide, by decide⟩ ?_
  refine e_invS (pc := 6) (Y' := Y_X9_in) (as := [vL a, vL 1, vL 100]) (st := []) (lv0 := [some (vL a), none, some (vL 1), none, some (vL 100), none]) dX9_ticks_6 m_X9_in ul_5_104 ul_5_105 ⟨rfl, rfl⟩ rfl rfl rfl rfl rfl (c_X9_in w a 1 100 h) ?_
  rintro _ hz ⟨_, rfl, rfl, hh⟩
  rw [hh]
  show Ev w Y_X9_ticks 9 [some (vR 55), some (vI a), none, none] [vI (b2i (1 ≤ a ∧ a ≤ 100))] h (rI K)
  refine e_ifb_ne (pc := 9) (tgt := 14) dX9_ticks_9 (by decide) (fun c1 => ?_) (fun c1 => ?_)
  · have H := H.1 c1
    refine e_iconst (pc := 14) dX9_ticks_14 ⟨by decide, by decide⟩ ?_
    refine e_istore_n (lv' := [some (vR 55), some (vI a), some (vI 0), none]) (pc := 15) dX9_ticks_15 rfl rfl rfl ?_
    obtain ⟨m, H⟩ := H
    exact L1 m _ _ H
  · have H := H.2 c1
    refine e_iconst (pc := 12) dX9_ticks_12 ⟨by decide, by decide⟩ ?_
    exact e_ret (pc := 13) (v := some (vI (-1))) dX9_ticks_13 rfl trivial ⟨_, rfl, H⟩
set_option maxRecDepth 100000 in
set_option maxHeartbeats 4000000 in
theorem c_X9_ticks (w : WD) (a : Int) (h : HP) (K : Int → HP → Prop)  (H : S_X9_ticks a h K) : Ev w Y_X9_ticks 0 [some (vR 55), some (vI a), none, none] [] h (rI K) := by
  obtain ⟨HN, HK⟩ := H
  by_cases ha : 1 ≤ a ∧ a ≤ 100
  case neg => exact v_X9_ticks w a h K (fun _ _ _ => False) (fun _ _ _ _ _ => False) (fun _ _ _ _ _ => False) ⟨fun c => absurd c ha, HN⟩ (fun _ _ _ f => f.elim) (fun _ _ _ _ _ f => f.elim) (fun _ _ _ _ _ f => f.elim)
  obtain ⟨J, h0, hs, he⟩ := HK ha
  refine v_X9_ticks w a h K (fun n x2 g => ∃ k : Nat, x2 = (k : Int) ∧ (k : Int) ≤ a ∧ n = (a - (k : Int)).toNat ∧ J k g)
    (fun n1 n2 x2 x3 g => ∃ (k : Nat) (g0 : HP), x2 = (k : Int) ∧ (k : Int) < a ∧ n1 = (a - (k : Int)).toNat ∧ J k g0 ∧ (0 ≤ x3 ∧ x3 ≤ g0 55 0) ∧ n2 = (10 - x3).toNat ∧ (∀ q, q ≠ 59 → g q = g0 q) ∧ (∀ t : Int, 0 ≤ t → t < x3 → g 59 t = g0 59 t + g0 60 t * g0 58 t) ∧ ∀ t : Int, x3 ≤ t → g 59 t = g0 59 t)
    (fun n1 n2 x2 x3 g => ∃ (k : Nat) (g0 : HP), x2 = (k : Int) ∧ (k : Int) < a ∧ n1 = (a - (k : Int)).toNat ∧ J k g0 ∧ ∃ j : Nat, x3 = (j : Int) ∧ (j : Int) ≤ g0 55 33 ∧ n2 = 8 - j ∧ (∀ q, q ≠ 59 → q ≠ 55 → q ≠ 86 → g q = g0 q) ∧ (∀ i : Int, i ≠ 8 → i ≠ 47 → g 55 i = g0 55 i) ∧ g 55 8 = g0 55 8 + 1 ∧ (∀ t : Int, 0 ≤ t → t < g0 55 0 → g 59 t = g0 59 t + g0 60 t * g0 58 t) ∧ (∀ t : Int, g0 55 0 ≤ t → g 59 t = g0 59 t) ∧ g 55 47 = ((wkP (fun s => g0 79 (5 * s) = 0 ∧ g0 79 (5 * s + 1) = (g0 55 8 + 1) % 24) j).length : Int) ∧ rwH (g 86) (wkP (fun s => g0 79 (5 * s) = 0 ∧ g0 79 (5 * s + 1) = (g0 55 8 + 1) % 24) j))
    ⟨fun _ => ⟨a.toNat, 0, rfl, by omega, by omega, h0⟩, fun c => absurd ha c⟩ ?_ ?_ ?_
  · rintro n x2 g ⟨k, rfl, hk, rfl, hj⟩
    exact ⟨fun c => he g (by rw [show a.toNat = k by omega]; exact hj), fun c => ⟨10, k, g, rfl, by omega, rfl, hj, by have := (hs k g (by omega) hj).1.1.1; omega, rfl, fun _ _ => rfl, fun t a0 a1 => by omega, fun _ _ => rfl⟩⟩
  · rintro n1 n2 x2 x3 g ⟨k, g0, rfl, hk, rfl, hj, h3, rfl, hg, hl, hr⟩
    obtain ⟨⟨hH, h33, h59, h8⟩, _⟩ := hs k g0 (by omega) hj
    have h10 := hH.1
    have g55 : g 55 = g0 55 := hg _ (by decide)
    have g60 : g 60 = g0 60 := hg _ (by decide)
    have g58 : g 58 = g0 58 := hg _ (by decide)
    rw [g55, g60, g58]
    refine ⟨fun c => ⟨⟨by omega, by omega⟩, 8, k, g0, rfl, hk, rfl, hj, 0, rfl, by omega, rfl, fun q a1 a2 a3 => by rw [sth_ne a2, sth_ne a2]; exact hg q a1, fun i a1 a2 => by rw [sth_eq, us_n a2, sth_eq, us_n a1, g55], by rw [sth_eq, us_n (by decide), sth_eq, us_s], fun t t0 t1 => by rw [sth_ne (by decide), sth_ne (by decide)]; exact hl t t0 (by omega), fun t t0 => by rw [sth_ne (by decide), sth_ne (by decide)]; exact hr t (by omega), by rw [sth_eq, us_s]; rfl, fun i hi => absurd hi (by simp [wkP])⟩, fun c => ?_⟩
    have hst := hH.2.1 x3 h3.1 (by omega)
    have hb := mul_b hst.2.2.2 hst.2.2.1
    have h59x := h59 x3 h3.1 (by omega)
    rw [hr x3 (Int.le_refl _)]
    refine ⟨by omega, by omega, by omega, ⟨by omega, by omega⟩, ⟨by omega, by omega⟩, by omega, ⟨by omega, by omega⟩, (10 - (x3 + 1)).toNat, by omega, k, g0, rfl, hk, rfl, hj, by omega, rfl, fun q a => by rw [sth_ne a]; exact hg q a, fun t a b => ?_, fun t a => by rw [sth_eq, us_n (by omega)]; exact hr t (by omega)⟩
    rw [sth_eq]
    by_cases e : t = x3
    · rw [e, us_s]
    · rw [us_n e]; exact hl t a (by omega)
  · rintro n1 n2 x2 x3 g ⟨k, g0, rfl, hk, rfl, hj, j, rfl, hjn, rfl, p1, p2, p3, p4, p5, p6, p7⟩
    obtain ⟨⟨hH, h33, h59, h8⟩, hfire⟩ := hs k g0 (by omega) hj
    have hwl := wkP_l (fun s => g0 79 (5 * s) = 0 ∧ g0 79 (5 * s + 1) = (g0 55 8 + 1) % 24) j
    have g79 : g 79 = g0 79 := p1 _ (by decide) (by decide) (by decide)
    rw [p2 33 (by decide) (by decide), g79, p3]
    refine ⟨fun c => mfire_mono (hfire g ?_) (fun h2 u => ⟨⟨by omega, by omega⟩, (a - ((k + 1 : Nat) : Int)).toNat, by omega, k + 1, by omega, by omega, rfl, u⟩), fun c => ⟨⟨by omega, by omega⟩, by omega, ⟨fun _ => trivial, fun _ => ⟨⟨by omega, by omega⟩, ⟨by omega, by omega⟩, by omega, by omega, trivial⟩⟩, fun z => ⟨by omega, ⟨by omega, by omega⟩, ⟨by omega, by omega⟩, 8 - (j + 1), by omega, k, g0, rfl, hk, rfl, hj, j + 1, by omega, by omega, rfl, fun q a1 a2 a3 => by rw [sth_ne a2, sth_ne a3]; exact p1 q a1 a2 a3, fun i a1 a2 => by rw [sth_eq, us_n a2, sth_ne (by decide)]; exact p2 i a1 a2, by rw [sth_eq, us_n (by decide), sth_ne (by decide)]; exact p3, fun t t0 t1 => by rw [sth_ne (by decide), sth_ne (by decide)]; exact p4 t t0 t1, fun t t0 => by rw [sth_ne (by decide), sth_ne (by decide)]; exact p5 t t0, ?_, ?_⟩, fun z => ⟨⟨by omega, by omega⟩, 8 - (j + 1), by omega, k, g0, rfl, hk, rfl, hj, j + 1, by omega, by omega, rfl, p1, p2, rfl, p4, p5, by rw [wkP_f z]; exact p6, by rw [wkP_f z]; exact p7⟩⟩⟩
    · rw [show j = (g0 55 33).toNat by omega] at p6 p7
      exact ⟨p1, p2, p3, p4, p5, p6, p7⟩
    · rw [sth_eq, us_s, wkP_t z, List.length_append, List.length_singleton]; omega
    · rw [sth_ne (by decide), sth_eq, wkP_t z, p6]
      exact rwH_a p7
