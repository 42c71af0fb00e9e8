/-! costs; what is taken back -/
theorem mul_b {a b : Int} (ha : 0 ≤ a ∧ a ≤ 3) (hb : 0 ≤ b ∧ b ≤ 100) : 0 ≤ a * b ∧ a * b ≤ 300 := by
  rcases (show a = 0 ∨ a = 1 ∨ a = 2 ∨ a = 3 by omega) with rfl | rfl | rfl | rfl <;> omega
def S_X4_passHour (h : HP) (K : HP → Prop) : Prop := (HOK h ∧ (∀ t : Int, 0 ≤ t → t < 10 → 0 ≤ h 12 t ∧ h 12 t ≤ 1000000000) ∧ (0 ≤ h 1 9 ∧ h 1 9 ≤ 1000000000)) ∧ ∀ h' : HP, (∀ q, q ≠ 12 → q ≠ 1 → h' q = h q) → (∀ i : Int, i ≠ 9 → h' 1 i = h 1 i) → h' 1 9 = h 1 9 + 1 → (∀ t : Int, 0 ≤ t → t < h 1 7 → h' 12 t = h 12 t + dgt (h 1 8) t * h 11 t) → (∀ t : Int, h 1 7 ≤ t → h' 12 t = h 12 t) → K h'
set_option maxRecDepth 100000 in
set_option maxHeartbeats 4000000 in
theorem v_X4_passHour (w : WD)  (h : HP) (K : HP → Prop) 
    (I1 : Nat → Int → HP → Prop)
    (H : (∃ m : Nat, I1 m 0 h))
    (H1 : ∀ (n1 : Nat) (x1 : Int) (g1 : HP), I1 n1 x1 g1 → (((g1 1 7) ≤ x1 → ((iR ((g1 1 9) + 1)) ∧ K (sth g1 1 9 ((g1 1 9) + 1)))) ∧ (¬ (g1 1 7) ≤ x1 → ((0 ≤ x1 ∧ x1 < 10) ∧ ((inS (g1 1 8) ∧ 0 ≤ x1 ∧ x1 < 10) ∧ ((0 ≤ x1 ∧ x1 < 10) ∧ ((iR ((dgt (g1 1 8) x1) * (g1 11 x1))) ∧ ((iR ((g1 12 x1) + ((dgt (g1 1 8) x1) * (g1 11 x1)))) ∧ ((0 ≤ x1 ∧ x1 < 10) ∧ ((iR (x1 + 1)) ∧ (∃ m : Nat, m < n1 ∧ I1 m (x1 + 1) (sth g1 12 x1 ((g1 12 x1) + ((dgt (g1 1 8) x1) * (g1 11 x1))))))))))))))) :
    Ev w Y_X4_passHour 0 [some (vR 1), none] [] h (rV K) := by
  have L1 : ∀ (n1 : Nat) (x1 : Int) (g1 : HP), I1 n1 x1 g1 → Ev w Y_X4_passHour 2 [some (vR 1), some (vI x1)] [] g1 (rV K) := by
    intro n1
    induction n1 using Nat.strongRecOn with
    | ind n1 ih1 =>
      intro x1 g1 H
      have H := H1 n1 x1 g1 H
      refine e_iload_n (pc := 2) dX4_passHour_2 rfl rfl ?_
      refine e_aload_n (pc := 3) dX4_passHour_3 rfl rfl ?_
      refine e_getI (q := 1) (ci := 4) (k := 7) (kz := 7) (C := RX4) (T := TX4) (N := 10) (x := (g1 1 7)) (pc := 4) dX4_passHour_4 rfl rfl rfl ev_in4 rfl ul_1_47 ⟨rfl, by decide⟩ rfl ?_
      refine e_icmp_ge (pc := 7) (tgt := 40) dX4_passHour_7 (by decide) (fun c1 => ?_) (fun c1 => ?_)
      · have H := H.1 c1
        refine e_aload_n (pc := 40) dX4_passHour_40 rfl rfl ?_
        refine e_dup (pc := 41) dX4_passHour_41 rfl ?_
        refine e_getI (q := 1) (ci := 4) (k := 9) (kz := 9) (C := RX4) (T := TX4) (N := 10) (x := (g1 1 9)) (pc := 42) dX4_passHour_42 rfl rfl rfl ev_in4 rfl ul_1_54 ⟨rfl, by decide⟩ rfl ?_
        refine e_iconst (pc := 45) dX4_passHour_45 ⟨by decide, by decide⟩ ?_
        refine e_iadd (pc := 46) dX4_passHour_46 H.1 ?_
        have H := H.2
        refine e_put (q := 1) (ci := 4) (k := 9) (kz := 9) (C := RX4) (T := TX4) (N := 10) (ty := .int) (pc := 47) dX4_passHour_47 rfl rfl rfl ev_in4 tyX4 tyX4_ok nmX4 rfl ul_1_54 ⟨rfl, by decide⟩ rfl (tyX4_ok 9 (by decide)) (Or.inl rfl) ?_
        exact e_ret (pc := 50) (v := none) dX4_passHour_50 rfl trivial ⟨rfl, H⟩
      · have H := H.2 c1
        refine e_aload_n (pc := 10) dX4_passHour_10 rfl rfl ?_
        refine e_getR (q := 1) (ci := 4) (k := 3) (y := 12) (C := RX4) (T := TX4) (N := 10) (pc := 11) dX4_passHour_11 rfl rfl ev_in4 rfl ul_1_38 ⟨rfl, rfl⟩ rfl ?_
        refine e_iload_n (pc := 14) dX4_passHour_14 rfl rfl ?_
        refine e_dup2 (pc := 15) dX4_passHour_15 rfl rfl ?_
        refine e_iald (q := 12) (x := (g1 12 x1)) (pc := 16) dX4_passHour_16 rfl H.1 rfl ?_
        have H := H.2
        refine e_aload_n (pc := 17) dX4_passHour_17 rfl rfl ?_
        refine e_getI (q := 1) (ci := 4) (k := 8) (kz := 8) (C := RX4) (T := TX4) (N := 10) (x := (g1 1 8)) (pc := 18) dX4_passHour_18 rfl rfl rfl ev_in4 rfl ul_1_51 ⟨rfl, by decide⟩ rfl ?_
        refine e_iload_n (pc := 21) dX4_passHour_21 rfl rfl ?_
        refine e_invSN (pc := 22) (Y' := Y_X8_stateIn) (as := [vI (g1 1 8), vI x1]) (st := [vI (g1 12 x1), vI x1, vR 12]) (lv0 := [some (vI (g1 1 8)), some (vI x1)]) dX4_passHour_22 m_X8_stateIn nl_7 ul_2_154 ⟨rfl, rfl⟩ rfl rfl rfl rfl rfl (c_X8_stateIn w (g1 1 8) x1 g1 H.1) ?_
        rintro _ hz ⟨_, rfl, rfl, hh⟩
        rw [hh]
        show Ev w Y_X4_passHour 25 [some (vR 1), some (vI x1)] [vI (dgt (g1 1 8) x1), vI (g1 12 x1), vI x1, vR 12] g1 (rV K)
        have H := H.2
        refine e_aload_n (pc := 25) dX4_passHour_25 rfl rfl ?_
        refine e_getR (q := 1) (ci := 4) (k := 2) (y := 11) (C := RX4) (T := TX4) (N := 10) (pc := 26) dX4_passHour_26 rfl rfl ev_in4 rfl ul_1_37 ⟨rfl, rfl⟩ rfl ?_
        refine e_iload_n (pc := 29) dX4_passHour_29 rfl rfl ?_
        refine e_iald (q := 11) (x := (g1 11 x1)) (pc := 30) dX4_passHour_30 rfl H.1 rfl ?_
        have H := H.2
        refine e_imul (pc := 31) dX4_passHour_31 H.1 ?_
        have H := H.2
        refine e_iadd (pc := 32) dX4_passHour_32 H.1 ?_
        have H := H.2
        refine e_iast (q := 12) (pc := 33) dX4_passHour_33 rfl H.1 ?_
        have H := H.2
        refine e_iinc (lv' := [some (vR 1), some (vI (x1 + 1))]) (pc := 34) dX4_passHour_34 rfl H.1 rfl rfl ?_
        have H := H.2
        refine e_goto (pc := 37) (tgt := 2) dX4_passHour_37 (by decide) ?_
        obtain ⟨m, hm, H⟩ := H
        exact ih1 m hm _ _ H
  refine e_iconst (pc := 0) dX4_passHour_0 ⟨by decide, by decide⟩ ?_
  refine e_istore_n (lv' := [some (vR 1), some (vI 0)]) (pc := 1) dX4_passHour_1 rfl rfl rfl ?_
  obtain ⟨m, H⟩ := H
  exact L1 m _ _ H
set_option maxRecDepth 100000 in
set_option maxHeartbeats 4000000 in
theorem c_X4_passHour (w : WD)  (h : HP) (K : HP → Prop)  (H : S_X4_passHour  h K) : Ev w Y_X4_passHour 0 [some (vR 1), none] [] h (rV K) := by
  obtain ⟨⟨hH, h12, h9⟩, HK⟩ := H
  have h10 := hH.1
  refine v_X4_passHour w h K (fun n x1 g => (0 ≤ x1 ∧ x1 ≤ h 1 7) ∧ n = (10 - x1).toNat ∧ (∀ q, q ≠ 12 → g q = h q) ∧ (∀ t : Int, 0 ≤ t → t < x1 → g 12 t = h 12 t + dgt (h 1 8) t * h 11 t) ∧ ∀ t : Int, x1 ≤ t → g 12 t = h 12 t) ⟨10, by omega, rfl, fun _ _ => rfl, fun t a b => by omega, fun _ _ => rfl⟩ ?_
  rintro n x1 g ⟨h0, rfl, hg, hl, hr⟩
  have g1 : g 1 = h 1 := hg 1 (by decide)
  have g11 : g 11 = h 11 := hg 11 (by decide)
  rw [g1, g11]
  refine ⟨fun c => ⟨⟨by omega, by omega⟩, HK _ (fun q a b => by rw [sth_ne b]; exact hg q a) (fun i a => by rw [sth_eq, us_n a, g1]) (by rw [sth_eq, us_s]) (fun t a b => by rw [sth_ne (by decide)]; exact hl t a (by omega)) (fun t a => by rw [sth_ne (by decide)]; exact hr t (by omega))⟩, fun c => ?_⟩
  have hb := mul_b (dgt_3 (h 1 8) x1) (hH.2.1 x1 h0.1 (by omega)).2.2
  have h12x := h12 x1 h0.1 (by omega)
  have e := hr x1 (Int.le_refl _)
  rw [e]
  refine ⟨by omega, ⟨hH.2.2.1, by omega⟩, by omega, ⟨by omega, by omega⟩, ⟨by omega, by omega⟩, by omega, ⟨by omega, by omega⟩, (10 - (x1 + 1)).toNat, by omega, by omega, rfl, fun q a => by rw [sth_ne a]; exact hg q a, fun t a b => ?_, fun t a => by rw [sth_eq, us_n (by omega)]; exact hr t (by omega)⟩
  rw [sth_eq]
  by_cases e : t = x1
  · rw [e, us_s]
  · rw [us_n e]; exact hl t a (by omega)
def smN (f : Int → Int) : Nat → Int
  | 0 => 0
  | k + 1 => smN f k + f (k : Int)
theorem smN_b {f : Int → Int} {c : Int} (hc : 0 ≤ c) : ∀ {n : Nat}, (∀ i : Int, 0 ≤ i → i < (n : Int) → 0 ≤ f i ∧ f i ≤ c) → 0 ≤ smN f n ∧ smN f n ≤ c * (n : Int)
  | 0, _ => ⟨Int.le_refl _, by show (0 : Int) ≤ c * 0; omega⟩
  | n + 1, h => by
    have ih := smN_b hc (n := n) (fun i a b => h i a (by omega))
    have hn := h (n : Int) (by omega) (by omega)
    simp only [smN]
    rw [show ((n + 1 : Nat) : Int) = (n : Int) + 1 by omega, Int.mul_add, Int.mul_one]
    omega
theorem smN_c {f g : Int → Int} : ∀ {n : Nat}, (∀ i : Int, 0 ≤ i → i < (n : Int) → f i = g i) → smN f n = smN g n
  | 0, _ => rfl
  | n + 1, h => by simp only [smN]; rw [smN_c (n := n) (fun i a b => h i a (by omega)), h _ (by omega) (by omega)]
theorem smN_at {f : Int → Int} {t : Int} (ht : 0 ≤ t) : ∀ {n : Nat}, smN (fun i => cif (i = t) (f i) 0) n = cif (t < (n : Int)) (f t) 0
  | 0 => by rw [cif_f (by omega)]; rfl
  | n + 1 => by
    simp only [smN]
    rw [smN_at ht (n := n)]
    by_cases e : (n : Int) = t
    · rw [cif_t e, cif_f (by omega), cif_t (by omega), e]; omega
    · rw [cif_f e]
      by_cases c : t < (n : Int)
      · rw [cif_t c, cif_t (by omega)]; omega
      · rw [cif_f c, cif_f (by omega)]; omega
set_option maxRecDepth 100000 in
set_option maxHeartbeats 4000000 in
theorem v_X4_spentInAll (w : WD)  (h : HP) (K : Int → HP → Prop) 
    (I1 : Nat → Int → Int → HP → Prop)
    (H : (∃ m : Nat, I1 m 0 0 h))
    (H1 : ∀ (n1 : Nat) (x1 : Int) (x2 : Int) (g1 : HP), I1 n1 x1 x2 g1 → (((g1 1 7) ≤ x2 → K x1 g1) ∧ (¬ (g1 1 7) ≤ x2 → ((0 ≤ x2 ∧ x2 < 10) ∧ ((iR (x1 + (g1 12 x2))) ∧ ((iR (x2 + 1)) ∧ (∃ m : Nat, m < n1 ∧ I1 m (x1 + (g1 12 x2)) (x2 + 1) g1))))))) :
    Ev w Y_X4_spentInAll 0 [some (vR 1), none, none] [] h (rI K) := by
  have L1 : ∀ (n1 : Nat) (x1 : Int) (x2 : Int) (g1 : HP), I1 n1 x1 x2 g1 → Ev w Y_X4_spentInAll 4 [some (vR 1), some (vI x1), some (vI x2)] [] g1 (rI K) := by
    intro n1
    induction n1 using Nat.strongRecOn with
    | ind n1 ih1 =>
      intro x1 x2 g1 H
      have H := H1 n1 x1 x2 g1 H
      refine e_iload_n (pc := 4) dX4_spentInAll_4 rfl rfl ?_
      refine e_aload_n (pc := 5) dX4_spentInAll_5 rfl rfl ?_
      refine e_getI (q := 1) (ci := 4) (k := 7) (kz := 7) (C := RX4) (T := TX4) (N := 10) (x := (g1 1 7)) (pc := 6) dX4_spentInAll_6 rfl rfl rfl ev_in4 rfl ul_1_47 ⟨rfl, by decide⟩ rfl ?_
      refine e_icmp_ge (pc := 9) (tgt := 27) dX4_spentInAll_9 (by decide) (fun c1 => ?_) (fun c1 => ?_)
      · have H := H.1 c1
        refine e_iload_n (pc := 27) dX4_spentInAll_27 rfl rfl ?_
        exact e_ret (pc := 28) (v := some (vI x1)) dX4_spentInAll_28 rfl trivial ⟨_, rfl, H⟩
      · have H := H.2 c1
        refine e_iload_n (pc := 12) dX4_spentInAll_12 rfl rfl ?_
        refine e_aload_n (pc := 13) dX4_spentInAll_13 rfl rfl ?_
        refine e_getR (q := 1) (ci := 4) (k := 3) (y := 12) (C := RX4) (T := TX4) (N := 10) (pc := 14) dX4_spentInAll_14 rfl rfl ev_in4 rfl ul_1_38 ⟨rfl, rfl⟩ rfl ?_
        refine e_iload_n (pc := 17) dX4_spentInAll_17 rfl rfl ?_
        refine e_iald (q := 12) (x := (g1 12 x2)) (pc := 18) dX4_spentInAll_18 rfl H.1 rfl ?_
        have H := H.2
        refine e_iadd (pc := 19) dX4_spentInAll_19 H.1 ?_
        have H := H.2
        refine e_istore_n (lv' := [some (vR 1), some (vI (x1 + (g1 12 x2))), some (vI x2)]) (pc := 20) dX4_spentInAll_20 rfl rfl rfl ?_
        refine e_iinc (lv' := [some (vR 1), some (vI (x1 + (g1 12 x2))), some (vI (x2 + 1))]) (pc := 21) dX4_spentInAll_21 rfl H.1 rfl rfl ?_
        have H := H.2
        refine e_goto (pc := 24) (tgt := 4) dX4_spentInAll_24 (by decide) ?_
        obtain ⟨m, hm, H⟩ := H
        exact ih1 m hm _ _ _ H
  refine e_iconst (pc := 0) dX4_spentInAll_0 ⟨by decide, by decide⟩ ?_
  refine e_istore_n (lv' := [some (vR 1), some (vI 0), none]) (pc := 1) dX4_spentInAll_1 rfl rfl rfl ?_
  refine e_iconst (pc := 2) dX4_spentInAll_2 ⟨by decide, by decide⟩ ?_
  refine e_istore_n (lv' := [some (vR 1), some (vI 0), some (vI 0)]) (pc := 3) dX4_spentInAll_3 rfl rfl rfl ?_
  obtain ⟨m, H⟩ := H
  exact L1 m _ _ _ H
set_option maxRecDepth 100000 in
set_option maxHeartbeats 4000000 in
theorem c_X4_spentInAll (w : WD)  (h : HP) (H : (0 ≤ h 1 7 ∧ h 1 7 ≤ 10) ∧ ∀ i : Int, 0 ≤ i → i < 10 → 0 ≤ h 12 i ∧ h 12 i ≤ 100000000) : Ev w Y_X4_spentInAll 0 [some (vR 1), none, none] [] h (rI (fun r h' => r = (smN (h 12) (h 1 7).toNat) ∧ h' = h)) := by
  obtain ⟨h10, h12⟩ := H
  refine v_X4_spentInAll w h _ (fun n x1 x2 g => g = h ∧ ∃ k : Nat, x2 = (k : Int) ∧ (k : Int) ≤ h 1 7 ∧ n = 10 - k ∧ x1 = smN (h 12) k) ⟨10, rfl, 0, rfl, by omega, rfl, rfl⟩ ?_
  rintro n x1 x2 g ⟨rfl, k, rfl, hk, rfl, rfl⟩
  have hb := smN_b (f := g 12) (c := 100000000) (by decide) (n := k) (fun i a b => h12 i a (by omega))
  refine ⟨fun c => ⟨by rw [show k = (g 1 7).toNat by omega], rfl⟩, fun c => ?_⟩
  have := h12 (k : Int) (by omega) (by omega)
  exact ⟨by omega, ⟨by omega, by omega⟩, ⟨by omega, by omega⟩, 10 - (k + 1), by omega, rfl, k + 1, by omega, by omega, rfl, rfl⟩
noncomputable def coM (h : HP) (a : Int) : Int := cif (-1 ≤ a ∧ a < h 55 0) (cif (a < 0) (smN (h 59) (h 55 0).toNat) (h 59 a)) (-1)
set_option maxRecDepth 100000 in
set_option maxHeartbeats 4000000 in
theorem v_X9_cost (w : WD) (a : Int) (h : HP) (K : Int → HP → Prop) 
    (I1 : Nat → Int → Int → HP → Prop)
    (H : ((iR ((h 55 0) - 1)) ∧ ((((-1) ≤ a ∧ a ≤ ((h 55 0) - 1)) → (∃ m : Nat, I1 m 0 0 h)) ∧ (¬ ((-1) ≤ a ∧ a ≤ ((h 55 0) - 1)) → K (-1) h))))
    (H1 : ∀ (n1 : Nat) (x2 : Int) (x3 : Int) (g1 : HP), I1 n1 x2 x3 g1 → (((g1 55 0) ≤ x3 → K x2 g1) ∧ (¬ (g1 55 0) ≤ x3 → ((((a < 0 → ((0 ≤ x3 ∧ x3 < 10) ∧ True)) ∧ (¬ a < 0 → ((¬ x3 = a → True) ∧ (x3 = a → ((0 ≤ x3 ∧ x3 < 10) ∧ True)))))) ∧ ((iR (x2 + (cif (a < 0) (g1 59 x3) (cif (¬ x3 = a) 0 (g1 59 x3))))) ∧ ((iR (x3 + 1)) ∧ (∃ m : Nat, m < n1 ∧ I1 m (x2 + (cif (a < 0) (g1 59 x3) (cif (¬ x3 = a) 0 (g1 59 x3)))) (x3 + 1) g1))))))) :
    Ev w Y_X9_cost 0 [some (vR 55), some (vI a), none, none] [] h (rI K) := by
  have L1 : ∀ (n1 : Nat) (x2 : Int) (x3 : Int) (g1 : HP), I1 n1 x2 x3 g1 → Ev w Y_X9_cost 24 [some (vR 55), some (vI a), some (vI x2), some (vI x3)] [] g1 (rI K) := by
    intro n1
    induction n1 using Nat.strongRecOn with
    | ind n1 ih1 =>
      intro x2 x3 g1 H
      have H := H1 n1 x2 x3 g1 H
      refine e_iload_n (pc := 24) dX9_cost_24 rfl rfl ?_
      refine e_aload_n (pc := 25) dX9_cost_25 rfl rfl ?_
      refine e_getI (q := 55) (ci := 9) (k := 0) (kz := 0) (C := RX9) (T := TX9) (N := 52) (x := (g1 55 0)) (pc := 26) dX9_cost_26 rfl rfl rfl ev_in9 rfl ul_4_182 ⟨rfl, by decide⟩ rfl ?_
      refine e_icmp_ge (pc := 29) (tgt := 60) dX9_cost_29 (by decide) (fun c2 => ?_) (fun c2 => ?_)
      · have H := H.1 c2
        refine e_iload_n (pc := 60) dX9_cost_60 rfl rfl ?_
        exact e_ret (pc := 61) (v := some (vI x2)) dX9_cost_61 rfl trivial ⟨_, rfl, H⟩
      · have H := H.2 c2
        refine e_iload_n (pc := 32) dX9_cost_32 rfl rfl ?_
        refine e_iload_n (pc := 33) dX9_cost_33 rfl rfl ?_
        have J : Ev w Y_X9_cost 52 [some (vR 55), some (vI a), some (vI x2), some (vI x3)] [vI (cif (a < 0) (g1 59 x3) (cif (¬ x3 = a) 0 (g1 59 x3))), vI x2] g1 (rI K) := by
          have H := H.2
          refine e_iadd (pc := 52) dX9_cost_52 H.1 ?_
          have H := H.2
          refine e_istore_n (lv' := [some (vR 55), some (vI a), some (vI (x2 + (cif (a < 0) (g1 59 x3) (cif (¬ x3 = a) 0 (g1 59 x3))))), some (vI x3)]) (pc := 53) dX9_cost_53 rfl rfl rfl ?_
          refine e_iinc (lv' := [some (vR 55), some (vI a), some (vI (x2 + (cif (a < 0) (g1 59 x3) (cif (¬ x3 = a) 0 (g1 59 x3))))), some (vI (x3 + 1))]) (pc := 54) dX9_cost_54 rfl H.1 rfl rfl ?_
          have H := H.2
          refine e_goto (pc := 57) (tgt := 24) dX9_cost_57 (by decide) ?_
          obtain ⟨m, hm, H⟩ := H
          exact ih1 m hm _ _ _ H
        have Ho := H.1
        refine e_if_lt (pc := 34) (tgt := 42) dX9_cost_34 (by decide) (fun c3 => ?_) (fun c3 => ?_)
        · have Ho := Ho.1 c3
          refine e_aload_n (pc := 42) dX9_cost_42 rfl rfl ?_
          refine e_getR (q := 55) (ci := 9) (k := 4) (y := 59) (C := RX9) (T := TX9) (N := 52) (pc := 43) dX9_cost_43 rfl rfl ev_in9 rfl ul_4_186 ⟨rfl, rfl⟩ rfl ?_
          refine e_iload_n (pc := 46) dX9_cost_46 rfl rfl ?_
          refine e_iald (q := 59) (x := (g1 59 x3)) (pc := 47) dX9_cost_47 rfl Ho.1 rfl ?_
          have Ho := Ho.2
          refine e_goto (pc := 48) (tgt := 52) dX9_cost_48 (by decide) ?_
          exact e_top (cif_t c3) J
        · have Ho := Ho.2 c3
          refine e_iload_n (pc := 37) dX9_cost_37 rfl rfl ?_
          refine e_iload_n (pc := 38) dX9_cost_38 rfl rfl ?_
          refine e_icmp_ne (pc := 39) (tgt := 51) dX9_cost_39 (by decide) (fun c4 => ?_) (fun c4 => ?_)
          · have Ho := Ho.1 c4
            refine e_iconst (pc := 51) dX9_cost_51 ⟨by decide, by decide⟩ ?_
            exact e_top ((cif_f c3).trans (cif_t c4)) J
          · have Ho := Ho.2 c4
            refine e_aload_n (pc := 42) dX9_cost_42 rfl rfl ?_
            refine e_getR (q := 55) (ci := 9) (k := 4) (y := 59) (C := RX9) (T := TX9) (N := 52) (pc := 43) dX9_cost_43 rfl rfl ev_in9 rfl ul_4_186 ⟨rfl, rfl⟩ rfl ?_
            refine e_iload_n (pc := 46) dX9_cost_46 rfl rfl ?_
            refine e_iald (q := 59) (x := (g1 59 x3)) (pc := 47) dX9_cost_47 rfl Ho.1 rfl ?_
            have Ho := Ho.2
            refine e_goto (pc := 48) (tgt := 52) dX9_cost_48 (by decide) ?_
            exact e_top ((cif_f c3).trans (cif_f (fun z => z c4))) J
  refine e_iload_n (pc := 0) dX9_cost_0 rfl rfl ?_
  refine e_i2l (pc := 1) dX9_cost_1 ?_
  refine e_ldc2 (x := (-1)) (pc := 2) dX9_cost_2 ul_5_114 ⟨by decide, by decide⟩ ?_
  refine e_aload_n (pc := 5) dX9_cost_5 rfl rfl ?_
  refine e_getI (q := 55) (ci := 9) (k := 0) (kz := 0) (C := RX9) (T := TX9) (N := 52) (x := (h 55 0)) (pc := 6) dX9_cost_6 rfl rfl rfl ev_in9 rfl ul_4_182 ⟨rfl, by decide⟩ rfl ?_
  refine e_iconst (pc := 9) dX9_cost_9 ⟨by decide, by decide⟩ ?_
  refine e_isub (pc := 10) dX9_cost_10 H.1 ?_
  have H := H.2
  refine e_i2l (pc := 11) dX9_cost_11 ?_
  refine e_invS (pc := 12) (Y' := Y_X9_in) (as := [vL a, vL (-1), vL ((h 55 0) - 1)]) (st := []) (lv0 := [some (vL a), none, some (vL (-1)), none, some (vL ((h 55 0) - 1)), none]) dX9_cost_12 m_X9_in ul_5_104 ul_5_105 ⟨rfl, rfl⟩ rfl rfl rfl rfl rfl (c_X9_in w a (-1) ((h 55 0) - 1) h) ?_
  rintro _ hz ⟨_, rfl, rfl, hh⟩
  rw [hh]
  show Ev w Y_X9_cost 15 [some (vR 55), some (vI a), none, none] [vI (b2i ((-1) ≤ a ∧ a ≤ ((h 55 0) - 1)))] h (rI K)
  refine e_ifb_ne (pc := 15) (tgt := 20) dX9_cost_15 (by decide) (fun c1 => ?_) (fun c1 => ?_)
  · have H := H.1 c1
    refine e_iconst (pc := 20) dX9_cost_20 ⟨by decide, by decide⟩ ?_
    refine e_istore_n (lv' := [some (vR 55), some (vI a), some (vI 0), none]) (pc := 21) dX9_cost_21 rfl rfl rfl ?_
    refine e_iconst (pc := 22) dX9_cost_22 ⟨by decide, by decide⟩ ?_
    refine e_istore_n (lv' := [some (vR 55), some (vI a), some (vI 0), some (vI 0)]) (pc := 23) dX9_cost_23 rfl rfl rfl ?_
    obtain ⟨m, H⟩ := H
    exact L1 m _ _ _ H
  · have H := H.2 c1
    refine e_iconst (pc := 18) dX9_cost_18 ⟨by decide, by decide⟩ ?_
    exact e_ret (pc := 19) (v := some (vI (-1))) dX9_cost_19 rfl trivial ⟨_, rfl, H⟩
set_option maxRecDepth 100000 in
set_option maxHeartbeats 4000000 in
theorem c_X9_cost (w : WD) (a : Int) (h : HP) (H : (0 ≤ h 55 0 ∧ h 55 0 ≤ 10) ∧ ∀ i : Int, 0 ≤ i → i < 10 → 0 ≤ h 59 i ∧ h 59 i ≤ 100000000) : Ev w Y_X9_cost 0 [some (vR 55), some (vI a), none, none] [] h (rI (fun r h' => r = (coM h a) ∧ h' = h)) := by
  obtain ⟨h10, h12⟩ := H
  refine v_X9_cost w a h _ (fun n x2 x3 g => g = h ∧ (-1 ≤ a ∧ a < h 55 0) ∧ ∃ k : Nat, x3 = (k : Int) ∧ (k : Int) ≤ h 55 0 ∧ n = 10 - k ∧ x2 = smN (fun i => cif (a < 0) (h 59 i) (cif (i = a) (h 59 i) 0)) k) ⟨⟨by omega, by omega⟩, fun c => ⟨10, rfl, by omega, 0, rfl, by omega, rfl, rfl⟩, fun c => ⟨by unfold coM; rw [cif_f (by omega)], rfl⟩⟩ ?_
  rintro n x2 x3 g ⟨rfl, ha, k, rfl, hk, rfl, rfl⟩
  have hf : ∀ i : Int, 0 ≤ i → i < 10 → 0 ≤ cif (a < 0) (g 59 i) (cif (i = a) (g 59 i) 0) ∧ cif (a < 0) (g 59 i) (cif (i = a) (g 59 i) 0) ≤ 100000000 := fun i i0 i1 => by
    have := h12 i i0 i1
    by_cases c : a < 0
    · rw [cif_t c]; exact this
    · rw [cif_f c]
      by_cases e : i = a
      · rw [cif_t e]; exact this
      · rw [cif_f e]; omega
  have hb := smN_b (f := fun i => cif (a < 0) (g 59 i) (cif (i = a) (g 59 i) 0)) (c := 100000000) (by decide) (n := k) (fun i i0 i1 => hf i i0 (by omega))
  refine ⟨fun c => ⟨?_, rfl⟩, fun c => ?_⟩
  · have e : k = (g 55 0).toNat := by omega
    subst e
    unfold coM
    rw [cif_t ha]
    by_cases z : a < 0
    · rw [cif_t z]
      exact smN_c (fun i _ _ => cif_t z)
    · rw [cif_f z, smN_c (g := fun i => cif (i = a) (g 59 i) 0) (fun i _ _ => cif_f z), smN_at (by omega), cif_t (by omega)]
  · rw [cif_n]
    have := hf (k : Int) (by omega) (by omega)
    exact ⟨⟨fun _ => ⟨by omega, trivial⟩, fun _ => ⟨fun _ => trivial, fun _ => ⟨by omega, trivial⟩⟩⟩, ⟨by omega, by omega⟩, ⟨by omega, by omega⟩, 10 - (k + 1), by omega, rfl, ha, k + 1, by omega, by omega, rfl, rfl⟩
def ubC (h : HP) (a t : Int) : Prop := (0 ≤ t ∧ t < h 1 7) ∧ mem (h 36 a) t ∧ h 13 t = 1000 + a
def S_X8_takeBack (a : Int) (h : HP) (K : Int → HP → Prop) : Prop := (HOK h ∧ (0 ≤ a ∧ a < 200) ∧ (0 ≤ h 36 a ∧ h 36 a < 1024) ∧ inS (h 37 a)) ∧ ∀ h' : HP, (∀ q, q ≠ 1 → q ≠ 13 → q ≠ 38 → h' q = h q) → (∀ i : Int, i ≠ 8 → h' 1 i = h 1 i) → HOK h' → h' 38 = us (h 38) a 1 → (∀ t : Int, 0 ≤ t → t < 10 → dgt (h' 1 8) t = cif (ubC h a t) (dgt (h 37 a) t) (dgt (h 1 8) t)) → (∀ t : Int, h' 13 t = cif (ubC h a t) (3000 + a) (h 13 t)) → K (bset (ubC h a) 10) h'
set_option maxRecDepth 100000 in
set_option maxHeartbeats 4000000 in
theorem v_X8_takeBack (w : WD) (a : Int) (h : HP) (K : Int → HP → Prop) 
    (I1 : Nat → Int → Int → HP → Prop)
    (H : ((0 ≤ a ∧ a < 200) ∧ (∃ m : Nat, I1 m 0 0 (sth h 38 a 1))))
    (H1 : ∀ (n1 : Nat) (x2 : Int) (x3 : Int) (g1 : HP), I1 n1 x2 x3 g1 → (((g1 1 7) ≤ x3 → K x2 g1) ∧ (¬ (g1 1 7) ≤ x3 → ((0 ≤ a ∧ a < 200) ∧ ((inB (g1 36 a) x3) ∧ ((((¬ (mem (g1 36 a) x3) → True) ∧ ((mem (g1 36 a) x3) → ((0 ≤ x3 ∧ x3 < 10) ∧ ((iR (1000 + a)) ∧ True))))) ∧ (((((mem (g1 36 a) x3)) ∧ ((g1 13 x3) = (1000 + a))) → ((0 ≤ a ∧ a < 200) ∧ ((inS (g1 37 a) ∧ 0 ≤ x3 ∧ x3 < 10) ∧ ((iR (3000 + a)) ∧ (S_X4_change x3 (dgt (g1 37 a) x3) (3000 + a) g1 (fun h21 => ((iR (x3 + 1)) ∧ (∃ m : Nat, m < n1 ∧ I1 m (ior x2 (ishl 1 x3)) (x3 + 1) h21)))))))) ∧ (¬ (((mem (g1 36 a) x3)) ∧ ((g1 13 x3) = (1000 + a))) → ((iR (x3 + 1)) ∧ (∃ m : Nat, m < n1 ∧ I1 m x2 (x3 + 1) g1)))))))))) :
    Ev w Y_X8_takeBack 0 [some (vR 0), some (vI a), none, none] [] h (rI K) := by
  have L1 : ∀ (n1 : Nat) (x2 : Int) (x3 : Int) (g1 : HP), I1 n1 x2 x3 g1 → Ev w Y_X8_takeBack 14 [some (vR 0), some (vI a), some (vI x2), some (vI x3)] [] g1 (rI K) := by
    intro n1
    induction n1 using Nat.strongRecOn with
    | ind n1 ih1 =>
      intro x2 x3 g1 H
      have H := H1 n1 x2 x3 g1 H
      refine e_iload_n (pc := 14) dX8_takeBack_14 rfl rfl ?_
      refine e_aload_n (pc := 15) dX8_takeBack_15 rfl rfl ?_
      refine e_getR (q := 0) (ci := 8) (k := 0) (y := 1) (C := RX8) (T := TX8) (N := 9) (pc := 16) dX8_takeBack_16 rfl rfl ev_in8 rfl ul_2_98 ⟨rfl, rfl⟩ rfl ?_
      refine e_getI (q := 1) (ci := 4) (k := 7) (kz := 7) (C := RX4) (T := TX4) (N := 10) (x := (g1 1 7)) (pc := 19) dX8_takeBack_19 rfl rfl rfl ev_in4 rfl ul_1_48 ⟨rfl, by decide⟩ rfl ?_
      refine e_icmp_ge (pc := 22) (tgt := 96) dX8_takeBack_22 (by decide) (fun c1 => ?_) (fun c1 => ?_)
      · have H := H.1 c1
        refine e_iload_n (pc := 96) dX8_takeBack_96 rfl rfl ?_
        exact e_ret (pc := 97) (v := some (vI x2)) dX8_takeBack_97 rfl trivial ⟨_, rfl, H⟩
      · have H := H.2 c1
        refine e_aload_n (pc := 25) dX8_takeBack_25 rfl rfl ?_
        refine e_getR (q := 0) (ci := 8) (k := 4) (y := 5) (C := RX8) (T := TX8) (N := 9) (pc := 26) dX8_takeBack_26 rfl rfl ev_in8 rfl ul_2_102 ⟨rfl, rfl⟩ rfl ?_
        refine e_getR (q := 5) (ci := 0) (k := 0) (y := 36) (C := RX0) (T := TX0) (N := 5) (pc := 29) dX8_takeBack_29 rfl rfl ev_in0 rfl ul_1_214 ⟨rfl, rfl⟩ rfl ?_
        refine e_iload_n (pc := 32) dX8_takeBack_32 rfl rfl ?_
        refine e_iald (q := 36) (x := (g1 36 a)) (pc := 33) dX8_takeBack_33 rfl H.1 rfl ?_
        have H := H.2
        refine e_iload_n (pc := 34) dX8_takeBack_34 rfl rfl ?_
        refine e_invS (pc := 35) (Y' := Y_X8_isIn) (as := [vI (g1 36 a), vI x3]) (st := []) (lv0 := [some (vI (g1 36 a)), some (vI x3)]) dX8_takeBack_35 m_X8_isIn ul_3_142 ul_3_102 ⟨rfl, rfl⟩ rfl rfl rfl rfl rfl (c_X8_isIn w (g1 36 a) x3 g1 H.1) ?_
        rintro _ hz ⟨_, rfl, rfl, hh⟩
        rw [hh]
        show Ev w Y_X8_takeBack 38 [some (vR 0), some (vI a), some (vI x2), some (vI x3)] [vI (b2i (mem (g1 36 a) x3))] g1 (rI K)
        have H := H.2
        have Ho := H.1
        have H := H.2
        have J1 : (((mem (g1 36 a) x3)) ∧ ((g1 13 x3) = (1000 + a))) → Ev w Y_X8_takeBack 58 [some (vR 0), some (vI a), some (vI x2), some (vI x3)] [] g1 (rI K) := by
          intro hp
          have H := H.1 hp
          refine e_aload_n (pc := 58) dX8_takeBack_58 rfl rfl ?_
          refine e_getR (q := 0) (ci := 8) (k := 0) (y := 1) (C := RX8) (T := TX8) (N := 9) (pc := 59) dX8_takeBack_59 rfl rfl ev_in8 rfl ul_2_98 ⟨rfl, rfl⟩ rfl ?_
          refine e_iload_n (pc := 62) dX8_takeBack_62 rfl rfl ?_
          refine e_aload_n (pc := 63) dX8_takeBack_63 rfl rfl ?_
          refine e_getR (q := 0) (ci := 8) (k := 4) (y := 5) (C := RX8) (T := TX8) (N := 9) (pc := 64) dX8_takeBack_64 rfl rfl ev_in8 rfl ul_2_102 ⟨rfl, rfl⟩ rfl ?_
          refine e_getR (q := 5) (ci := 0) (k := 1) (y := 37) (C := RX0) (T := TX0) (N := 5) (pc := 67) dX8_takeBack_67 rfl rfl ev_in0 rfl ul_1_216 ⟨rfl, rfl⟩ rfl ?_
          refine e_iload_n (pc := 70) dX8_takeBack_70 rfl rfl ?_
          refine e_iald (q := 37) (x := (g1 37 a)) (pc := 71) dX8_takeBack_71 rfl H.1 rfl ?_
          have H := H.2
          refine e_iload_n (pc := 72) dX8_takeBack_72 rfl rfl ?_
          refine e_invS (pc := 73) (Y' := Y_X8_stateIn) (as := [vI (g1 37 a), vI x3]) (st := [vI x3, vR 1]) (lv0 := [some (vI (g1 37 a)), some (vI x3)]) dX8_takeBack_73 m_X8_stateIn ul_2_153 ul_2_154 ⟨rfl, rfl⟩ rfl rfl rfl rfl rfl (c_X8_stateIn w (g1 37 a) x3 g1 H.1) ?_
          rintro _ hz ⟨_, rfl, rfl, hh⟩
          rw [hh]
          show Ev w Y_X8_takeBack 76 [some (vR 0), some (vI a), some (vI x2), some (vI x3)] [vI (dgt (g1 37 a) x3), vI x3, vR 1] g1 (rI K)
          have H := H.2
          refine e_sipush (pc := 76) dX8_takeBack_76 ⟨by decide, by decide⟩ (by decide) ?_
          refine e_iload_n (pc := 79) dX8_takeBack_79 rfl rfl ?_
          refine e_iadd (pc := 80) dX8_takeBack_80 H.1 ?_
          have H := H.2
          refine e_invV (pc := 81) (Y' := Y_X4_change) (as := [vI x3, vI (dgt (g1 37 a) x3), vI (3000 + a)]) (st := []) (lv0 := [some (vR 1), some (vI x3), some (vI (dgt (g1 37 a) x3)), some (vI (3000 + a))]) (q := 1) (ci := 4) (T := TX4) (N := 10) dX8_takeBack_81 m_X4_change ul_4_1 ⟨ul_4_2, ul_4_3⟩ ⟨rfl, rfl⟩ rfl rfl rfl rfl rfl rfl rfl (c_X4_change w x3 (dgt (g1 37 a) x3) (3000 + a) g1 _ H) ?_
          rintro _ h21 ⟨rfl, H⟩
          show Ev w Y_X8_takeBack 84 [some (vR 0), some (vI a), some (vI x2), some (vI x3)] [] h21 (rI K)
          refine e_iload_n (pc := 84) dX8_takeBack_84 rfl rfl ?_
          refine e_iconst (pc := 85) dX8_takeBack_85 ⟨by decide, by decide⟩ ?_
          refine e_iload_n (pc := 86) dX8_takeBack_86 rfl rfl ?_
          refine e_ishl (pc := 87) dX8_takeBack_87 ?_
          refine e_ior (pc := 88) dX8_takeBack_88 ?_
          refine e_istore_n (lv' := [some (vR 0), some (vI a), some (vI (ior x2 (ishl 1 x3))), some (vI x3)]) (pc := 89) dX8_takeBack_89 rfl rfl rfl ?_
          refine e_iinc (lv' := [some (vR 0), some (vI a), some (vI (ior x2 (ishl 1 x3))), some (vI (x3 + 1))]) (pc := 90) dX8_takeBack_90 rfl H.1 rfl rfl ?_
          have H := H.2
          refine e_goto (pc := 93) (tgt := 14) dX8_takeBack_93 (by decide) ?_
          obtain ⟨m, hm, H⟩ := H
          exact ih1 m hm _ _ _ H
        have J2 : ¬ (((mem (g1 36 a) x3)) ∧ ((g1 13 x3) = (1000 + a))) → Ev w Y_X8_takeBack 90 [some (vR 0), some (vI a), some (vI x2), some (vI x3)] [] g1 (rI K) := by
          intro hp
          have H := H.2 hp
          refine e_iinc (lv' := [some (vR 0), some (vI a), some (vI x2), some (vI (x3 + 1))]) (pc := 90) dX8_takeBack_90 rfl H.1 rfl rfl ?_
          have H := H.2
          refine e_goto (pc := 93) (tgt := 14) dX8_takeBack_93 (by decide) ?_
          obtain ⟨m, hm, H⟩ := H
          exact ih1 m hm _ _ _ H
        refine e_ifb_eq (pc := 38) (tgt := 90) dX8_takeBack_38 (by decide) (fun c2 => ?_) (fun c2 => ?_)
        · have Ho := Ho.1 c2
          exact J2 (fun z => c2 z.1)
        · have Ho := Ho.2 c2
          refine e_aload_n (pc := 41) dX8_takeBack_41 rfl rfl ?_
          refine e_getR (q := 0) (ci := 8) (k := 0) (y := 1) (C := RX8) (T := TX8) (N := 9) (pc := 42) dX8_takeBack_42 rfl rfl ev_in8 rfl ul_2_98 ⟨rfl, rfl⟩ rfl ?_
          refine e_getR (q := 1) (ci := 4) (k := 4) (y := 13) (C := RX4) (T := TX4) (N := 10) (pc := 45) dX8_takeBack_45 rfl rfl ev_in4 rfl ul_1_41 ⟨rfl, rfl⟩ rfl ?_
          refine e_iload_n (pc := 48) dX8_takeBack_48 rfl rfl ?_
          refine e_iald (q := 13) (x := (g1 13 x3)) (pc := 49) dX8_takeBack_49 rfl Ho.1 rfl ?_
          have Ho := Ho.2
          refine e_sipush (pc := 50) dX8_takeBack_50 ⟨by decide, by decide⟩ (by decide) ?_
          refine e_iload_n (pc := 53) dX8_takeBack_53 rfl rfl ?_
          refine e_iadd (pc := 54) dX8_takeBack_54 Ho.1 ?_
          have Ho := Ho.2
          refine e_icmp_ne (pc := 55) (tgt := 90) dX8_takeBack_55 (by decide) (fun c3 => ?_) (fun c3 => ?_)
          · exact J2 (fun z => c3 z.2)
          · exact J1 ⟨c2, c3⟩
  refine e_aload_n (pc := 0) dX8_takeBack_0 rfl rfl ?_
  refine e_getR (q := 0) (ci := 8) (k := 4) (y := 5) (C := RX8) (T := TX8) (N := 9) (pc := 1) dX8_takeBack_1 rfl rfl ev_in8 rfl ul_2_102 ⟨rfl, rfl⟩ rfl ?_
  refine e_getR (q := 5) (ci := 0) (k := 2) (y := 38) (C := RX0) (T := TX0) (N := 5) (pc := 4) dX8_takeBack_4 rfl rfl ev_in0 rfl ul_1_218 ⟨rfl, rfl⟩ rfl ?_
  refine e_iload_n (pc := 7) dX8_takeBack_7 rfl rfl ?_
  refine e_iconst (pc := 8) dX8_takeBack_8 ⟨by decide, by decide⟩ ?_
  refine e_zast (q := 38) (pc := 9) dX8_takeBack_9 rfl H.1 (Or.inr rfl) ?_
  have H := H.2
  refine e_iconst (pc := 10) dX8_takeBack_10 ⟨by decide, by decide⟩ ?_
  refine e_istore_n (lv' := [some (vR 0), some (vI a), some (vI 0), none]) (pc := 11) dX8_takeBack_11 rfl rfl rfl ?_
  refine e_iconst (pc := 12) dX8_takeBack_12 ⟨by decide, by decide⟩ ?_
  refine e_istore_n (lv' := [some (vR 0), some (vI a), some (vI 0), some (vI 0)]) (pc := 13) dX8_takeBack_13 rfl rfl rfl ?_
  obtain ⟨m, H⟩ := H
  exact L1 m _ _ _ H
set_option maxRecDepth 100000 in
set_option maxHeartbeats 4000000 in
theorem c_X8_takeBack (w : WD) (a : Int) (h : HP) (K : Int → HP → Prop)  (H : S_X8_takeBack a h K) : Ev w Y_X8_takeBack 0 [some (vR 0), some (vI a), none, none] [] h (rI K) := by
  obtain ⟨⟨hH, ha, h36, h37⟩, HK⟩ := H
  have h10 := hH.1
  refine v_X8_takeBack w a h K (fun n x2 x3 g => (0 ≤ x3 ∧ x3 ≤ h 1 7) ∧ n = (10 - x3).toNat ∧ x2 = bset (ubC h a) x3.toNat ∧ (∀ q, q ≠ 1 → q ≠ 13 → q ≠ 38 → g q = h q) ∧ (∀ i : Int, i ≠ 8 → g 1 i = h 1 i) ∧ HOK g ∧ g 38 = us (h 38) a 1 ∧ (∀ t : Int, 0 ≤ t → t < 10 → dgt (g 1 8) t = cif (t < x3 ∧ ubC h a t) (dgt (h 37 a) t) (dgt (h 1 8) t)) ∧ ∀ t : Int, g 13 t = cif (t < x3 ∧ ubC h a t) (3000 + a) (h 13 t)) ⟨ha, 10, by omega, rfl, rfl, fun q _ _ b => sth_ne b, fun i _ => by rw [sth_ne (by decide)], HOK_c (by rw [sth_ne (by decide)]) (by rw [sth_ne (by decide)]) (sth_ne (by decide)) (sth_ne (by decide)) (sth_ne (by decide)) (sth_ne (by decide)) (sth_ne (by decide)) hH, sth_eq, fun t a0 a1 => by rw [cif_f (by omega), sth_ne (by decide)], fun t => ?_⟩ ?_
  · rw [sth_ne (by decide)]
    by_cases c : 0 ≤ t
    · rw [cif_f (by omega)]
    · rw [cif_f (fun y => c y.2.1.1)]
  · rintro n x2 x3 g ⟨h0, rfl, rfl, hg, h1, hHg, h38, hd, h13⟩
    have g36 : g 36 = h 36 := hg 36 (by decide) (by decide) (by decide)
    have g37 : g 37 = h 37 := hg 37 (by decide) (by decide) (by decide)
    rw [h1 7 (by decide), g36, g37, h13 x3, cif_f (show ¬ (x3 < x3 ∧ ubC h a x3) from fun y => by have := y.1; omega)]
    refine ⟨fun c => ?_, fun c => ⟨ha, ⟨⟨h36.1, by omega⟩, by omega, by omega⟩, ⟨fun _ => trivial, fun _ => ⟨by omega, ⟨by omega, by omega⟩, trivial⟩⟩, fun z => ?_, fun z => ?_⟩⟩
    · have e : ∀ t : Int, (t < x3 ∧ ubC h a t) ↔ ubC h a t := fun t => ⟨fun y => y.2, fun y => ⟨by have := y.1; omega, y⟩⟩
      have eb : bset (ubC h a) x3.toNat = bset (ubC h a) 10 := (bset_past (by omega) (fun i i0 i1 z => by have := z.1; omega)).symm
      rw [eb]
      exact HK g hg h1 hHg h38 (fun t a0 a1 => by rw [hd t a0 a1, cif_c (e t)]) (fun t => by rw [h13 t, cif_c (e t)])
    · have hu : ubC h a x3 := ⟨by omega, z⟩
      refine ⟨ha, ⟨h37, by omega⟩, ⟨by omega, by omega⟩, ⟨hHg.2.2.1, by omega, dgt_3 _ _⟩, by omega, ⟨by omega, by omega⟩, (10 - (x3 + 1)).toNat, by omega, by omega, rfl, bset_next h0.1 (by omega) hu, fun q b1 b2 b3 => by rw [sth_ne b2, sth_ne b1]; exact hg q b1 b2 b3, fun i b => by rw [sth_ne (by decide), sth_eq, us_n b]; exact h1 i b, ?_, by rw [sth_ne (by decide), sth_ne (by decide)]; exact h38, fun t a0 a1 => ?_, fun t => ?_⟩
      · have hq : ∀ q, q ≠ 1 → q ≠ 13 → sth (sth g 1 8 (wth (g 1 8) x3 (dgt (h 37 a) x3))) 13 x3 (3000 + a) q = g q := fun q b1 b2 => by rw [sth_ne b2, sth_ne b1]
        have h1' : sth (sth g 1 8 (wth (g 1 8) x3 (dgt (h 37 a) x3))) 13 x3 (3000 + a) 1 = us (g 1) 8 (wth (g 1 8) x3 (dgt (h 37 a) x3)) := by rw [sth_ne (by decide), sth_eq]
        have g17 := h1 7 (by decide)
        unfold HOK
        rw [h1', hq 9 (by decide) (by decide), hq 10 (by decide) (by decide), hq 11 (by decide) (by decide), hq 14 (by decide) (by decide), hq 15 (by decide) (by decide), us_s, us_n (show (7 : Int) ≠ 8 by decide)]
        refine ⟨hHg.1, hHg.2.1, inS_wth (dgt_3 _ _), fun t a0 a1 => ?_, hHg.2.2.2.2⟩
        rw [dgt_wth (dgt_3 _ _) (by omega) a1, if_neg (by omega)]
        exact hHg.2.2.2.1 t a0 a1
      · rw [sth_ne (by decide), sth_eq, us_s, dgt_wth (dgt_3 _ _) a0 a1]
        by_cases e : t = x3
        · subst e; rw [if_pos rfl, cif_t ⟨by omega, hu⟩]
        · rw [if_neg e, hd t a0 a1]
          exact cif_c ⟨fun y => ⟨by omega, y.2⟩, fun y => ⟨by omega, y.2⟩⟩
      · rw [sth_eq]
        by_cases e : t = x3
        · subst e; rw [us_s, cif_t ⟨by omega, hu⟩]
        · rw [us_n e, sth_ne (by decide), h13 t]
          exact cif_c ⟨fun y => ⟨by omega, y.2⟩, fun y => ⟨by omega, y.2⟩⟩
    · have hu : ¬ ubC h a x3 := fun y => z y.2
      refine ⟨⟨by omega, by omega⟩, (10 - (x3 + 1)).toNat, by omega, by omega, rfl, bset_skip h0.1 hu, hg, h1, hHg, h38, fun t a0 a1 => ?_, fun t => ?_⟩
      · rw [hd t a0 a1]
        by_cases e : t = x3
        · subst e; rw [cif_f (fun y => hu y.2), cif_f (fun y => hu y.2)]
        · exact cif_c ⟨fun y => ⟨by omega, y.2⟩, fun y => ⟨by omega, y.2⟩⟩
      · rw [h13 t]
        by_cases e : t = x3
        · subst e; rw [cif_f (fun y => hu y.2), cif_f (fun y => hu y.2)]
        · exact cif_c ⟨fun y => ⟨by omega, y.2⟩, fun y => ⟨by omega, y.2⟩⟩
def ubM (h : HP) (a t : Int) : Prop := (0 ≤ t ∧ t < h 55 0) ∧ mem (h 76 a) t ∧ h 61 t = 1000 + a
def S_X9_undo (h : HP) (K : Int → HP → Prop) : Prop := (mHOK h ∧ (0 ≤ h 55 29 ∧ h 55 29 ≤ 200) ∧ ∀ i : Int, 0 ≤ i → i < h 55 29 → (0 ≤ h 76 i ∧ h 76 i < 1024) ∧ inS (h 77 i)) ∧ (lnb (h 78) (h 55 29).toNat < 0 → K (-2) h) ∧ (∀ a : Int, a = lnb (h 78) (h 55 29).toNat → 0 ≤ a → a < h 55 29 → ∀ h' : HP, (∀ q, q ≠ 60 → q ≠ 61 → q ≠ 78 → h' q = h q) → h' 78 = us (h 78) a 1 → (∀ t : Int, h' 60 t = cif (ubM h a t) (dgt (h 77 a) t) (h 60 t)) → (∀ t : Int, h' 61 t = cif (ubM h a t) (3000 + a) (h 61 t)) → K (bset (ubM h a) 10) h')
set_option maxRecDepth 100000 in
set_option maxHeartbeats 4000000 in
theorem v_X9_undo (w : WD)  (h : HP) (K : Int → HP → Prop) 
    (I1 : Nat → Int → HP → Prop)
    (I2 : Nat → Int → Int → Int → HP → Prop)
    (H : ((iR ((h 55 29) - 1)) ∧ (∃ m : Nat, I1 m ((h 55 29) - 1) h)))
    (H1 : ∀ (n1 : Nat) (x1 : Int) (g1 : HP), I1 n1 x1 g1 → ((((x1 < 0 → True) ∧ (¬ x1 < 0 → ((0 ≤ x1 ∧ x1 < 200) ∧ True)))) ∧ ((((x1 < 0) ∨ ((g1 78 x1) = 0)) → ((0 ≤ x1 → ((0 ≤ x1 ∧ x1 < 200) ∧ (∃ m : Nat, I2 m x1 0 0 (sth g1 78 x1 1)))) ∧ (¬ 0 ≤ x1 → K (-2) g1))) ∧ (¬ ((x1 < 0) ∨ ((g1 78 x1) = 0)) → ((iR (x1 + (-1))) ∧ (∃ m : Nat, m < n1 ∧ I1 m (x1 + (-1)) g1))))))
    (H2 : ∀ (n2 : Nat) (x1 : Int) (x2 : Int) (x3 : Int) (g2 : HP), I2 n2 x1 x2 x3 g2 → (((g2 55 0) ≤ x3 → K x2 g2) ∧ (¬ (g2 55 0) ≤ x3 → ((0 ≤ x1 ∧ x1 < 200) ∧ ((inB (g2 76 x1) x3) ∧ ((((¬ (mem (g2 76 x1) x3) → True) ∧ ((mem (g2 76 x1) x3) → ((0 ≤ x3 ∧ x3 < 10) ∧ ((iR (1000 + x1)) ∧ True))))) ∧ (((((mem (g2 76 x1) x3)) ∧ ((g2 61 x3) = (1000 + x1))) → ((0 ≤ x1 ∧ x1 < 200) ∧ ((iR (2 * x3)) ∧ ((0 ≤ x3 ∧ x3 < 10) ∧ ((iR (3000 + x1)) ∧ ((0 ≤ x3 ∧ x3 < 10) ∧ ((iR (x3 + 1)) ∧ (∃ m : Nat, m < n2 ∧ I2 m x1 (ior x2 (ishl 1 x3)) (x3 + 1) (sth (sth g2 60 x3 (iand (ishr (g2 77 x1) (2 * x3)) 3)) 61 x3 (3000 + x1)))))))))) ∧ (¬ (((mem (g2 76 x1) x3)) ∧ ((g2 61 x3) = (1000 + x1))) → ((iR (x3 + 1)) ∧ (∃ m : Nat, m < n2 ∧ I2 m x1 x2 (x3 + 1) g2)))))))))) :
    Ev w Y_X9_undo 0 [some (vR 55), none, none, none] [] h (rI K) := by
  have L2 : ∀ (n2 : Nat) (x1 : Int) (x2 : Int) (x3 : Int) (g2 : HP), I2 n2 x1 x2 x3 g2 → Ev w Y_X9_undo 44 [some (vR 55), some (vI x1), some (vI x2), some (vI x3)] [] g2 (rI K) := by
    intro n2
    induction n2 using Nat.strongRecOn with
    | ind n2 ih2 =>
      intro x1 x2 x3 g2 H
      have H := H2 n2 x1 x2 x3 g2 H
      refine e_iload_n (pc := 44) dX9_undo_44 rfl rfl ?_
      refine e_aload_n (pc := 45) dX9_undo_45 rfl rfl ?_
      refine e_getI (q := 55) (ci := 9) (k := 0) (kz := 0) (C := RX9) (T := TX9) (N := 52) (x := (g2 55 0)) (pc := 46) dX9_undo_46 rfl rfl rfl ev_in9 rfl ul_4_182 ⟨rfl, by decide⟩ rfl ?_
      refine e_icmp_ge (pc := 49) (tgt := 120) dX9_undo_49 (by decide) (fun c1 => ?_) (fun c1 => ?_)
      · have H := H.1 c1
        refine e_iload_n (pc := 120) dX9_undo_120 rfl rfl ?_
        exact e_ret (pc := 121) (v := some (vI x2)) dX9_undo_121 rfl trivial ⟨_, rfl, H⟩
      · have H := H.2 c1
        refine e_aload_n (pc := 52) dX9_undo_52 rfl rfl ?_
        refine e_getR (q := 55) (ci := 9) (k := 30) (y := 76) (C := RX9) (T := TX9) (N := 52) (pc := 53) dX9_undo_53 rfl rfl ev_in9 rfl ul_4_212 ⟨rfl, rfl⟩ rfl ?_
        refine e_iload_n (pc := 56) dX9_undo_56 rfl rfl ?_
        refine e_iald (q := 76) (x := (g2 76 x1)) (pc := 57) dX9_undo_57 rfl H.1 rfl ?_
        have H := H.2
        refine e_iload_n (pc := 58) dX9_undo_58 rfl rfl ?_
        refine e_invS (pc := 59) (Y' := Y_X9_has) (as := [vI (g2 76 x1), vI x3]) (st := []) (lv0 := [some (vI (g2 76 x1)), some (vI x3)]) dX9_undo_59 m_X9_has ul_5_221 ul_5_222 ⟨rfl, rfl⟩ rfl rfl rfl rfl rfl (c_X9_has w (g2 76 x1) x3 g2 H.1) ?_
        rintro _ hz ⟨_, rfl, rfl, hh⟩
        rw [hh]
        show Ev w Y_X9_undo 62 [some (vR 55), some (vI x1), some (vI x2), some (vI x3)] [vI (b2i (mem (g2 76 x1) x3))] g2 (rI K)
        have H := H.2
        have Ho := H.1
        have H := H.2
        have J1 : (((mem (g2 76 x1) x3)) ∧ ((g2 61 x3) = (1000 + x1))) → Ev w Y_X9_undo 79 [some (vR 55), some (vI x1), some (vI x2), some (vI x3)] [] g2 (rI K) := by
          intro hp
          have H := H.1 hp
          refine e_aload_n (pc := 79) dX9_undo_79 rfl rfl ?_
          refine e_getR (q := 55) (ci := 9) (k := 5) (y := 60) (C := RX9) (T := TX9) (N := 52) (pc := 80) dX9_undo_80 rfl rfl ev_in9 rfl ul_4_187 ⟨rfl, rfl⟩ rfl ?_
          refine e_iload_n (pc := 83) dX9_undo_83 rfl rfl ?_
          refine e_aload_n (pc := 84) dX9_undo_84 rfl rfl ?_
          refine e_getR (q := 55) (ci := 9) (k := 31) (y := 77) (C := RX9) (T := TX9) (N := 52) (pc := 85) dX9_undo_85 rfl rfl ev_in9 rfl ul_4_213 ⟨rfl, rfl⟩ rfl ?_
          refine e_iload_n (pc := 88) dX9_undo_88 rfl rfl ?_
          refine e_iald (q := 77) (x := (g2 77 x1)) (pc := 89) dX9_undo_89 rfl H.1 rfl ?_
          have H := H.2
          refine e_iconst (pc := 90) dX9_undo_90 ⟨by decide, by decide⟩ ?_
          refine e_iload_n (pc := 91) dX9_undo_91 rfl rfl ?_
          refine e_imul (pc := 92) dX9_undo_92 H.1 ?_
          have H := H.2
          refine e_ishr (pc := 93) dX9_undo_93 ?_
          refine e_iconst (pc := 94) dX9_undo_94 ⟨by decide, by decide⟩ ?_
          refine e_iand (pc := 95) dX9_undo_95 ?_
          refine e_iast (q := 60) (pc := 96) dX9_undo_96 rfl H.1 ?_
          have H := H.2
          refine e_aload_n (pc := 97) dX9_undo_97 rfl rfl ?_
          refine e_getR (q := 55) (ci := 9) (k := 6) (y := 61) (C := RX9) (T := TX9) (N := 52) (pc := 98) dX9_undo_98 rfl rfl ev_in9 rfl ul_4_188 ⟨rfl, rfl⟩ rfl ?_
          refine e_iload_n (pc := 101) dX9_undo_101 rfl rfl ?_
          refine e_sipush (pc := 102) dX9_undo_102 ⟨by decide, by decide⟩ (by decide) ?_
          refine e_iload_n (pc := 105) dX9_undo_105 rfl rfl ?_
          refine e_iadd (pc := 106) dX9_undo_106 H.1 ?_
          have H := H.2
          refine e_iast (q := 61) (pc := 107) dX9_undo_107 rfl H.1 ?_
          have H := H.2
          refine e_iload_n (pc := 108) dX9_undo_108 rfl rfl ?_
          refine e_iconst (pc := 109) dX9_undo_109 ⟨by decide, by decide⟩ ?_
          refine e_iload_n (pc := 110) dX9_undo_110 rfl rfl ?_
          refine e_ishl (pc := 111) dX9_undo_111 ?_
          refine e_ior (pc := 112) dX9_undo_112 ?_
          refine e_istore_n (lv' := [some (vR 55), some (vI x1), some (vI (ior x2 (ishl 1 x3))), some (vI x3)]) (pc := 113) dX9_undo_113 rfl rfl rfl ?_
          refine e_iinc (lv' := [some (vR 55), some (vI x1), some (vI (ior x2 (ishl 1 x3))), some (vI (x3 + 1))]) (pc := 114) dX9_undo_114 rfl H.1 rfl rfl ?_
          have H := H.2
          refine e_goto (pc := 117) (tgt := 44) dX9_undo_117 (by decide) ?_
          obtain ⟨m, hm, H⟩ := H
          exact ih2 m hm _ _ _ _ H
        have J2 : ¬ (((mem (g2 76 x1) x3)) ∧ ((g2 61 x3) = (1000 + x1))) → Ev w Y_X9_undo 114 [some (vR 55), some (vI x1), some (vI x2), some (vI x3)] [] g2 (rI K) := by
          intro hp
          have H := H.2 hp
          refine e_iinc (lv' := [some (vR 55), some (vI x1), some (vI x2), some (vI (x3 + 1))]) (pc := 114) dX9_undo_114 rfl H.1 rfl rfl ?_
          have H := H.2
          refine e_goto (pc := 117) (tgt := 44) dX9_undo_117 (by decide) ?_
          obtain ⟨m, hm, H⟩ := H
          exact ih2 m hm _ _ _ _ H
        refine e_ifb_eq (pc := 62) (tgt := 114) dX9_undo_62 (by decide) (fun c2 => ?_) (fun c2 => ?_)
        · have Ho := Ho.1 c2
          exact J2 (fun z => c2 z.1)
        · have Ho := Ho.2 c2
          refine e_aload_n (pc := 65) dX9_undo_65 rfl rfl ?_
          refine e_getR (q := 55) (ci := 9) (k := 6) (y := 61) (C := RX9) (T := TX9) (N := 52) (pc := 66) dX9_undo_66 rfl rfl ev_in9 rfl ul_4_188 ⟨rfl, rfl⟩ rfl ?_
          refine e_iload_n (pc := 69) dX9_undo_69 rfl rfl ?_
          refine e_iald (q := 61) (x := (g2 61 x3)) (pc := 70) dX9_undo_70 rfl Ho.1 rfl ?_
          have Ho := Ho.2
          refine e_sipush (pc := 71) dX9_undo_71 ⟨by decide, by decide⟩ (by decide) ?_
          refine e_iload_n (pc := 74) dX9_undo_74 rfl rfl ?_
          refine e_iadd (pc := 75) dX9_undo_75 Ho.1 ?_
          have Ho := Ho.2
          refine e_icmp_ne (pc := 76) (tgt := 114) dX9_undo_76 (by decide) (fun c3 => ?_) (fun c3 => ?_)
          · exact J2 (fun z => c3 z.2)
          · exact J1 ⟨c2, c3⟩
  have L1 : ∀ (n1 : Nat) (x1 : Int) (g1 : HP), I1 n1 x1 g1 → Ev w Y_X9_undo 7 [some (vR 55), some (vI x1), none, none] [] g1 (rI K) := by
    intro n1
    induction n1 using Nat.strongRecOn with
    | ind n1 ih1 =>
      intro x1 g1 H
      have H := H1 n1 x1 g1 H
      refine e_iload_n (pc := 7) dX9_undo_7 rfl rfl ?_
      have Ho := H.1
      have H := H.2
      have J1 : ((x1 < 0) ∨ ((g1 78 x1) = 0)) → Ev w Y_X9_undo 26 [some (vR 55), some (vI x1), none, none] [] g1 (rI K) := by
        intro hp
        have H := H.1 hp
        refine e_iload_n (pc := 26) dX9_undo_26 rfl rfl ?_
        refine e_if_ge (pc := 27) (tgt := 33) dX9_undo_27 (by decide) (fun c4 => ?_) (fun c4 => ?_)
        · have H := H.1 c4
          refine e_aload_n (pc := 33) dX9_undo_33 rfl rfl ?_
          refine e_getR (q := 55) (ci := 9) (k := 32) (y := 78) (C := RX9) (T := TX9) (N := 52) (pc := 34) dX9_undo_34 rfl rfl ev_in9 rfl ul_4_214 ⟨rfl, rfl⟩ rfl ?_
          refine e_iload_n (pc := 37) dX9_undo_37 rfl rfl ?_
          refine e_iconst (pc := 38) dX9_undo_38 ⟨by decide, by decide⟩ ?_
          refine e_zast (q := 78) (pc := 39) dX9_undo_39 rfl H.1 (Or.inr rfl) ?_
          have H := H.2
          refine e_iconst (pc := 40) dX9_undo_40 ⟨by decide, by decide⟩ ?_
          refine e_istore_n (lv' := [some (vR 55), some (vI x1), some (vI 0), none]) (pc := 41) dX9_undo_41 rfl rfl rfl ?_
          refine e_iconst (pc := 42) dX9_undo_42 ⟨by decide, by decide⟩ ?_
          refine e_istore_n (lv' := [some (vR 55), some (vI x1), some (vI 0), some (vI 0)]) (pc := 43) dX9_undo_43 rfl rfl rfl ?_
          obtain ⟨m, H⟩ := H
          exact L2 m _ _ _ _ H
        · have H := H.2 c4
          refine e_bipush (pc := 30) dX9_undo_30 ⟨by decide, by decide⟩ (by decide) ?_
          exact e_ret (pc := 32) (v := some (vI (-2))) dX9_undo_32 rfl trivial ⟨_, rfl, H⟩
      have J2 : ¬ ((x1 < 0) ∨ ((g1 78 x1) = 0)) → Ev w Y_X9_undo 20 [some (vR 55), some (vI x1), none, none] [] g1 (rI K) := by
        intro hp
        have H := H.2 hp
        refine e_iinc (lv' := [some (vR 55), some (vI (x1 + (-1))), none, none]) (pc := 20) dX9_undo_20 rfl H.1 rfl rfl ?_
        have H := H.2
        refine e_goto (pc := 23) (tgt := 7) dX9_undo_23 (by decide) ?_
        obtain ⟨m, hm, H⟩ := H
        exact ih1 m hm _ _ H
      refine e_if_lt (pc := 8) (tgt := 26) dX9_undo_8 (by decide) (fun c5 => ?_) (fun c5 => ?_)
      · have Ho := Ho.1 c5
        exact J1 (Or.inl c5)
      · have Ho := Ho.2 c5
        refine e_aload_n (pc := 11) dX9_undo_11 rfl rfl ?_
        refine e_getR (q := 55) (ci := 9) (k := 32) (y := 78) (C := RX9) (T := TX9) (N := 52) (pc := 12) dX9_undo_12 rfl rfl ev_in9 rfl ul_4_214 ⟨rfl, rfl⟩ rfl ?_
        refine e_iload_n (pc := 15) dX9_undo_15 rfl rfl ?_
        refine e_zald (q := 78) (x := (g1 78 x1)) (pc := 16) dX9_undo_16 rfl Ho.1 rfl ?_
        have Ho := Ho.2
        refine e_if_eq (pc := 17) (tgt := 26) dX9_undo_17 (by decide) (fun c6 => ?_) (fun c6 => ?_)
        · exact J1 (Or.inr c6)
        · exact J2 (fun z => z.elim c5 c6)
  refine e_aload_n (pc := 0) dX9_undo_0 rfl rfl ?_
  refine e_getI (q := 55) (ci := 9) (k := 29) (kz := 29) (C := RX9) (T := TX9) (N := 52) (x := (h 55 29)) (pc := 1) dX9_undo_1 rfl rfl rfl ev_in9 rfl ul_4_211 ⟨rfl, by decide⟩ rfl ?_
  refine e_iconst (pc := 4) dX9_undo_4 ⟨by decide, by decide⟩ ?_
  refine e_isub (pc := 5) dX9_undo_5 H.1 ?_
  have H := H.2
  refine e_istore_n (lv' := [some (vR 55), some (vI ((h 55 29) - 1)), none, none]) (pc := 6) dX9_undo_6 rfl rfl rfl ?_
  obtain ⟨m, H⟩ := H
  exact L1 m _ _ H
set_option maxRecDepth 100000 in
set_option maxHeartbeats 4000000 in
theorem c_X9_undo (w : WD)  (h : HP) (K : Int → HP → Prop)  (H : S_X9_undo  h K) : Ev w Y_X9_undo 0 [some (vR 55), none, none, none] [] h (rI K) := by
  obtain ⟨⟨hH, h29, hO⟩, HN, HK⟩ := H
  have h10 := hH.1
  refine v_X9_undo w h K (fun n x1 g => g = h ∧ ∃ k : Nat, x1 = (k : Int) - 1 ∧ k = n ∧ (k : Int) ≤ h 55 29 ∧ lnb (h 78) (h 55 29).toNat = lnb (h 78) k)
    (fun n x1 x2 x3 g => x1 = lnb (h 78) (h 55 29).toNat ∧ (0 ≤ x1 ∧ x1 < h 55 29) ∧ (0 ≤ x3 ∧ x3 ≤ h 55 0) ∧ n = (10 - x3).toNat ∧ x2 = bset (ubM h x1) x3.toNat ∧ (∀ q, q ≠ 60 → q ≠ 61 → q ≠ 78 → g q = h q) ∧ g 78 = us (h 78) x1 1 ∧ (∀ t : Int, g 60 t = cif (t < x3 ∧ ubM h x1 t) (dgt (h 77 x1) t) (h 60 t)) ∧ ∀ t : Int, g 61 t = cif (t < x3 ∧ ubM h x1 t) (3000 + x1) (h 61 t))
    ⟨⟨by omega, by omega⟩, (h 55 29).toNat, rfl, (h 55 29).toNat, by omega, rfl, by omega, rfl⟩ ?_ ?_
  · rintro n x1 g ⟨rfl, k, rfl, rfl, hk, he⟩
    refine ⟨⟨fun _ => trivial, fun _ => ⟨by omega, trivial⟩⟩, fun z => ⟨fun z0 => ⟨by omega, 10, ?_, by omega, by omega, rfl, rfl, fun q _ _ b => sth_ne b, sth_eq, fun t => ?_, fun t => ?_⟩, fun z0 => HN ?_⟩, fun z => ⟨⟨by omega, by omega⟩, k - 1, by omega, rfl, k - 1, by omega, rfl, by omega, ?_⟩⟩
    · rw [he]
      obtain ⟨j, rfl⟩ : ∃ j, k = j + 1 := ⟨k - 1, by omega⟩
      rw [show ((j + 1 : Nat) : Int) - 1 = (j : Int) by omega] at z ⊢
      simp only [lnb]
      rw [if_pos (by rcases z with z | z; omega; exact z)]
    · rw [sth_ne (by decide)]
      by_cases c : 0 ≤ t
      · rw [cif_f (by omega)]
      · rw [cif_f (fun y => c y.2.1.1)]
    · rw [sth_ne (by decide)]
      by_cases c : 0 ≤ t
      · rw [cif_f (by omega)]
      · rw [cif_f (fun y => c y.2.1.1)]
    · rw [he, show k = 0 by omega]; show (-1 : Int) < 0; decide
    · rw [he]
      obtain ⟨j, rfl⟩ : ∃ j, k = j + 1 := ⟨k - 1, by omega⟩
      rw [show ((j + 1 : Nat) : Int) - 1 = (j : Int) by omega] at z
      simp only [lnb, Nat.add_sub_cancel]
      rw [if_neg (fun y => z (Or.inr y))]
  · rintro n a x2 x3 g ⟨hae, ha, h0, rfl, rfl, hg, h78, h60, h61⟩
    have g55 : g 55 = h 55 := hg 55 (by decide) (by decide) (by decide)
    have g76 : g 76 = h 76 := hg 76 (by decide) (by decide) (by decide)
    have g77 : g 77 = h 77 := hg 77 (by decide) (by decide) (by decide)
    have ho := hO a ha.1 ha.2
    rw [g55, g76, g77, h61 x3, cif_f (show ¬ (x3 < x3 ∧ ubM h a x3) from fun y => by have := y.1; omega)]
    refine ⟨fun c => ?_, fun c => ⟨by omega, ⟨⟨ho.1.1, by omega⟩, by omega, by omega⟩, ⟨fun _ => trivial, fun _ => ⟨by omega, ⟨by omega, by omega⟩, trivial⟩⟩, fun z => ?_, fun z => ?_⟩⟩
    · have e : ∀ t : Int, (t < x3 ∧ ubM h a t) ↔ ubM h a t := fun t => ⟨fun y => y.2, fun y => ⟨by have := y.1; omega, y⟩⟩
      have eb : bset (ubM h a) x3.toNat = bset (ubM h a) 10 := (bset_past (by omega) (fun i i0 i1 z => by have := z.1; omega)).symm
      rw [eb]
      exact HK a hae ha.1 ha.2 g hg h78 (fun t => by rw [h60 t, cif_c (e t)]) (fun t => by rw [h61 t, cif_c (e t)])
    · have hu : ubM h a x3 := ⟨by omega, z⟩
      rw [dgt_get ho.2 h0.1 (by omega)]
      refine ⟨by omega, ⟨by omega, by omega⟩, by omega, ⟨by omega, by omega⟩, by omega, ⟨by omega, by omega⟩, (10 - (x3 + 1)).toNat, by omega, hae, ha, by omega, rfl, bset_next h0.1 (by omega) hu, fun q b1 b2 b3 => by rw [sth_ne b2, sth_ne b1]; exact hg q b1 b2 b3, by rw [sth_ne (by decide), sth_ne (by decide)]; exact h78, fun t => ?_, fun t => ?_⟩
      · rw [sth_ne (by decide), sth_eq]
        by_cases e : t = x3
        · subst e; rw [us_s, cif_t ⟨by omega, hu⟩]
        · rw [us_n e, h60 t]
          exact cif_c ⟨fun y => ⟨by omega, y.2⟩, fun y => ⟨by omega, y.2⟩⟩
      · rw [sth_eq]
        by_cases e : t = x3
        · subst e; rw [us_s, cif_t ⟨by omega, hu⟩]
        · rw [us_n e, sth_ne (by decide), h61 t]
          exact cif_c ⟨fun y => ⟨by omega, y.2⟩, fun y => ⟨by omega, y.2⟩⟩
    · have hu : ¬ ubM h a x3 := fun y => z y.2
      refine ⟨⟨by omega, by omega⟩, (10 - (x3 + 1)).toNat, by omega, hae, ha, by omega, rfl, bset_skip h0.1 hu, hg, h78, fun t => ?_, fun t => ?_⟩
      · rw [h60 t]
        by_cases e : t = x3
        · subst e; rw [cif_f (fun y => hu y.2), cif_f (fun y => hu y.2)]
        · exact cif_c ⟨fun y => ⟨by omega, y.2⟩, fun y => ⟨by omega, y.2⟩⟩
      · rw [h61 t]
        by_cases e : t = x3
        · subst e; rw [cif_f (fun y => hu y.2), cif_f (fun y => hu y.2)]
        · exact cif_c ⟨fun y => ⟨by omega, y.2⟩, fun y => ⟨by omega, y.2⟩⟩
def S_X9_restore (dp : Int) (h : HP) (K : HP → Prop) : Prop := (0 ≤ dp ∧ dp < 8) ∧ ∀ h' : HP, (∀ q, q ≠ 60 → h' q = h q) → (∀ t : Int, 0 ≤ t → t < 10 → h' 60 t = h 89 (10 * dp + t)) → (∀ t : Int, t < 0 ∨ 10 ≤ t → h' 60 t = h 60 t) → K h'
set_option maxRecDepth 100000 in
set_option maxHeartbeats 4000000 in
theorem v_X9_restore (w : WD) (dp : Int) (h : HP) (K : HP → Prop) 
    (I1 : Nat → Int → HP → Prop)
    (H : (∃ m : Nat, I1 m 0 h))
    (H1 : ∀ (n1 : Nat) (x2 : Int) (g1 : HP), I1 n1 x2 g1 → ((10 ≤ x2 → K g1) ∧ (¬ 10 ≤ x2 → ((iR (10 * dp)) ∧ ((iR ((10 * dp) + x2)) ∧ ((0 ≤ ((10 * dp) + x2) ∧ ((10 * dp) + x2) < 80) ∧ ((0 ≤ x2 ∧ x2 < 10) ∧ ((iR (x2 + 1)) ∧ (∃ m : Nat, m < n1 ∧ I1 m (x2 + 1) (sth g1 60 x2 (g1 89 ((10 * dp) + x2)))))))))))) :
    Ev w Y_X9_restore 0 [some (vR 55), some (vI dp), none] [] h (rV K) := by
  have L1 : ∀ (n1 : Nat) (x2 : Int) (g1 : HP), I1 n1 x2 g1 → Ev w Y_X9_restore 2 [some (vR 55), some (vI dp), some (vI x2)] [] g1 (rV K) := by
    intro n1
    induction n1 using Nat.strongRecOn with
    | ind n1 ih1 =>
      intro x2 g1 H
      have H := H1 n1 x2 g1 H
      refine e_iload_n (pc := 2) dX9_restore_2 rfl rfl ?_
      refine e_bipush (pc := 3) dX9_restore_3 ⟨by decide, by decide⟩ (by decide) ?_
      refine e_icmp_ge (pc := 5) (tgt := 31) dX9_restore_5 (by decide) (fun c1 => ?_) (fun c1 => ?_)
      · have H := H.1 c1
        exact e_ret (pc := 31) (v := none) dX9_restore_31 rfl trivial ⟨rfl, H⟩
      · have H := H.2 c1
        refine e_aload_n (pc := 8) dX9_restore_8 rfl rfl ?_
        refine e_getR (q := 55) (ci := 9) (k := 5) (y := 60) (C := RX9) (T := TX9) (N := 52) (pc := 9) dX9_restore_9 rfl rfl ev_in9 rfl ul_4_187 ⟨rfl, rfl⟩ rfl ?_
        refine e_iload_n (pc := 12) dX9_restore_12 rfl rfl ?_
        refine e_aload_n (pc := 13) dX9_restore_13 rfl rfl ?_
        refine e_getR (q := 55) (ci := 9) (k := 51) (y := 89) (C := RX9) (T := TX9) (N := 52) (pc := 14) dX9_restore_14 rfl rfl ev_in9 rfl ul_4_233 ⟨rfl, rfl⟩ rfl ?_
        refine e_bipush (pc := 17) dX9_restore_17 ⟨by decide, by decide⟩ (by decide) ?_
        refine e_iload_n (pc := 19) dX9_restore_19 rfl rfl ?_
        refine e_imul (pc := 20) dX9_restore_20 H.1 ?_
        have H := H.2
        refine e_iload_n (pc := 21) dX9_restore_21 rfl rfl ?_
        refine e_iadd (pc := 22) dX9_restore_22 H.1 ?_
        have H := H.2
        refine e_iald (q := 89) (x := (g1 89 ((10 * dp) + x2))) (pc := 23) dX9_restore_23 rfl H.1 rfl ?_
        have H := H.2
        refine e_iast (q := 60) (pc := 24) dX9_restore_24 rfl H.1 ?_
        have H := H.2
        refine e_iinc (lv' := [some (vR 55), some (vI dp), some (vI (x2 + 1))]) (pc := 25) dX9_restore_25 rfl H.1 rfl rfl ?_
        have H := H.2
        refine e_goto (pc := 28) (tgt := 2) dX9_restore_28 (by decide) ?_
        obtain ⟨m, hm, H⟩ := H
        exact ih1 m hm _ _ H
  refine e_iconst (pc := 0) dX9_restore_0 ⟨by decide, by decide⟩ ?_
  refine e_istore_n (lv' := [some (vR 55), some (vI dp), some (vI 0)]) (pc := 1) dX9_restore_1 rfl rfl rfl ?_
  obtain ⟨m, H⟩ := H
  exact L1 m _ _ H
set_option maxRecDepth 100000 in
set_option maxHeartbeats 4000000 in
theorem c_X9_restore (w : WD) (dp : Int) (h : HP) (K : HP → Prop)  (H : S_X9_restore dp h K) : Ev w Y_X9_restore 0 [some (vR 55), some (vI dp), none] [] h (rV K) := by
  obtain ⟨hd, HK⟩ := H
  refine v_X9_restore w dp h K (fun n x2 g => (0 ≤ x2 ∧ x2 ≤ 10) ∧ n = (10 - x2).toNat ∧ (∀ q, q ≠ 60 → g q = h q) ∧ (∀ t : Int, 0 ≤ t → t < x2 → g 60 t = h 89 (10 * dp + t)) ∧ ∀ t : Int, t < 0 ∨ x2 ≤ t → g 60 t = h 60 t) ⟨10, by omega, rfl, fun _ _ => rfl, fun t a b => by omega, fun _ _ => rfl⟩ ?_
  rintro n x2 g ⟨h0, rfl, hg, hl, hr⟩
  refine ⟨fun c => HK g hg (fun t a b => hl t a (by omega)) (fun t a => hr t (by omega)), fun c => ⟨⟨by omega, by omega⟩, ⟨by omega, by omega⟩, by omega, by omega, ⟨by omega, by omega⟩, (10 - (x2 + 1)).toNat, by omega, by omega, rfl, fun q a => by rw [sth_ne a]; exact hg q a, fun t a b => ?_, fun t a => by rw [sth_eq, us_n (by omega)]; exact hr t (by omega)⟩⟩
  rw [sth_eq, hg 89 (by decide)]
  by_cases e : t = x2
  · rw [e, us_s]
  · rw [us_n e]; exact hl t a (by omega)
def S_X8_barred  (h : HP) (K : Int → HP → Prop) : Prop :=
  ((HOK h ∧ fOK h ∧ inS (h 1 8)) ∧ ((0 ≤ (bset (fun k => k < h 2 6 ∧ cBar h k (dgt (h 1 8))) 40) ∧ (bset (fun k => k < h 2 6 ∧ cBar h k (dgt (h 1 8))) 40) < 1099511627776) ∧ K (cnt (mem (bset (fun k => k < h 2 6 ∧ cBar h k (dgt (h 1 8))) 40)) 40) h))
set_option maxRecDepth 100000 in
set_option maxHeartbeats 4000000 in
theorem v_X8_barred (w : WD)  (h : HP) (K : Int → HP → Prop) 
    (H : ((HOK h ∧ fOK h ∧ inS (h 1 8)) ∧ ((0 ≤ (bset (fun k => k < h 2 6 ∧ cBar h k (dgt (h 1 8))) 40) ∧ (bset (fun k => k < h 2 6 ∧ cBar h k (dgt (h 1 8))) 40) < 1099511627776) ∧ K (cnt (mem (bset (fun k => k < h 2 6 ∧ cBar h k (dgt (h 1 8))) 40)) 40) h))) :
    Ev w Y_X8_barred 0 [some (vR 0)] [] h (rI K) := by
  refine e_aload_n (pc := 0) dX8_barred_0 rfl rfl ?_
  refine e_getR (q := 0) (ci := 8) (k := 1) (y := 2) (C := RX8) (T := TX8) (N := 9) (pc := 1) dX8_barred_1 rfl rfl ev_in8 rfl ul_2_99 ⟨rfl, rfl⟩ rfl ?_
  refine e_aload_n (pc := 4) dX8_barred_4 rfl rfl ?_
  refine e_getR (q := 0) (ci := 8) (k := 0) (y := 1) (C := RX8) (T := TX8) (N := 9) (pc := 5) dX8_barred_5 rfl rfl ev_in8 rfl ul_2_98 ⟨rfl, rfl⟩ rfl ?_
  refine e_getI (q := 1) (ci := 4) (k := 8) (kz := 8) (C := RX4) (T := TX4) (N := 10) (x := (h 1 8)) (pc := 8) dX8_barred_8 rfl rfl rfl ev_in4 rfl ul_1_50 ⟨rfl, by decide⟩ rfl ?_
  refine e_invV (pc := 11) (Y' := Y_X5_barring) (as := [vI (h 1 8)]) (st := []) (lv0 := [some (vR 2), some (vI (h 1 8)), none, none, none]) (q := 2) (ci := 5) (T := TX5) (N := 7) dX8_barred_11 m_X5_barring ul_3_22 ⟨ul_3_23, ul_3_24⟩ ⟨rfl, rfl⟩ rfl rfl rfl rfl rfl rfl rfl (c_X5_barring w (h 1 8) h H.1) ?_
  rintro _ hz ⟨_, rfl, rfl, hh⟩
  rw [hh]
  show Ev w Y_X8_barred 14 [some (vR 0)] [vL (bset (fun k => k < h 2 6 ∧ cBar h k (dgt (h 1 8))) 40)] h (rI K)
  have H := H.2
  refine e_invS (pc := 14) (Y' := Y_J13_bitCount_95d88) (as := [vL (bset (fun k => k < h 2 6 ∧ cBar h k (dgt (h 1 8))) 40)]) (st := []) (lv0 := [some (vL (bset (fun k => k < h 2 6 ∧ cBar h k (dgt (h 1 8))) 40)), none]) dX8_barred_14 m_J13_bitCount_95d88 ul_3_31 ul_3_32 ⟨rfl, rfl⟩ rfl rfl rfl rfl rfl (c_J13_bitCount_95d88 w (bset (fun k => k < h 2 6 ∧ cBar h k (dgt (h 1 8))) 40) h H.1) ?_
  rintro _ hz ⟨_, rfl, rfl, hh⟩
  rw [hh]
  show Ev w Y_X8_barred 17 [some (vR 0)] [vI (cnt (mem (bset (fun k => k < h 2 6 ∧ cBar h k (dgt (h 1 8))) 40)) 40)] h (rI K)
  have H := H.2
  exact e_ret (pc := 17) (v := some (vI (cnt (mem (bset (fun k => k < h 2 6 ∧ cBar h k (dgt (h 1 8))) 40)) 40))) dX8_barred_17 rfl trivial ⟨_, rfl, H⟩
theorem c_X8_barred (w : WD)  (h : HP) (K : Int → HP → Prop)  (H : S_X8_barred  h K) : Ev w Y_X8_barred 0 [some (vR 0)] [] h (rI K) := v_X8_barred w  h K  H
def S_X8_undo  (h : HP) (K : Int → HP → Prop) : Prop :=
  ((0 ≤ h 5 3 ∧ h 5 3 ≤ 200) ∧ ((0 ≤ (lnb (h 38) (h 5 3).toNat) → (S_X8_takeBack (lnb (h 38) (h 5 3).toNat) h (fun r21 h21 => K r21 h21))) ∧ (¬ 0 ≤ (lnb (h 38) (h 5 3).toNat) → K (-2) h)))
set_option maxRecDepth 100000 in
set_option maxHeartbeats 4000000 in
theorem v_X8_undo (w : WD)  (h : HP) (K : Int → HP → Prop) 
    (H : ((0 ≤ h 5 3 ∧ h 5 3 ≤ 200) ∧ ((0 ≤ (lnb (h 38) (h 5 3).toNat) → (S_X8_takeBack (lnb (h 38) (h 5 3).toNat) h (fun r21 h21 => K r21 h21))) ∧ (¬ 0 ≤ (lnb (h 38) (h 5 3).toNat) → K (-2) h)))) :
    Ev w Y_X8_undo 0 [some (vR 0), none] [] h (rI K) := by
  refine e_aload_n (pc := 0) dX8_undo_0 rfl rfl ?_
  refine e_getR (q := 0) (ci := 8) (k := 4) (y := 5) (C := RX8) (T := TX8) (N := 9) (pc := 1) dX8_undo_1 rfl rfl ev_in8 rfl ul_2_102 ⟨rfl, rfl⟩ rfl ?_
  refine e_invV (pc := 4) (Y' := Y_X0_lastNotBack) (as := []) (st := []) (lv0 := [some (vR 5), none]) (q := 5) (ci := 0) (T := TX0) (N := 5) dX8_undo_4 m_X0_lastNotBack ul_4_36 ⟨ul_4_37, ul_4_38⟩ ⟨rfl, rfl⟩ rfl rfl rfl rfl rfl rfl rfl (c_X0_lastNotBack w h H.1) ?_
  rintro _ hz ⟨_, rfl, rfl, hh⟩
  rw [hh]
  show Ev w Y_X8_undo 7 [some (vR 0), none] [vI (lnb (h 38) (h 5 3).toNat)] h (rI K)
  have H := H.2
  refine e_istore_n (lv' := [some (vR 0), some (vI (lnb (h 38) (h 5 3).toNat))]) (pc := 7) dX8_undo_7 rfl rfl rfl ?_
  refine e_iload_n (pc := 8) dX8_undo_8 rfl rfl ?_
  refine e_if_ge (pc := 9) (tgt := 17) dX8_undo_9 (by decide) (fun c1 => ?_) (fun c1 => ?_)
  · have H := H.1 c1
    refine e_aload_n (pc := 17) dX8_undo_17 rfl rfl ?_
    refine e_iload_n (pc := 18) dX8_undo_18 rfl rfl ?_
    refine e_invV (pc := 19) (Y' := Y_X8_takeBack) (as := [vI (lnb (h 38) (h 5 3).toNat)]) (st := []) (lv0 := [some (vR 0), some (vI (lnb (h 38) (h 5 3).toNat)), none, none]) (q := 0) (ci := 8) (T := TX8) (N := 9) dX8_undo_19 m_X8_takeBack ul_4_40 ⟨ul_4_42, us_X8_takeBack⟩ ⟨rfl, rfl⟩ rfl rfl rfl rfl rfl rfl rfl (c_X8_takeBack w (lnb (h 38) (h 5 3).toNat) h _ H) ?_
    rintro _ h21 ⟨r21, rfl, H⟩
    show Ev w Y_X8_undo 22 [some (vR 0), some (vI (lnb (h 38) (h 5 3).toNat))] [vI r21] h21 (rI K)
    exact e_ret (pc := 22) (v := some (vI r21)) dX8_undo_22 rfl trivial ⟨_, rfl, H⟩
  · have H := H.2 c1
    refine e_bipush (pc := 12) dX8_undo_12 ⟨by decide, by decide⟩ (by decide) ?_
    refine e_goto (pc := 14) (tgt := 22) dX8_undo_14 (by decide) ?_
    exact e_ret (pc := 22) (v := some (vI (-2))) dX8_undo_22 rfl trivial ⟨_, rfl, H⟩
theorem c_X8_undo (w : WD)  (h : HP) (K : Int → HP → Prop)  (H : S_X8_undo  h K) : Ev w Y_X8_undo 0 [some (vR 0), none] [] h (rI K) := v_X8_undo w  h K  H
def S_X8_habits (a1 : Int) (a2 : Int) (a3 : Int) (h : HP) (K : Int → HP → Prop) : Prop :=
  (((((1 ≤ a1 ∧ a1 ≤ 14)) ∧ (((1 ≤ a2 ∧ a2 ≤ a1)) ∧ ((-1) ≤ a3))) → ((0 ≤ h 1 9) ∧ (S_X1_gatherDays (h 1 9 / 24) a1 h (fun h21 => ((((¬ a3 = (-1) → (((∀ k : Int, 0 ≤ k → k < 960 → 0 ≤ h21 53 k ∧ h21 53 k < 65536) ∧ 0 ≤ a3) ∧ True)) ∧ (a3 = (-1) → ((∀ k : Int, 0 ≤ k → k < 960 → 0 ≤ h21 53 k ∧ h21 53 k < 65536) ∧ True)))) ∧ K (cif (¬ a3 = (-1)) (nthL ((wkP (fun k => a2 ≤ cnt (mem (h21 53 k)) 16) 960).map tld) a3) ((wkP (fun k => a2 ≤ cnt (mem (h21 53 k)) 16) 960).length : Int)) h21))))) ∧ (¬ (((1 ≤ a1 ∧ a1 ≤ 14)) ∧ (((1 ≤ a2 ∧ a2 ≤ a1)) ∧ ((-1) ≤ a3))) → K (-1) h))
set_option maxRecDepth 100000 in
set_option maxHeartbeats 4000000 in
theorem v_X8_habits (w : WD) (a1 : Int) (a2 : Int) (a3 : Int) (h : HP) (K : Int → HP → Prop) 
    (H : (((((1 ≤ a1 ∧ a1 ≤ 14)) ∧ (((1 ≤ a2 ∧ a2 ≤ a1)) ∧ ((-1) ≤ a3))) → ((0 ≤ h 1 9) ∧ (S_X1_gatherDays (h 1 9 / 24) a1 h (fun h21 => ((((¬ a3 = (-1) → (((∀ k : Int, 0 ≤ k → k < 960 → 0 ≤ h21 53 k ∧ h21 53 k < 65536) ∧ 0 ≤ a3) ∧ True)) ∧ (a3 = (-1) → ((∀ k : Int, 0 ≤ k → k < 960 → 0 ≤ h21 53 k ∧ h21 53 k < 65536) ∧ True)))) ∧ K (cif (¬ a3 = (-1)) (nthL ((wkP (fun k => a2 ≤ cnt (mem (h21 53 k)) 16) 960).map tld) a3) ((wkP (fun k => a2 ≤ cnt (mem (h21 53 k)) 16) 960).length : Int)) h21))))) ∧ (¬ (((1 ≤ a1 ∧ a1 ≤ 14)) ∧ (((1 ≤ a2 ∧ a2 ≤ a1)) ∧ ((-1) ≤ a3))) → K (-1) h))) :
    Ev w Y_X8_habits 0 [some (vR 0), some (vI a1), some (vI a2), some (vI a3)] [] h (rI K) := by
  refine e_iload_n (pc := 0) dX8_habits_0 rfl rfl ?_
  refine e_iconst (pc := 1) dX8_habits_1 ⟨by decide, by decide⟩ ?_
  refine e_bipush (pc := 2) dX8_habits_2 ⟨by decide, by decide⟩ (by decide) ?_
  refine e_invS (pc := 4) (Y' := Y_X8_within) (as := [vI a1, vI 1, vI 14]) (st := []) (lv0 := [some (vI a1), some (vI 1), some (vI 14)]) dX8_habits_4 m_X8_within ul_2_130 ul_2_131 ⟨rfl, rfl⟩ rfl rfl rfl rfl rfl (c_X8_within w a1 1 14 h) ?_
  rintro _ hz ⟨_, rfl, rfl, hh⟩
  rw [hh]
  show Ev w Y_X8_habits 7 [some (vR 0), some (vI a1), some (vI a2), some (vI a3)] [vI (b2i (1 ≤ a1 ∧ a1 ≤ 14))] h (rI K)
  have J1 : (((1 ≤ a1 ∧ a1 ≤ 14)) ∧ (((1 ≤ a2 ∧ a2 ≤ a1)) ∧ ((-1) ≤ a3))) → Ev w Y_X8_habits 26 [some (vR 0), some (vI a1), some (vI a2), some (vI a3)] [] h (rI K) := by
    intro hp
    have H := H.1 hp
    refine e_aload_n (pc := 26) dX8_habits_26 rfl rfl ?_
    refine e_getR (q := 0) (ci := 8) (k := 7) (y := 8) (C := RX8) (T := TX8) (N := 9) (pc := 27) dX8_habits_27 rfl rfl ev_in8 rfl ul_2_105 ⟨rfl, rfl⟩ rfl ?_
    refine e_aload_n (pc := 30) dX8_habits_30 rfl rfl ?_
    refine e_getR (q := 0) (ci := 8) (k := 0) (y := 1) (C := RX8) (T := TX8) (N := 9) (pc := 31) dX8_habits_31 rfl rfl ev_in8 rfl ul_2_98 ⟨rfl, rfl⟩ rfl ?_
    refine e_invV (pc := 34) (Y' := Y_X4_day) (as := []) (st := [vR 8]) (lv0 := [some (vR 1)]) (q := 1) (ci := 4) (T := TX4) (N := 10) dX8_habits_34 m_X4_day ul_3_222 ⟨ul_3_223, ul_3_224⟩ ⟨rfl, rfl⟩ rfl rfl rfl rfl rfl rfl rfl (c_X4_day w h H.1) ?_
    rintro _ hz ⟨_, rfl, rfl, hh⟩
    rw [hh]
    show Ev w Y_X8_habits 37 [some (vR 0), some (vI a1), some (vI a2), some (vI a3)] [vI (h 1 9 / 24), vR 8] h (rI K)
    have H := H.2
    refine e_iload_n (pc := 37) dX8_habits_37 rfl rfl ?_
    refine e_invV (pc := 38) (Y' := Y_X1_gatherDays) (as := [vI (h 1 9 / 24), vI a1]) (st := []) (lv0 := [some (vR 8), some (vI (h 1 9 / 24)), some (vI a1), none, none]) (q := 8) (ci := 1) (T := TX1) (N := 8) dX8_habits_38 m_X1_gatherDays ul_4_131 ⟨ul_4_132, ul_4_133⟩ ⟨rfl, rfl⟩ rfl rfl rfl rfl rfl rfl rfl (c_X1_gatherDays w (h 1 9 / 24) a1 h _ H) ?_
    rintro _ h21 ⟨rfl, H⟩
    show Ev w Y_X8_habits 41 [some (vR 0), some (vI a1), some (vI a2), some (vI a3)] [] h21 (rI K)
    refine e_iload_n (pc := 41) dX8_habits_41 rfl rfl ?_
    refine e_iconst (pc := 42) dX8_habits_42 ⟨by decide, by decide⟩ ?_
    have J : Ev w Y_X8_habits 66 [some (vR 0), some (vI a1), some (vI a2), some (vI a3)] [vI (cif (¬ a3 = (-1)) (nthL ((wkP (fun k => a2 ≤ cnt (mem (h21 53 k)) 16) 960).map tld) a3) ((wkP (fun k => a2 ≤ cnt (mem (h21 53 k)) 16) 960).length : Int))] h21 (rI K) := by
      have H := H.2
      exact e_ret (pc := 66) (v := some (vI (cif (¬ a3 = (-1)) (nthL ((wkP (fun k => a2 ≤ cnt (mem (h21 53 k)) 16) 960).map tld) a3) ((wkP (fun k => a2 ≤ cnt (mem (h21 53 k)) 16) 960).length : Int)))) dX8_habits_66 rfl trivial ⟨_, rfl, H⟩
    have Ho := H.1
    refine e_icmp_ne (pc := 43) (tgt := 57) dX8_habits_43 (by decide) (fun c1 => ?_) (fun c1 => ?_)
    · have Ho := Ho.1 c1
      refine e_aload_n (pc := 57) dX8_habits_57 rfl rfl ?_
      refine e_getR (q := 0) (ci := 8) (k := 7) (y := 8) (C := RX8) (T := TX8) (N := 9) (pc := 58) dX8_habits_58 rfl rfl ev_in8 rfl ul_2_105 ⟨rfl, rfl⟩ rfl ?_
      refine e_iload_n (pc := 61) dX8_habits_61 rfl rfl ?_
      refine e_iload_n (pc := 62) dX8_habits_62 rfl rfl ?_
      refine e_invV (pc := 63) (Y' := Y_X1_habit) (as := [vI a2, vI a3]) (st := []) (lv0 := [some (vR 8), some (vI a2), some (vI a3), none, none]) (q := 8) (ci := 1) (T := TX1) (N := 8) dX8_habits_63 m_X1_habit ul_4_141 ⟨ul_4_142, ul_4_143⟩ ⟨rfl, rfl⟩ rfl rfl rfl rfl rfl rfl rfl (c_X1_habit w a2 a3 h21 Ho.1) ?_
      rintro _ hz ⟨_, rfl, rfl, hh⟩
      rw [hh]
      show Ev w Y_X8_habits 66 [some (vR 0), some (vI a1), some (vI a2), some (vI a3)] [vI (nthL ((wkP (fun k => a2 ≤ cnt (mem (h21 53 k)) 16) 960).map tld) a3)] h21 (rI K)
      have Ho := Ho.2
      exact e_top (cif_t c1) J
    · have Ho := Ho.2 c1
      refine e_aload_n (pc := 46) dX8_habits_46 rfl rfl ?_
      refine e_getR (q := 0) (ci := 8) (k := 7) (y := 8) (C := RX8) (T := TX8) (N := 9) (pc := 47) dX8_habits_47 rfl rfl ev_in8 rfl ul_2_105 ⟨rfl, rfl⟩ rfl ?_
      refine e_iload_n (pc := 50) dX8_habits_50 rfl rfl ?_
      refine e_invV (pc := 51) (Y' := Y_X1_howMany) (as := [vI a2]) (st := []) (lv0 := [some (vR 8), some (vI a2), none, none]) (q := 8) (ci := 1) (T := TX1) (N := 8) dX8_habits_51 m_X1_howMany ul_4_136 ⟨ul_4_137, ul_4_138⟩ ⟨rfl, rfl⟩ rfl rfl rfl rfl rfl rfl rfl (c_X1_howMany w a2 h21 Ho.1) ?_
      rintro _ hz ⟨_, rfl, rfl, hh⟩
      rw [hh]
      show Ev w Y_X8_habits 54 [some (vR 0), some (vI a1), some (vI a2), some (vI a3)] [vI ((wkP (fun k => a2 ≤ cnt (mem (h21 53 k)) 16) 960).length : Int)] h21 (rI K)
      have Ho := Ho.2
      refine e_goto (pc := 54) (tgt := 66) dX8_habits_54 (by decide) ?_
      exact e_top (cif_f (fun z => z c1)) J
  have J2 : ¬ (((1 ≤ a1 ∧ a1 ≤ 14)) ∧ (((1 ≤ a2 ∧ a2 ≤ a1)) ∧ ((-1) ≤ a3))) → Ev w Y_X8_habits 24 [some (vR 0), some (vI a1), some (vI a2), some (vI a3)] [] h (rI K) := by
    intro hp
    have H := H.2 hp
    refine e_iconst (pc := 24) dX8_habits_24 ⟨by decide, by decide⟩ ?_
    exact e_ret (pc := 25) (v := some (vI (-1))) dX8_habits_25 rfl trivial ⟨_, rfl, H⟩
  refine e_ifb_eq (pc := 7) (tgt := 24) dX8_habits_7 (by decide) (fun c2 => ?_) (fun c2 => ?_)
  · exact J2 (fun z => c2 z.1)
  · refine e_iload_n (pc := 10) dX8_habits_10 rfl rfl ?_
    refine e_iconst (pc := 11) dX8_habits_11 ⟨by decide, by decide⟩ ?_
    refine e_iload_n (pc := 12) dX8_habits_12 rfl rfl ?_
    refine e_invS (pc := 13) (Y' := Y_X8_within) (as := [vI a2, vI 1, vI a1]) (st := []) (lv0 := [some (vI a2), some (vI 1), some (vI a1)]) dX8_habits_13 m_X8_within ul_2_130 ul_2_131 ⟨rfl, rfl⟩ rfl rfl rfl rfl rfl (c_X8_within w a2 1 a1 h) ?_
    rintro _ hz ⟨_, rfl, rfl, hh⟩
    rw [hh]
    show Ev w Y_X8_habits 16 [some (vR 0), some (vI a1), some (vI a2), some (vI a3)] [vI (b2i (1 ≤ a2 ∧ a2 ≤ a1))] h (rI K)
    refine e_ifb_eq (pc := 16) (tgt := 24) dX8_habits_16 (by decide) (fun c3 => ?_) (fun c3 => ?_)
    · exact J2 (fun z => (fun z => c3 z.1) z.2)
    · refine e_iload_n (pc := 19) dX8_habits_19 rfl rfl ?_
      refine e_iconst (pc := 20) dX8_habits_20 ⟨by decide, by decide⟩ ?_
      refine e_icmp_ge (pc := 21) (tgt := 26) dX8_habits_21 (by decide) (fun c4 => ?_) (fun c4 => ?_)
      · exact J1 ⟨c2, ⟨c3, c4⟩⟩
      · exact J2 (fun z => (fun z => c4 z.2) z.2)
theorem c_X8_habits (w : WD) (a1 : Int) (a2 : Int) (a3 : Int) (h : HP) (K : Int → HP → Prop)  (H : S_X8_habits a1 a2 a3 h K) : Ev w Y_X8_habits 0 [some (vR 0), some (vI a1), some (vI a2), some (vI a3)] [] h (rI K) := v_X8_habits w a1 a2 a3 h K  H
def S_X8_forget (a1 : Int) (h : HP) (K : Int → HP → Prop) : Prop :=
  ((¬ (0 ≤ a1 ∧ a1 ≤ 5) → K (-1) h) ∧ ((0 ≤ a1 ∧ a1 ≤ 5) → (S_X1_drop a1 h (fun r21 h21 => K r21 h21))))
set_option maxRecDepth 100000 in
set_option maxHeartbeats 4000000 in
theorem v_X8_forget (w : WD) (a1 : Int) (h : HP) (K : Int → HP → Prop) 
    (H : ((¬ (0 ≤ a1 ∧ a1 ≤ 5) → K (-1) h) ∧ ((0 ≤ a1 ∧ a1 ≤ 5) → (S_X1_drop a1 h (fun r21 h21 => K r21 h21))))) :
    Ev w Y_X8_forget 0 [some (vR 0), some (vI a1)] [] h (rI K) := by
  refine e_iload_n (pc := 0) dX8_forget_0 rfl rfl ?_
  refine e_iconst (pc := 1) dX8_forget_1 ⟨by decide, by decide⟩ ?_
  refine e_iconst (pc := 2) dX8_forget_2 ⟨by decide, by decide⟩ ?_
  refine e_invS (pc := 3) (Y' := Y_X8_within) (as := [vI a1, vI 0, vI 5]) (st := []) (lv0 := [some (vI a1), some (vI 0), some (vI 5)]) dX8_forget_3 m_X8_within ul_2_130 ul_2_131 ⟨rfl, rfl⟩ rfl rfl rfl rfl rfl (c_X8_within w a1 0 5 h) ?_
  rintro _ hz ⟨_, rfl, rfl, hh⟩
  rw [hh]
  show Ev w Y_X8_forget 6 [some (vR 0), some (vI a1)] [vI (b2i (0 ≤ a1 ∧ a1 ≤ 5))] h (rI K)
  refine e_ifb_eq (pc := 6) (tgt := 20) dX8_forget_6 (by decide) (fun c1 => ?_) (fun c1 => ?_)
  · have H := H.1 c1
    refine e_iconst (pc := 20) dX8_forget_20 ⟨by decide, by decide⟩ ?_
    exact e_ret (pc := 21) (v := some (vI (-1))) dX8_forget_21 rfl trivial ⟨_, rfl, H⟩
  · have H := H.2 c1
    refine e_aload_n (pc := 9) dX8_forget_9 rfl rfl ?_
    refine e_getR (q := 0) (ci := 8) (k := 7) (y := 8) (C := RX8) (T := TX8) (N := 9) (pc := 10) dX8_forget_10 rfl rfl ev_in8 rfl ul_2_105 ⟨rfl, rfl⟩ rfl ?_
    refine e_iload_n (pc := 13) dX8_forget_13 rfl rfl ?_
    refine e_invV (pc := 14) (Y' := Y_X1_drop) (as := [vI a1]) (st := []) (lv0 := [some (vR 8), some (vI a1), none, none]) (q := 8) (ci := 1) (T := TX1) (N := 8) dX8_forget_14 m_X1_drop ul_4_156 ⟨ul_4_157, ul_4_158⟩ ⟨rfl, rfl⟩ rfl rfl rfl rfl rfl rfl rfl (c_X1_drop w a1 h _ H) ?_
    rintro _ h21 ⟨r21, rfl, H⟩
    show Ev w Y_X8_forget 17 [some (vR 0), some (vI a1)] [vI r21] h21 (rI K)
    refine e_goto (pc := 17) (tgt := 21) dX8_forget_17 (by decide) ?_
    exact e_ret (pc := 21) (v := some (vI r21)) dX8_forget_21 rfl trivial ⟨_, rfl, H⟩
theorem c_X8_forget (w : WD) (a1 : Int) (h : HP) (K : Int → HP → Prop)  (H : S_X8_forget a1 h K) : Ev w Y_X8_forget 0 [some (vR 0), some (vI a1)] [] h (rI K) := v_X8_forget w a1 h K  H
def S_X8_cost (a1 : Int) (h : HP) (K : Int → HP → Prop) : Prop :=
  ((¬ a1 = (-1) → ((((¬ (0 ≤ a1 ∧ a1 < h 1 7) → True) ∧ ((0 ≤ a1 ∧ a1 < h 1 7) → ((0 ≤ a1 ∧ a1 < 10) ∧ True)))) ∧ K (cif (¬ (0 ≤ a1 ∧ a1 < h 1 7)) (-1) (h 12 a1)) h)) ∧ (a1 = (-1) → (((0 ≤ h 1 7 ∧ h 1 7 ≤ 10) ∧ ∀ i : Int, 0 ≤ i → i < 10 → 0 ≤ h 12 i ∧ h 12 i ≤ 100000000) ∧ K (smN (h 12) (h 1 7).toNat) h)))
set_option maxRecDepth 100000 in
set_option maxHeartbeats 4000000 in
theorem v_X8_cost (w : WD) (a1 : Int) (h : HP) (K : Int → HP → Prop) 
    (H : ((¬ a1 = (-1) → ((((¬ (0 ≤ a1 ∧ a1 < h 1 7) → True) ∧ ((0 ≤ a1 ∧ a1 < h 1 7) → ((0 ≤ a1 ∧ a1 < 10) ∧ True)))) ∧ K (cif (¬ (0 ≤ a1 ∧ a1 < h 1 7)) (-1) (h 12 a1)) h)) ∧ (a1 = (-1) → (((0 ≤ h 1 7 ∧ h 1 7 ≤ 10) ∧ ∀ i : Int, 0 ≤ i → i < 10 → 0 ≤ h 12 i ∧ h 12 i ≤ 100000000) ∧ K (smN (h 12) (h 1 7).toNat) h)))) :
    Ev w Y_X8_cost 0 [some (vR 0), some (vI a1)] [] h (rI K) := by
  refine e_iload_n (pc := 0) dX8_cost_0 rfl rfl ?_
  refine e_iconst (pc := 1) dX8_cost_1 ⟨by decide, by decide⟩ ?_
  refine e_icmp_ne (pc := 2) (tgt := 13) dX8_cost_2 (by decide) (fun c1 => ?_) (fun c1 => ?_)
  · have H := H.1 c1
    refine e_aload_n (pc := 13) dX8_cost_13 rfl rfl ?_
    refine e_getR (q := 0) (ci := 8) (k := 0) (y := 1) (C := RX8) (T := TX8) (N := 9) (pc := 14) dX8_cost_14 rfl rfl ev_in8 rfl ul_2_98 ⟨rfl, rfl⟩ rfl ?_
    refine e_iload_n (pc := 17) dX8_cost_17 rfl rfl ?_
    refine e_invV (pc := 18) (Y' := Y_X4_isThing) (as := [vI a1]) (st := []) (lv0 := [some (vR 1), some (vI a1)]) (q := 1) (ci := 4) (T := TX4) (N := 10) dX8_cost_18 m_X4_isThing ul_2_149 ⟨ul_2_150, ul_2_151⟩ ⟨rfl, rfl⟩ rfl rfl rfl rfl rfl rfl rfl (c_X4_isThing w a1 h) ?_
    rintro _ hz ⟨_, rfl, rfl, hh⟩
    rw [hh]
    show Ev w Y_X8_cost 21 [some (vR 0), some (vI a1)] [vI (b2i (0 ≤ a1 ∧ a1 < h 1 7))] h (rI K)
    have J : Ev w Y_X8_cost 37 [some (vR 0), some (vI a1)] [vI (cif (¬ (0 ≤ a1 ∧ a1 < h 1 7)) (-1) (h 12 a1))] h (rI K) := by
      have H := H.2
      exact e_ret (pc := 37) (v := some (vI (cif (¬ (0 ≤ a1 ∧ a1 < h 1 7)) (-1) (h 12 a1)))) dX8_cost_37 rfl trivial ⟨_, rfl, H⟩
    have Ho := H.1
    refine e_ifb_eq (pc := 21) (tgt := 36) dX8_cost_21 (by decide) (fun c2 => ?_) (fun c2 => ?_)
    · have Ho := Ho.1 c2
      refine e_iconst (pc := 36) dX8_cost_36 ⟨by decide, by decide⟩ ?_
      exact e_top (cif_t c2) J
    · have Ho := Ho.2 c2
      refine e_aload_n (pc := 24) dX8_cost_24 rfl rfl ?_
      refine e_getR (q := 0) (ci := 8) (k := 0) (y := 1) (C := RX8) (T := TX8) (N := 9) (pc := 25) dX8_cost_25 rfl rfl ev_in8 rfl ul_2_98 ⟨rfl, rfl⟩ rfl ?_
      refine e_getR (q := 1) (ci := 4) (k := 3) (y := 12) (C := RX4) (T := TX4) (N := 10) (pc := 28) dX8_cost_28 rfl rfl ev_in4 rfl ul_1_39 ⟨rfl, rfl⟩ rfl ?_
      refine e_iload_n (pc := 31) dX8_cost_31 rfl rfl ?_
      refine e_iald (q := 12) (x := (h 12 a1)) (pc := 32) dX8_cost_32 rfl Ho.1 rfl ?_
      have Ho := Ho.2
      refine e_goto (pc := 33) (tgt := 37) dX8_cost_33 (by decide) ?_
      exact e_top (cif_f (fun z => z c2)) J
  · have H := H.2 c1
    refine e_aload_n (pc := 5) dX8_cost_5 rfl rfl ?_
    refine e_getR (q := 0) (ci := 8) (k := 0) (y := 1) (C := RX8) (T := TX8) (N := 9) (pc := 6) dX8_cost_6 rfl rfl ev_in8 rfl ul_2_98 ⟨rfl, rfl⟩ rfl ?_
    refine e_invV (pc := 9) (Y' := Y_X4_spentInAll) (as := []) (st := []) (lv0 := [some (vR 1), none, none]) (q := 1) (ci := 4) (T := TX4) (N := 10) dX8_cost_9 m_X4_spentInAll ul_4_164 ⟨ul_4_165, ul_4_166⟩ ⟨rfl, rfl⟩ rfl rfl rfl rfl rfl rfl rfl (c_X4_spentInAll w h H.1) ?_
    rintro _ hz ⟨_, rfl, rfl, hh⟩
    rw [hh]
    show Ev w Y_X8_cost 12 [some (vR 0), some (vI a1)] [vI (smN (h 12) (h 1 7).toNat)] h (rI K)
    have H := H.2
    exact e_ret (pc := 12) (v := some (vI (smN (h 12) (h 1 7).toNat))) dX8_cost_12 rfl trivial ⟨_, rfl, H⟩
theorem c_X8_cost (w : WD) (a1 : Int) (h : HP) (K : Int → HP → Prop)  (H : S_X8_cost a1 h K) : Ev w Y_X8_cost 0 [some (vR 0), some (vI a1)] [] h (rI K) := v_X8_cost w a1 h K  H
