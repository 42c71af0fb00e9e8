/-! who wakes itself: least closed sets -/
theorem mem_ior {x y t : Int} (hx : 0 ≤ x ∧ x < 2147483648) (hy : 0 ≤ y ∧ y < 2147483648) : mem (ior x y) t ↔ mem x t ∨ mem y t := by
  obtain ⟨a, rfl⟩ : ∃ a : Nat, x = (a : Int) := ⟨x.toNat, by omega⟩
  obtain ⟨b, rfl⟩ : ∃ b : Nat, y = (b : Int) := ⟨y.toNat, by omega⟩
  rw [ior_n (by omega) (by omega)]
  unfold mem
  rw [Int.toNat_natCast, Int.toNat_natCast, Int.toNat_natCast, Nat.testBit_or, Bool.or_eq_true]
theorem ior_256 {x y : Int} (hx : 0 ≤ x ∧ x < 256) (hy : 0 ≤ y ∧ y < 256) : 0 ≤ ior x y ∧ ior x y < 256 := by
  obtain ⟨a, rfl⟩ : ∃ a : Nat, x = (a : Int) := ⟨x.toNat, by omega⟩
  obtain ⟨b, rfl⟩ : ∃ b : Nat, y = (b : Int) := ⟨y.toNat, by omega⟩
  rw [ior_n (by omega) (by omega)]
  have : a ||| b < 2 ^ 8 := Nat.or_lt_two_pow (by omega) (by omega)
  omega
theorem mem_lt {x t : Int} {n : Nat} (hx : 0 ≤ x ∧ x < 2 ^ n) (ht : 0 ≤ t) (hm : mem x t) : t < (n : Int) := by
  apply Classical.byContradiction
  intro c
  unfold mem at hm
  have h1 : x.toNat < 2 ^ n := by
    have := hx.2
    have e : ((2 ^ n : Nat) : Int) = (2 : Int) ^ n := by rw [Int.natCast_pow]; rfl
    omega
  have h2 : x.toNat < 2 ^ t.toNat := Nat.lt_of_lt_of_le h1 (Nat.pow_le_pow_right (by decide) (by omega))
  rw [Nat.testBit_lt_two_pow h2] at hm
  cases hm
theorem cnt_le {p q : Int → Prop} : ∀ {n : Nat}, (∀ i : Int, 0 ≤ i → i < (n : Int) → p i → q i) → cnt p n ≤ cnt q n
  | 0, _ => Int.le_refl _
  | n + 1, h => by
    have ih := cnt_le (p := p) (q := q) (n := n) (fun i a b => h i a (by omega))
    simp only [cnt]
    by_cases c : p (n : Int)
    · rw [b2i_t c, b2i_t (h _ (by omega) (by omega) c)]; omega
    · rw [b2i_f c]; have := b2i_01 (q (n : Int)); omega
theorem cnt_lt {p q : Int → Prop} : ∀ {n : Nat}, (∀ i : Int, 0 ≤ i → i < (n : Int) → p i → q i) → (∃ i : Int, 0 ≤ i ∧ i < (n : Int) ∧ q i ∧ ¬ p i) → cnt p n + 1 ≤ cnt q n
  | 0, _, e => by obtain ⟨i, a, b, _⟩ := e; omega
  | n + 1, h, e => by
    simp only [cnt]
    by_cases c : q (n : Int) ∧ ¬ p (n : Int)
    · have ih := cnt_le (p := p) (q := q) (n := n) (fun i a b => h i a (by omega))
      rw [b2i_t c.1, b2i_f c.2]; omega
    · obtain ⟨i, a, b, d⟩ := e
      have hi : i ≠ (n : Int) := fun y => c (y ▸ d)
      have ih := cnt_lt (p := p) (q := q) (n := n) (fun i a b => h i a (by omega)) ⟨i, a, by omega, d⟩
      have : b2i (p (n : Int)) ≤ b2i (q (n : Int)) := by
        by_cases z : p (n : Int)
        · rw [b2i_t z, b2i_t (h _ (by omega) (by omega) z)]; omega
        · rw [b2i_f z]; have := b2i_01 (q (n : Int)); omega
      omega
theorem cnt_full {p : Int → Prop} : ∀ {n : Nat}, (n : Int) ≤ cnt p n → ∀ i : Int, 0 ≤ i → i < (n : Int) → p i
  | 0, _, i, a, b => by omega
  | n + 1, h, i, a, b => by
    simp only [cnt] at h
    have hb := cnt_b p n
    have h01 := b2i_01 (p (n : Int))
    by_cases e : i = (n : Int)
    · subst e; exact b2i_1.mp (by omega)
    · exact cnt_full (p := p) (n := n) (by omega) i a (by omega)
section
variable (W : Int → Int) (N : Int)
def cBas (s x : Int) : Prop := ∀ t : Int, 0 ≤ t → mem (W s) t → mem x t
def cCls (D : Int → Prop) (m : Int) (x : Int) : Prop := ∀ k : Int, 0 ≤ k → k < m → D k → ∀ t : Int, 0 ≤ t → mem (W k) t → mem x t
def cMin (s x : Int) : Prop := ∀ D : Int → Prop, (∀ t : Int, 0 ≤ t → mem (W s) t → D t) → (∀ k : Int, 0 ≤ k → k < N → D k → ∀ t : Int, 0 ≤ t → mem (W k) t → D t) → ∀ t : Int, 0 ≤ t → mem x t → D t
def selfW (s : Int) : Prop := ∀ D : Int → Prop, (∀ t : Int, 0 ≤ t → mem (W s) t → D t) → (∀ k : Int, 0 ≤ k → k < N → D k → ∀ t : Int, 0 ≤ t → mem (W k) t → D t) → D s
variable {W N}
theorem selfW_i {s x : Int} (hs : 0 ≤ s) (h1 : cBas W s x) (h2 : cCls W (mem x) N x) (h3 : cMin W N s x) : mem x s ↔ selfW W N s :=
  ⟨fun m D a b => h3 D a b s hs m, fun y => y (mem x) h1 h2⟩
theorem cMin_or {s x k : Int} (hx : 0 ≤ x ∧ x < 256) (hw : 0 ≤ W k ∧ W k < 256) (hk : 0 ≤ k ∧ k < N) (hm : mem x k) (h3 : cMin W N s x) : cMin W N s (ior x (W k)) := fun D a b t ht m => by
  rw [mem_ior ⟨hx.1, by omega⟩ ⟨hw.1, by omega⟩] at m
  rcases m with m | m
  · exact h3 D a b t ht m
  · exact b k hk.1 hk.2 (h3 D a b k hk.1 hm) t ht m
theorem selfW_c {W' : Int → Int} {s : Int} (hs : 0 ≤ s ∧ s < N) (h : ∀ k : Int, 0 ≤ k → k < N → W k = W' k) : selfW W N s ↔ selfW W' N s := by
  unfold selfW
  constructor
  · intro y D a b
    exact y D (fun t ht m => a t ht (by rw [← h s hs.1 hs.2]; exact m)) (fun k k0 k1 d t ht m => b k k0 k1 d t ht (by rw [← h k k0 k1]; exact m))
  · intro y D a b
    exact y D (fun t ht m => a t ht (by rw [h s hs.1 hs.2]; exact m)) (fun k k0 k1 d t ht m => b k k0 k1 d t ht (by rw [h k k0 k1]; exact m))
end
noncomputable def wiC (h : HP) (i : Int) : Int := bset (fun k => h 39 k = h 41 i ∧ h 40 k = h 42 i) (h 6 7).toNat
noncomputable def wiM (h : HP) (i : Int) : Int := bset (fun k => h 79 (5 * k) = 1 ∧ h 79 (5 * k + 1) = h 79 (5 * i + 3) ∧ h 79 (5 * k + 2) = h 79 (5 * i + 4)) (h 55 33).toNat
theorem bset_256 {p : Int → Prop} {n : Nat} (hn : n ≤ 8) : 0 ≤ bset p n ∧ bset p n < 256 := by
  have h := bset_b p (n := n)
  have : (2 : Int) ^ n ≤ 2 ^ 8 := by
    have q : 2 ^ n ≤ 2 ^ 8 := Nat.pow_le_pow_right (by decide) hn
    have e : ((2 ^ n : Nat) : Int) = (2 : Int) ^ n := by rw [Int.natCast_pow]; rfl
    omega
  omega
def S_X6_allWokenBy (i : Int) (h : HP) (K : Int → HP → Prop) : Prop := ((0 ≤ h 6 7 ∧ h 6 7 ≤ 8) ∧ 0 ≤ i ∧ i < h 6 7) ∧ ∀ x : Int, (0 ≤ x ∧ x < 256) → (mem x i ↔ selfW (wiC h) (h 6 7) i) → K x h
set_option maxRecDepth 100000 in
set_option maxHeartbeats 4000000 in
theorem v_X6_allWokenBy (w : WD) (i : Int) (h : HP) (K : Int → HP → Prop) 
    (I1 : Nat → Int → Int → HP → Prop)
    (I2 : Nat → Nat → Int → Int → Int → HP → Prop)
    (H : (((0 ≤ h 6 7 ∧ h 6 7 ≤ 8) ∧ 0 ≤ i ∧ i < 8) ∧ (∃ m : Nat, I1 m (bset (fun k => h 39 k = h 41 i ∧ h 40 k = h 42 i) (h 6 7).toNat) 0 h)))
    (H1 : ∀ (n1 : Nat) (x2 : Int) (x3 : Int) (g1 : HP), I1 n1 x2 x3 g1 → ((8 ≤ x3 → K x2 g1) ∧ (¬ 8 ≤ x3 → (∃ m : Nat, I2 n1 m x2 x3 0 g1))))
    (H2 : ∀ (n1 : Nat) (n2 : Nat) (x2 : Int) (x3 : Int) (x4 : Int) (g2 : HP), I2 n1 n2 x2 x3 x4 g2 → (((g2 6 7) ≤ x4 → ((iR (x3 + 1)) ∧ (∃ m : Nat, m < n1 ∧ I1 m x2 (x3 + 1) g2))) ∧ (¬ (g2 6 7) ≤ x4 → ((inB x2 x4) ∧ ((¬ (mem x2 x4) → ((iR (x4 + 1)) ∧ (∃ m : Nat, m < n2 ∧ I2 n1 m x2 x3 (x4 + 1) g2))) ∧ ((mem x2 x4) → (((0 ≤ g2 6 7 ∧ g2 6 7 ≤ 8) ∧ 0 ≤ x4 ∧ x4 < 8) ∧ ((iR (x4 + 1)) ∧ (∃ m : Nat, m < n2 ∧ I2 n1 m (ior x2 (bset (fun k => g2 39 k = g2 41 x4 ∧ g2 40 k = g2 42 x4) (g2 6 7).toNat)) x3 (x4 + 1) g2))))))))) :
    Ev w Y_X6_allWokenBy 0 [some (vR 6), some (vI i), none, none, none] [] h (rI K) := by
  have L1 : ∀ (n1 : Nat) (x2 : Int) (x3 : Int) (g1 : HP), I1 n1 x2 x3 g1 → Ev w Y_X6_allWokenBy 8 [some (vR 6), none, some (vI x2), some (vI x3), none] [] g1 (rI K) := by
    intro n1
    induction n1 using Nat.strongRecOn with
    | ind n1 ih1 =>
      have L2 : ∀ (n2 : Nat) (x2 : Int) (x3 : Int) (x4 : Int) (g2 : HP), I2 n1 n2 x2 x3 x4 g2 → Ev w Y_X6_allWokenBy 17 [some (vR 6), none, some (vI x2), some (vI x3), some (vI x4)] [] g2 (rI K) := by
        intro n2
        induction n2 using Nat.strongRecOn with
        | ind n2 ih2 =>
          intro x2 x3 x4 g2 H
          have H := H2 n1 n2 x2 x3 x4 g2 H
          refine e_iload (pc := 17) dX6_allWokenBy_17 rfl ?_
          refine e_aload_n (pc := 19) dX6_allWokenBy_19 rfl rfl ?_
          refine e_getI (q := 6) (ci := 6) (k := 7) (kz := 7) (C := RX6) (T := TX6) (N := 10) (x := (g2 6 7)) (pc := 20) dX6_allWokenBy_20 rfl rfl rfl ev_in6 rfl ul_2_7 ⟨rfl, by decide⟩ rfl ?_
          refine e_icmp_ge (pc := 23) (tgt := 50) dX6_allWokenBy_23 (by decide) (fun c2 => ?_) (fun c2 => ?_)
          · have H := H.1 c2
            refine e_iinc (lv' := [some (vR 6), none, some (vI x2), some (vI (x3 + 1)), some (vI x4)]) (pc := 50) dX6_allWokenBy_50 rfl H.1 rfl rfl ?_
            have H := H.2
            refine e_goto (pc := 53) (tgt := 8) dX6_allWokenBy_53 (by decide) ?_
            refine e_mask [true, false, true, true, false] rfl ?_
            obtain ⟨m, hm, H⟩ := H
            exact ih1 m hm _ _ _ H
          · have H := H.2 c2
            refine e_iload_n (pc := 26) dX6_allWokenBy_26 rfl rfl ?_
            refine e_iload (pc := 27) dX6_allWokenBy_27 rfl ?_
            refine e_invSN (pc := 29) (Y' := Y_X8_isIn) (as := [vI x2, vI x4]) (st := []) (lv0 := [some (vI x2), some (vI x4)]) dX6_allWokenBy_29 m_X8_isIn nl_10 ul_3_102 ⟨rfl, rfl⟩ rfl rfl rfl rfl rfl (c_X8_isIn w x2 x4 g2 H.1) ?_
            rintro _ hz ⟨_, rfl, rfl, hh⟩
            rw [hh]
            show Ev w Y_X6_allWokenBy 32 [some (vR 6), none, some (vI x2), some (vI x3), some (vI x4)] [vI (b2i (mem x2 x4))] g2 (rI K)
            have H := H.2
            refine e_ifb_eq (pc := 32) (tgt := 44) dX6_allWokenBy_32 (by decide) (fun c3 => ?_) (fun c3 => ?_)
            · have H := H.1 c3
              refine e_iinc (lv' := [some (vR 6), none, some (vI x2), some (vI x3), some (vI (x4 + 1))]) (pc := 44) dX6_allWokenBy_44 rfl H.1 rfl rfl ?_
              have H := H.2
              refine e_goto (pc := 47) (tgt := 17) dX6_allWokenBy_47 (by decide) ?_
              obtain ⟨m, hm, H⟩ := H
              exact ih2 m hm _ _ _ _ H
            · have H := H.2 c3
              refine e_iload_n (pc := 35) dX6_allWokenBy_35 rfl rfl ?_
              refine e_aload_n (pc := 36) dX6_allWokenBy_36 rfl rfl ?_
              refine e_iload (pc := 37) dX6_allWokenBy_37 rfl ?_
              refine e_invV (pc := 39) (Y' := Y_X6_wokenAtOnceBy) (as := [vI x4]) (st := [vI x2]) (lv0 := [some (vR 6), some (vI x4), none, none]) (q := 6) (ci := 6) (T := TX6) (N := 10) dX6_allWokenBy_39 m_X6_wokenAtOnceBy ul_4_91 ⟨ul_4_93, us_X6_wokenAtOnceBy⟩ ⟨rfl, rfl⟩ rfl rfl rfl rfl rfl rfl rfl (c_X6_wokenAtOnceBy w x4 g2 H.1) ?_
              rintro _ hz ⟨_, rfl, rfl, hh⟩
              rw [hh]
              show Ev w Y_X6_allWokenBy 42 [some (vR 6), none, some (vI x2), some (vI x3), some (vI x4)] [vI (bset (fun k => g2 39 k = g2 41 x4 ∧ g2 40 k = g2 42 x4) (g2 6 7).toNat), vI x2] g2 (rI K)
              have H := H.2
              refine e_ior (pc := 42) dX6_allWokenBy_42 ?_
              refine e_istore_n (lv' := [some (vR 6), none, some (vI (ior x2 (bset (fun k => g2 39 k = g2 41 x4 ∧ g2 40 k = g2 42 x4) (g2 6 7).toNat))), some (vI x3), some (vI x4)]) (pc := 43) dX6_allWokenBy_43 rfl rfl rfl ?_
              refine e_iinc (lv' := [some (vR 6), none, some (vI (ior x2 (bset (fun k => g2 39 k = g2 41 x4 ∧ g2 40 k = g2 42 x4) (g2 6 7).toNat))), some (vI x3), some (vI (x4 + 1))]) (pc := 44) dX6_allWokenBy_44 rfl H.1 rfl rfl ?_
              have H := H.2
              refine e_goto (pc := 47) (tgt := 17) dX6_allWokenBy_47 (by decide) ?_
              obtain ⟨m, hm, H⟩ := H
              exact ih2 m hm _ _ _ _ H
      intro x2 x3 g1 H
      have H := H1 n1 x2 x3 g1 H
      refine e_iload_n (pc := 8) dX6_allWokenBy_8 rfl rfl ?_
      refine e_bipush (pc := 9) dX6_allWokenBy_9 ⟨by decide, by decide⟩ (by decide) ?_
      refine e_icmp_ge (pc := 11) (tgt := 56) dX6_allWokenBy_11 (by decide) (fun c1 => ?_) (fun c1 => ?_)
      · have H := H.1 c1
        refine e_iload_n (pc := 56) dX6_allWokenBy_56 rfl rfl ?_
        exact e_ret (pc := 57) (v := some (vI x2)) dX6_allWokenBy_57 rfl trivial ⟨_, rfl, H⟩
      · have H := H.2 c1
        refine e_iconst (pc := 14) dX6_allWokenBy_14 ⟨by decide, by decide⟩ ?_
        refine e_istore (lv' := [some (vR 6), none, some (vI x2), some (vI x3), some (vI 0)]) (pc := 15) dX6_allWokenBy_15 rfl rfl ?_
        obtain ⟨m, H⟩ := H
        exact L2 m _ _ _ _ H
  refine e_aload_n (pc := 0) dX6_allWokenBy_0 rfl rfl ?_
  refine e_iload_n (pc := 1) dX6_allWokenBy_1 rfl rfl ?_
  refine e_invV (pc := 2) (Y' := Y_X6_wokenAtOnceBy) (as := [vI i]) (st := []) (lv0 := [some (vR 6), some (vI i), none, none]) (q := 6) (ci := 6) (T := TX6) (N := 10) dX6_allWokenBy_2 m_X6_wokenAtOnceBy ul_4_91 ⟨ul_4_93, us_X6_wokenAtOnceBy⟩ ⟨rfl, rfl⟩ rfl rfl rfl rfl rfl rfl rfl (c_X6_wokenAtOnceBy w i h H.1) ?_
  rintro _ hz ⟨_, rfl, rfl, hh⟩
  rw [hh]
  show Ev w Y_X6_allWokenBy 5 [some (vR 6), some (vI i), none, none, none] [vI (bset (fun k => h 39 k = h 41 i ∧ h 40 k = h 42 i) (h 6 7).toNat)] h (rI K)
  have H := H.2
  refine e_istore_n (lv' := [some (vR 6), some (vI i), some (vI (bset (fun k => h 39 k = h 41 i ∧ h 40 k = h 42 i) (h 6 7).toNat)), none, none]) (pc := 5) dX6_allWokenBy_5 rfl rfl rfl ?_
  refine e_iconst (pc := 6) dX6_allWokenBy_6 ⟨by decide, by decide⟩ ?_
  refine e_istore_n (lv' := [some (vR 6), some (vI i), some (vI (bset (fun k => h 39 k = h 41 i ∧ h 40 k = h 42 i) (h 6 7).toNat)), some (vI 0), none]) (pc := 7) dX6_allWokenBy_7 rfl rfl rfl ?_
  refine e_mask [true, false, true, true, false] rfl ?_
  obtain ⟨m, H⟩ := H
  exact L1 m _ _ _ H
set_option maxRecDepth 100000 in
set_option maxHeartbeats 4000000 in
theorem c_X6_allWokenBy (w : WD) (i : Int) (h : HP) (K : Int → HP → Prop)  (H : S_X6_allWokenBy i h K) : Ev w Y_X6_allWokenBy 0 [some (vR 6), some (vI i), none, none, none] [] h (rI K) := by
  obtain ⟨⟨h8, hi⟩, HK⟩ := H
  have hw : ∀ k : Int, 0 ≤ wiC h k ∧ wiC h k < 256 := fun k => bset_256 (by omega)
  refine v_X6_allWokenBy w i h K (fun n x2 x3 g => g = h ∧ (0 ≤ x3 ∧ x3 ≤ 8) ∧ n = (8 - x3).toNat ∧ (0 ≤ x2 ∧ x2 < 256) ∧ cBas (wiC h) i x2 ∧ cMin (wiC h) (h 6 7) i x2 ∧ (cCls (wiC h) (mem x2) (h 6 7) x2 ∨ x3 ≤ cnt (mem x2) 8))
    (fun n1 n2 x2 x3 x4 g => g = h ∧ (0 ≤ x3 ∧ x3 < 8) ∧ n1 = (8 - x3).toNat ∧ (0 ≤ x4 ∧ x4 ≤ h 6 7) ∧ n2 = (8 - x4).toNat ∧ (0 ≤ x2 ∧ x2 < 256) ∧ cBas (wiC h) i x2 ∧ cMin (wiC h) (h 6 7) i x2 ∧ (x3 + 1 ≤ cnt (mem x2) 8 ∨ ((cCls (wiC h) (mem x2) (h 6 7) x2 ∨ x3 ≤ cnt (mem x2) 8) ∧ cCls (wiC h) (mem x2) x4 x2)))
    ⟨⟨h8, by omega⟩, 8, rfl, by omega, rfl, hw i, fun t _ m => m, fun D a _ t ht m => a t ht m, Or.inr (cnt_b _ 8).1⟩ ?_ ?_
  · rintro n x2 x3 g ⟨rfl, h0, rfl, hx, hb, hm, hc⟩
    refine ⟨fun c => HK x2 hx (selfW_i hi.1 hb ?_ hm), fun c => ⟨8, rfl, by omega, rfl, by omega, rfl, hx, hb, hm, Or.inr ⟨hc, fun k k0 k1 => by omega⟩⟩⟩
    rcases hc with hc | hc
    · exact hc
    · exact fun k k0 k1 d t ht m => cnt_full (n := 8) (by omega) t ht (mem_lt (n := 8) (hw k) ht m)
  · rintro n1 n2 x2 x3 x4 g ⟨rfl, h3, rfl, h4, rfl, hx, hb, hm, hc⟩
    refine ⟨fun c => ⟨⟨by omega, by omega⟩, (8 - (x3 + 1)).toNat, by omega, rfl, by omega, rfl, hx, hb, hm, ?_⟩, fun c => ⟨⟨⟨hx.1, by omega⟩, by omega, by omega⟩, fun z => ⟨⟨by omega, by omega⟩, (8 - (x4 + 1)).toNat, by omega, rfl, h3, rfl, by omega, rfl, hx, hb, hm, ?_⟩, fun z => ⟨⟨h8, by omega⟩, ⟨by omega, by omega⟩, (8 - (x4 + 1)).toNat, by omega, rfl, h3, rfl, by omega, rfl, ior_256 hx (hw x4), fun t ht m => ?_, cMin_or (W := wiC g) hx (hw x4) (by omega) z hm, ?_⟩⟩⟩
    · rcases hc with hc | hc
      · exact Or.inr hc
      · rw [show x4 = g 6 7 by omega] at hc
        exact Or.inl hc.2
    · rcases hc with hc | hc
      · exact Or.inl hc
      · refine Or.inr ⟨hc.1, fun k k0 k1 d => ?_⟩
        by_cases e : k = x4
        · subst e; exact absurd d z
        · exact hc.2 k k0 (by omega) d
    · exact (mem_ior ⟨hx.1, by omega⟩ ⟨(hw x4).1, by have := (hw x4).2; omega⟩).mpr (Or.inl (hb t ht m))
    · have hmo : ∀ t : Int, mem (ior x2 (wiC g x4)) t ↔ mem x2 t ∨ mem (wiC g x4) t := fun t => mem_ior ⟨hx.1, by omega⟩ ⟨(hw x4).1, by have := (hw x4).2; omega⟩
      show _ ≤ cnt (mem (ior x2 (wiC g x4))) 8 ∨ (cCls (wiC g) (mem (ior x2 (wiC g x4))) (g 6 7) (ior x2 (wiC g x4)) ∨ _ ≤ cnt (mem (ior x2 (wiC g x4))) 8) ∧ cCls (wiC g) (mem (ior x2 (wiC g x4))) (x4 + 1) (ior x2 (wiC g x4))
      by_cases hsub : ∀ t : Int, 0 ≤ t → mem (wiC g x4) t → mem x2 t
      · have e : ior x2 (wiC g x4) = x2 := mem_ext (n := 8) (ior_256 hx (hw x4)) hx (fun t t0 _ => by rw [hmo]; exact ⟨fun y => y.elim id (hsub t t0), Or.inl⟩)
        rw [e]
        rcases hc with hc | hc
        · exact Or.inl hc
        · refine Or.inr ⟨hc.1, fun k k0 k1 d => ?_⟩
          by_cases e : k = x4
          · subst e; exact hsub
          · exact hc.2 k k0 (by omega) d
      · have hle : cnt (mem x2) 8 + 1 ≤ cnt (mem (ior x2 (wiC g x4))) 8 := by
          refine cnt_lt (fun t _ _ m => (hmo t).mpr (Or.inl m)) (Classical.byContradiction (fun y => hsub (fun t t0 m => Classical.byContradiction (fun u => y ⟨t, t0, mem_lt (n := 8) (hw x4) t0 m, (hmo t).mpr (Or.inr m), u⟩))))
        rcases hc with hc | hc
        · exact Or.inl (by omega)
        · rcases hc.1 with hd | hd
          · exact absurd (hd x4 (by omega) (by omega) z) hsub
          · exact Or.inl (by omega)
noncomputable def fs4 (p : Int → Prop) (n : Nat) : Int := cif (fsN p n < 0) (-4) (fsN p n)
theorem fs4_none {p : Int → Prop} {n : Nat} (h : ∀ i : Int, 0 ≤ i → i < (n : Int) → ¬ p i) : fs4 p n = -4 := by
  unfold fs4
  rw [fsN_none h, cif_t (by decide)]
theorem fs4_at {p : Int → Prop} {k n : Nat} (hn : ∀ i : Int, 0 ≤ i → i < (k : Int) → ¬ p i) (hp : p (k : Int)) (hk : k < n) : fs4 p n = (k : Int) := by
  unfold fs4
  rw [fsN_at hn hp hk, cif_f (by omega)]
theorem fs4_c {p q : Int → Prop} {n : Nat} (h : ∀ i : Int, 0 ≤ i → i < (n : Int) → (p i ↔ q i)) : fs4 p n = fs4 q n := by
  by_cases c : ∃ k : Nat, k < n ∧ p (k : Int) ∧ ∀ i : Int, 0 ≤ i → i < (k : Int) → ¬ p i
  · obtain ⟨k, hk, hp, hn⟩ := c
    rw [fs4_at hn hp hk, fs4_at (fun i a b y => hn i a b ((h i a (by omega)).mpr y)) ((h _ (by omega) (by omega)).mp hp) hk]
  · have hno : ∀ m : Nat, m ≤ n → ∀ i : Int, 0 ≤ i → i < (m : Int) → ¬ p i := by
      intro m
      induction m with
      | zero => intro _ i a b; omega
      | succ m ih =>
        intro hm i a b hp
        by_cases e : i = (m : Int)
        · subst e; exact c ⟨m, by omega, hp, ih (by omega)⟩
        · exact ih (by omega) i a (by omega) hp
    rw [fs4_none (hno n (Nat.le_refl _)), fs4_none (fun i a b y => hno n (Nat.le_refl _) i a b ((h i a b).mpr y))]
set_option maxRecDepth 100000 in
set_option maxHeartbeats 4000000 in
theorem v_X6_firstSelfWaker (w : WD)  (h : HP) (K : Int → HP → Prop) 
    (I1 : Nat → Int → HP → Prop)
    (H : (∃ m : Nat, I1 m 0 h))
    (H1 : ∀ (n1 : Nat) (x1 : Int) (g1 : HP), I1 n1 x1 g1 → (((g1 6 7) ≤ x1 → K (-4) g1) ∧ (¬ (g1 6 7) ≤ x1 → (S_X6_allWokenBy x1 g1 (fun r21 h21 => ((inB r21 x1) ∧ ((¬ (mem r21 x1) → ((iR (x1 + 1)) ∧ (∃ m : Nat, m < n1 ∧ I1 m (x1 + 1) h21))) ∧ ((mem r21 x1) → K x1 h21)))))))) :
    Ev w Y_X6_firstSelfWaker 0 [some (vR 6), none] [] h (rI K) := by
  have L1 : ∀ (n1 : Nat) (x1 : Int) (g1 : HP), I1 n1 x1 g1 → Ev w Y_X6_firstSelfWaker 2 [some (vR 6), some (vI x1)] [] g1 (rI K) := by
    intro n1
    induction n1 using Nat.strongRecOn with
    | ind n1 ih1 =>
      intro x1 g1 H
      have H := H1 n1 x1 g1 H
      refine e_iload_n (pc := 2) dX6_firstSelfWaker_2 rfl rfl ?_
      refine e_aload_n (pc := 3) dX6_firstSelfWaker_3 rfl rfl ?_
      refine e_getI (q := 6) (ci := 6) (k := 7) (kz := 7) (C := RX6) (T := TX6) (N := 10) (x := (g1 6 7)) (pc := 4) dX6_firstSelfWaker_4 rfl rfl rfl ev_in6 rfl ul_2_7 ⟨rfl, by decide⟩ rfl ?_
      refine e_icmp_ge (pc := 7) (tgt := 30) dX6_firstSelfWaker_7 (by decide) (fun c1 => ?_) (fun c1 => ?_)
      · have H := H.1 c1
        refine e_bipush (pc := 30) dX6_firstSelfWaker_30 ⟨by decide, by decide⟩ (by decide) ?_
        exact e_ret (pc := 32) (v := some (vI (-4))) dX6_firstSelfWaker_32 rfl trivial ⟨_, rfl, H⟩
      · have H := H.2 c1
        refine e_aload_n (pc := 10) dX6_firstSelfWaker_10 rfl rfl ?_
        refine e_iload_n (pc := 11) dX6_firstSelfWaker_11 rfl rfl ?_
        refine e_invV (pc := 12) (Y' := Y_X6_allWokenBy) (as := [vI x1]) (st := []) (lv0 := [some (vR 6), some (vI x1), none, none, none]) (q := 6) (ci := 6) (T := TX6) (N := 10) dX6_firstSelfWaker_12 m_X6_allWokenBy ul_4_87 ⟨ul_4_89, us_X6_allWokenBy⟩ ⟨rfl, rfl⟩ rfl rfl rfl rfl rfl rfl rfl (c_X6_allWokenBy w x1 g1 _ H) ?_
        rintro _ h21 ⟨r21, rfl, H⟩
        show Ev w Y_X6_firstSelfWaker 15 [some (vR 6), some (vI x1)] [vI r21] h21 (rI K)
        refine e_iload_n (pc := 15) dX6_firstSelfWaker_15 rfl rfl ?_
        refine e_invSN (pc := 16) (Y' := Y_X8_isIn) (as := [vI r21, vI x1]) (st := []) (lv0 := [some (vI r21), some (vI x1)]) dX6_firstSelfWaker_16 m_X8_isIn nl_10 ul_3_102 ⟨rfl, rfl⟩ rfl rfl rfl rfl rfl (c_X8_isIn w r21 x1 h21 H.1) ?_
        rintro _ hz ⟨_, rfl, rfl, hh⟩
        rw [hh]
        show Ev w Y_X6_firstSelfWaker 19 [some (vR 6), some (vI x1)] [vI (b2i (mem r21 x1))] h21 (rI K)
        have H := H.2
        refine e_ifb_eq (pc := 19) (tgt := 24) dX6_firstSelfWaker_19 (by decide) (fun c2 => ?_) (fun c2 => ?_)
        · have H := H.1 c2
          refine e_iinc (lv' := [some (vR 6), some (vI (x1 + 1))]) (pc := 24) dX6_firstSelfWaker_24 rfl H.1 rfl rfl ?_
          have H := H.2
          refine e_goto (pc := 27) (tgt := 2) dX6_firstSelfWaker_27 (by decide) ?_
          obtain ⟨m, hm, H⟩ := H
          exact ih1 m hm _ _ H
        · have H := H.2 c2
          refine e_iload_n (pc := 22) dX6_firstSelfWaker_22 rfl rfl ?_
          exact e_ret (pc := 23) (v := some (vI x1)) dX6_firstSelfWaker_23 rfl trivial ⟨_, rfl, H⟩
  refine e_iconst (pc := 0) dX6_firstSelfWaker_0 ⟨by decide, by decide⟩ ?_
  refine e_istore_n (lv' := [some (vR 6), some (vI 0)]) (pc := 1) dX6_firstSelfWaker_1 rfl rfl rfl ?_
  obtain ⟨m, H⟩ := H
  exact L1 m _ _ H
set_option maxRecDepth 100000 in
set_option maxHeartbeats 4000000 in
theorem c_X6_firstSelfWaker (w : WD)  (h : HP) (H : 0 ≤ h 6 7 ∧ h 6 7 ≤ 8) : Ev w Y_X6_firstSelfWaker 0 [some (vR 6), none] [] h (rI (fun r h' => r = (fs4 (selfW (wiC h) (h 6 7)) (h 6 7).toNat) ∧ h' = h)) := by
  refine v_X6_firstSelfWaker w h _ (fun n x1 g => g = h ∧ ∃ k : Nat, x1 = (k : Int) ∧ (k : Int) ≤ h 6 7 ∧ n = 8 - k ∧ ∀ i : Int, 0 ≤ i → i < (k : Int) → ¬ selfW (wiC h) (h 6 7) i) ⟨8, rfl, 0, rfl, by omega, rfl, fun i a b => by omega⟩ ?_
  rintro n x1 g ⟨rfl, k, rfl, hk, rfl, hn⟩
  refine ⟨fun c => ⟨(fs4_none (fun i a b => hn i a (by omega))).symm, rfl⟩, fun c => ⟨⟨H, by omega⟩, fun x hx hm => ⟨⟨⟨hx.1, by omega⟩, by omega, by omega⟩, fun z => ⟨⟨by omega, by omega⟩, 8 - (k + 1), by omega, rfl, k + 1, by omega, by omega, rfl, fun i a b => ?_⟩, fun z => ⟨(fs4_at hn (hm.mp z) (by omega)).symm, rfl⟩⟩⟩⟩
  by_cases e : i = (k : Int)
  · subst e; exact fun y => z (hm.mpr y)
  · exact hn i a (by omega)
set_option maxRecDepth 100000 in
set_option maxHeartbeats 4000000 in
theorem v_X9_wake (w : WD)  (h : HP) (K : Int → HP → Prop) 
    (I1 : Nat → Int → HP → Prop)
    (I2 : Nat → Nat → Int → Int → Int → HP → Prop)
    (I3 : Nat → Nat → Nat → Int → Int → Int → Int → HP → Prop)
    (H : (∃ m : Nat, I1 m 0 h))
    (H1 : ∀ (n1 : Nat) (x1 : Int) (g1 : HP), I1 n1 x1 g1 → (((g1 55 33) ≤ x1 → K (-4) g1) ∧ (¬ (g1 55 33) ≤ x1 → (((0 ≤ g1 55 33 ∧ g1 55 33 ≤ 8) ∧ 0 ≤ x1 ∧ x1 < 8) ∧ (∃ m : Nat, I2 n1 m x1 (bset (fun k => g1 79 (5 * k) = 1 ∧ g1 79 (5 * k + 1) = g1 79 (5 * x1 + 3) ∧ g1 79 (5 * k + 2) = g1 79 (5 * x1 + 4)) (g1 55 33).toNat) (-1) g1)))))
    (H2 : ∀ (n1 : Nat) (n2 : Nat) (x1 : Int) (x2 : Int) (x3 : Int) (g2 : HP), I2 n1 n2 x1 x2 x3 g2 → ((x2 = x3 → ((inB x2 x1) ∧ ((¬ (mem x2 x1) → ((iR (x1 + 1)) ∧ (∃ m : Nat, m < n1 ∧ I1 m (x1 + 1) g2))) ∧ ((mem x2 x1) → K x1 g2)))) ∧ (¬ x2 = x3 → (∃ m : Nat, I3 n1 n2 m x1 x2 x2 0 g2))))
    (H3 : ∀ (n1 : Nat) (n2 : Nat) (n3 : Nat) (x1 : Int) (x2 : Int) (x3 : Int) (x4 : Int) (g3 : HP), I3 n1 n2 n3 x1 x2 x3 x4 g3 → (((g3 55 33) ≤ x4 → (∃ m : Nat, m < n2 ∧ I2 n1 m x1 x2 x3 g3)) ∧ (¬ (g3 55 33) ≤ x4 → ((inB x3 x4) ∧ ((((¬ (mem x3 x4) → True) ∧ ((mem x3 x4) → (((0 ≤ g3 55 33 ∧ g3 55 33 ≤ 8) ∧ 0 ≤ x4 ∧ x4 < 8) ∧ True)))) ∧ ((iR (x4 + 1)) ∧ (∃ m : Nat, m < n3 ∧ I3 n1 n2 m x1 (ior x2 (cif (¬ (mem x3 x4)) 0 (bset (fun k => g3 79 (5 * k) = 1 ∧ g3 79 (5 * k + 1) = g3 79 (5 * x4 + 3) ∧ g3 79 (5 * k + 2) = g3 79 (5 * x4 + 4)) (g3 55 33).toNat))) x3 (x4 + 1) g3))))))) :
    Ev w Y_X9_wake 0 [some (vR 55), none, none, none, none] [] h (rI K) := by
  have L1 : ∀ (n1 : Nat) (x1 : Int) (g1 : HP), I1 n1 x1 g1 → Ev w Y_X9_wake 2 [some (vR 55), some (vI x1), none, none, none] [] g1 (rI K) := by
    intro n1
    induction n1 using Nat.strongRecOn with
    | ind n1 ih1 =>
      have L2 : ∀ (n2 : Nat) (x1 : Int) (x2 : Int) (x3 : Int) (g2 : HP), I2 n1 n2 x1 x2 x3 g2 → Ev w Y_X9_wake 18 [some (vR 55), some (vI x1), some (vI x2), some (vI x3), none] [] g2 (rI K) := by
        intro n2
        induction n2 using Nat.strongRecOn with
        | ind n2 ih2 =>
          have L3 : ∀ (n3 : Nat) (x1 : Int) (x2 : Int) (x3 : Int) (x4 : Int) (g3 : HP), I3 n1 n2 n3 x1 x2 x3 x4 g3 → Ev w Y_X9_wake 28 [some (vR 55), some (vI x1), some (vI x2), some (vI x3), some (vI x4)] [] g3 (rI K) := by
            intro n3
            induction n3 using Nat.strongRecOn with
            | ind n3 ih3 =>
              intro x1 x2 x3 x4 g3 H
              have H := H3 n1 n2 n3 x1 x2 x3 x4 g3 H
              refine e_iload (pc := 28) dX9_wake_28 rfl ?_
              refine e_aload_n (pc := 30) dX9_wake_30 rfl rfl ?_
              refine e_getI (q := 55) (ci := 9) (k := 33) (kz := 33) (C := RX9) (T := TX9) (N := 52) (x := (g3 55 33)) (pc := 31) dX9_wake_31 rfl rfl rfl ev_in9 rfl ul_4_215 ⟨rfl, by decide⟩ rfl ?_
              refine e_icmp_ge (pc := 34) (tgt := 65) dX9_wake_34 (by decide) (fun c4 => ?_) (fun c4 => ?_)
              · have H := H.1 c4
                refine e_goto (pc := 65) (tgt := 18) dX9_wake_65 (by decide) ?_
                refine e_mask [true, true, true, true, false] rfl ?_
                obtain ⟨m, hm, H⟩ := H
                exact ih2 m hm _ _ _ _ H
              · have H := H.2 c4
                refine e_iload_n (pc := 37) dX9_wake_37 rfl rfl ?_
                refine e_iload_n (pc := 38) dX9_wake_38 rfl rfl ?_
                refine e_iload (pc := 39) dX9_wake_39 rfl ?_
                refine e_invS (pc := 41) (Y' := Y_X9_has) (as := [vI x3, vI x4]) (st := [vI x2]) (lv0 := [some (vI x3), some (vI x4)]) dX9_wake_41 m_X9_has ul_5_221 ul_5_222 ⟨rfl, rfl⟩ rfl rfl rfl rfl rfl (c_X9_has w x3 x4 g3 H.1) ?_
                rintro _ hz ⟨_, rfl, rfl, hh⟩
                rw [hh]
                show Ev w Y_X9_wake 44 [some (vR 55), some (vI x1), some (vI x2), some (vI x3), some (vI x4)] [vI (b2i (mem x3 x4)), vI x2] g3 (rI K)
                have H := H.2
                have J : Ev w Y_X9_wake 57 [some (vR 55), some (vI x1), some (vI x2), some (vI x3), some (vI x4)] [vI (cif (¬ (mem x3 x4)) 0 (bset (fun k => g3 79 (5 * k) = 1 ∧ g3 79 (5 * k + 1) = g3 79 (5 * x4 + 3) ∧ g3 79 (5 * k + 2) = g3 79 (5 * x4 + 4)) (g3 55 33).toNat)), vI x2] g3 (rI K) := by
                  have H := H.2
                  refine e_ior (pc := 57) dX9_wake_57 ?_
                  refine e_istore_n (lv' := [some (vR 55), some (vI x1), some (vI (ior x2 (cif (¬ (mem x3 x4)) 0 (bset (fun k => g3 79 (5 * k) = 1 ∧ g3 79 (5 * k + 1) = g3 79 (5 * x4 + 3) ∧ g3 79 (5 * k + 2) = g3 79 (5 * x4 + 4)) (g3 55 33).toNat)))), some (vI x3), some (vI x4)]) (pc := 58) dX9_wake_58 rfl rfl rfl ?_
                  refine e_iinc (lv' := [some (vR 55), some (vI x1), some (vI (ior x2 (cif (¬ (mem x3 x4)) 0 (bset (fun k => g3 79 (5 * k) = 1 ∧ g3 79 (5 * k + 1) = g3 79 (5 * x4 + 3) ∧ g3 79 (5 * k + 2) = g3 79 (5 * x4 + 4)) (g3 55 33).toNat)))), some (vI x3), some (vI (x4 + 1))]) (pc := 59) dX9_wake_59 rfl H.1 rfl rfl ?_
                  have H := H.2
                  refine e_goto (pc := 62) (tgt := 28) dX9_wake_62 (by decide) ?_
                  obtain ⟨m, hm, H⟩ := H
                  exact ih3 m hm _ _ _ _ _ H
                have Ho := H.1
                refine e_ifb_eq (pc := 44) (tgt := 56) dX9_wake_44 (by decide) (fun c5 => ?_) (fun c5 => ?_)
                · have Ho := Ho.1 c5
                  refine e_iconst (pc := 56) dX9_wake_56 ⟨by decide, by decide⟩ ?_
                  exact e_top (cif_t c5) J
                · have Ho := Ho.2 c5
                  refine e_aload_n (pc := 47) dX9_wake_47 rfl rfl ?_
                  refine e_iload (pc := 48) dX9_wake_48 rfl ?_
                  refine e_invV (pc := 50) (Y' := Y_X9_wakes) (as := [vI x4]) (st := [vI x2]) (lv0 := [some (vR 55), some (vI x4), none, none, none]) (q := 55) (ci := 9) (T := TX9) (N := 52) dX9_wake_50 m_X9_wakes ul_6_70 ⟨ul_6_72, us_X9_wakes⟩ ⟨rfl, rfl⟩ rfl rfl rfl rfl rfl rfl rfl (c_X9_wakes w x4 g3 Ho.1) ?_
                  rintro _ hz ⟨_, rfl, rfl, hh⟩
                  rw [hh]
                  show Ev w Y_X9_wake 53 [some (vR 55), some (vI x1), some (vI x2), some (vI x3), some (vI x4)] [vI (bset (fun k => g3 79 (5 * k) = 1 ∧ g3 79 (5 * k + 1) = g3 79 (5 * x4 + 3) ∧ g3 79 (5 * k + 2) = g3 79 (5 * x4 + 4)) (g3 55 33).toNat), vI x2] g3 (rI K)
                  have Ho := Ho.2
                  refine e_goto (pc := 53) (tgt := 57) dX9_wake_53 (by decide) ?_
                  exact e_top (cif_f (fun z => z c5)) J
          intro x1 x2 x3 g2 H
          have H := H2 n1 n2 x1 x2 x3 g2 H
          refine e_iload_n (pc := 18) dX9_wake_18 rfl rfl ?_
          refine e_iload_n (pc := 19) dX9_wake_19 rfl rfl ?_
          refine e_icmp_eq (pc := 20) (tgt := 68) dX9_wake_20 (by decide) (fun c2 => ?_) (fun c2 => ?_)
          · have H := H.1 c2
            refine e_iload_n (pc := 68) dX9_wake_68 rfl rfl ?_
            refine e_iload_n (pc := 69) dX9_wake_69 rfl rfl ?_
            refine e_invS (pc := 70) (Y' := Y_X9_has) (as := [vI x2, vI x1]) (st := []) (lv0 := [some (vI x2), some (vI x1)]) dX9_wake_70 m_X9_has ul_5_221 ul_5_222 ⟨rfl, rfl⟩ rfl rfl rfl rfl rfl (c_X9_has w x2 x1 g2 H.1) ?_
            rintro _ hz ⟨_, rfl, rfl, hh⟩
            rw [hh]
            show Ev w Y_X9_wake 73 [some (vR 55), some (vI x1), some (vI x2), some (vI x3), none] [vI (b2i (mem x2 x1))] g2 (rI K)
            have H := H.2
            refine e_ifb_eq (pc := 73) (tgt := 78) dX9_wake_73 (by decide) (fun c3 => ?_) (fun c3 => ?_)
            · have H := H.1 c3
              refine e_iinc (lv' := [some (vR 55), some (vI (x1 + 1)), some (vI x2), some (vI x3), none]) (pc := 78) dX9_wake_78 rfl H.1 rfl rfl ?_
              have H := H.2
              refine e_goto (pc := 81) (tgt := 2) dX9_wake_81 (by decide) ?_
              refine e_mask [true, true, false, false, false] rfl ?_
              obtain ⟨m, hm, H⟩ := H
              exact ih1 m hm _ _ H
            · have H := H.2 c3
              refine e_iload_n (pc := 76) dX9_wake_76 rfl rfl ?_
              exact e_ret (pc := 77) (v := some (vI x1)) dX9_wake_77 rfl trivial ⟨_, rfl, H⟩
          · have H := H.2 c2
            refine e_iload_n (pc := 23) dX9_wake_23 rfl rfl ?_
            refine e_istore_n (lv' := [some (vR 55), some (vI x1), some (vI x2), some (vI x2), none]) (pc := 24) dX9_wake_24 rfl rfl rfl ?_
            refine e_iconst (pc := 25) dX9_wake_25 ⟨by decide, by decide⟩ ?_
            refine e_istore (lv' := [some (vR 55), some (vI x1), some (vI x2), some (vI x2), some (vI 0)]) (pc := 26) dX9_wake_26 rfl rfl ?_
            obtain ⟨m, H⟩ := H
            exact L3 m _ _ _ _ _ H
      intro x1 g1 H
      have H := H1 n1 x1 g1 H
      refine e_iload_n (pc := 2) dX9_wake_2 rfl rfl ?_
      refine e_aload_n (pc := 3) dX9_wake_3 rfl rfl ?_
      refine e_getI (q := 55) (ci := 9) (k := 33) (kz := 33) (C := RX9) (T := TX9) (N := 52) (x := (g1 55 33)) (pc := 4) dX9_wake_4 rfl rfl rfl ev_in9 rfl ul_4_215 ⟨rfl, by decide⟩ rfl ?_
      refine e_icmp_ge (pc := 7) (tgt := 84) dX9_wake_7 (by decide) (fun c1 => ?_) (fun c1 => ?_)
      · have H := H.1 c1
        refine e_bipush (pc := 84) dX9_wake_84 ⟨by decide, by decide⟩ (by decide) ?_
        exact e_ret (pc := 86) (v := some (vI (-4))) dX9_wake_86 rfl trivial ⟨_, rfl, H⟩
      · have H := H.2 c1
        refine e_aload_n (pc := 10) dX9_wake_10 rfl rfl ?_
        refine e_iload_n (pc := 11) dX9_wake_11 rfl rfl ?_
        refine e_invV (pc := 12) (Y' := Y_X9_wakes) (as := [vI x1]) (st := []) (lv0 := [some (vR 55), some (vI x1), none, none, none]) (q := 55) (ci := 9) (T := TX9) (N := 52) dX9_wake_12 m_X9_wakes ul_6_70 ⟨ul_6_72, us_X9_wakes⟩ ⟨rfl, rfl⟩ rfl rfl rfl rfl rfl rfl rfl (c_X9_wakes w x1 g1 H.1) ?_
        rintro _ hz ⟨_, rfl, rfl, hh⟩
        rw [hh]
        show Ev w Y_X9_wake 15 [some (vR 55), some (vI x1), none, none, none] [vI (bset (fun k => g1 79 (5 * k) = 1 ∧ g1 79 (5 * k + 1) = g1 79 (5 * x1 + 3) ∧ g1 79 (5 * k + 2) = g1 79 (5 * x1 + 4)) (g1 55 33).toNat)] g1 (rI K)
        have H := H.2
        refine e_istore_n (lv' := [some (vR 55), some (vI x1), some (vI (bset (fun k => g1 79 (5 * k) = 1 ∧ g1 79 (5 * k + 1) = g1 79 (5 * x1 + 3) ∧ g1 79 (5 * k + 2) = g1 79 (5 * x1 + 4)) (g1 55 33).toNat)), none, none]) (pc := 15) dX9_wake_15 rfl rfl rfl ?_
        refine e_iconst (pc := 16) dX9_wake_16 ⟨by decide, by decide⟩ ?_
        refine e_istore_n (lv' := [some (vR 55), some (vI x1), some (vI (bset (fun k => g1 79 (5 * k) = 1 ∧ g1 79 (5 * k + 1) = g1 79 (5 * x1 + 3) ∧ g1 79 (5 * k + 2) = g1 79 (5 * x1 + 4)) (g1 55 33).toNat)), some (vI (-1)), none]) (pc := 17) dX9_wake_17 rfl rfl rfl ?_
        obtain ⟨m, H⟩ := H
        exact L2 m _ _ _ _ H
  refine e_iconst (pc := 0) dX9_wake_0 ⟨by decide, by decide⟩ ?_
  refine e_istore_n (lv' := [some (vR 55), some (vI 0), none, none, none]) (pc := 1) dX9_wake_1 rfl rfl rfl ?_
  obtain ⟨m, H⟩ := H
  exact L1 m _ _ H
set_option maxRecDepth 100000 in
set_option maxHeartbeats 4000000 in
theorem c_X9_wake (w : WD)  (h : HP) (H : 0 ≤ h 55 33 ∧ h 55 33 ≤ 8) : Ev w Y_X9_wake 0 [some (vR 55), none, none, none, none] [] h (rI (fun r h' => r = (fs4 (selfW (wiM h) (h 55 33)) (h 55 33).toNat) ∧ h' = h)) := by
  have hw : ∀ k : Int, 0 ≤ wiM h k ∧ wiM h k < 256 := fun k => bset_256 (by omega)
  refine v_X9_wake w h _ (fun n x1 g => g = h ∧ ∃ k : Nat, x1 = (k : Int) ∧ (k : Int) ≤ h 55 33 ∧ n = 8 - k ∧ ∀ i : Int, 0 ≤ i → i < (k : Int) → ¬ selfW (wiM h) (h 55 33) i)
    (fun n1 n2 x1 x2 x3 g => g = h ∧ ∃ k : Nat, x1 = (k : Int) ∧ (k : Int) < h 55 33 ∧ n1 = 8 - k ∧ (∀ i : Int, 0 ≤ i → i < (k : Int) → ¬ selfW (wiM h) (h 55 33) i) ∧ (0 ≤ x2 ∧ x2 < 256) ∧ cBas (wiM h) (k : Int) x2 ∧ cMin (wiM h) (h 55 33) (k : Int) x2 ∧ ((x3 = -1 ∧ n2 = 10) ∨ ((0 ≤ x3 ∧ x3 < 256) ∧ (∀ t : Int, 0 ≤ t → mem x3 t → mem x2 t) ∧ cCls (wiM h) (mem x3) (h 55 33) x2 ∧ n2 = (8 - cnt (mem x3) 8).toNat)))
    (fun n1 n2 n3 x1 x2 x3 x4 g => g = h ∧ ∃ k : Nat, x1 = (k : Int) ∧ (k : Int) < h 55 33 ∧ n1 = 8 - k ∧ (∀ i : Int, 0 ≤ i → i < (k : Int) → ¬ selfW (wiM h) (h 55 33) i) ∧ (0 ≤ x2 ∧ x2 < 256) ∧ cBas (wiM h) (k : Int) x2 ∧ cMin (wiM h) (h 55 33) (k : Int) x2 ∧ (0 ≤ x3 ∧ x3 < 256) ∧ (∀ t : Int, 0 ≤ t → mem x3 t → mem x2 t) ∧ (0 ≤ x4 ∧ x4 ≤ h 55 33) ∧ n3 = (8 - x4).toNat ∧ (8 - cnt (mem x3) 8).toNat < n2 ∧ cCls (wiM h) (mem x3) x4 x2)
    ⟨8, rfl, 0, rfl, by omega, rfl, fun i a b => by omega⟩ ?_ ?_ ?_
  · rintro n x1 g ⟨rfl, k, rfl, hk, rfl, hn⟩
    exact ⟨fun c => ⟨(fs4_none (fun i a b => hn i a (by omega))).symm, rfl⟩, fun c => ⟨⟨H, by omega⟩, 10, rfl, k, rfl, by omega, rfl, hn, hw (k : Int), fun t _ m => m, fun D a _ t ht m => a t ht m, Or.inl ⟨rfl, rfl⟩⟩⟩
  · rintro n1 n2 x1 x2 x3 g ⟨rfl, k, rfl, hk, rfl, hn, hx, hb, hm, hc⟩
    refine ⟨fun c => ?_, fun c => ⟨8, rfl, k, rfl, hk, rfl, hn, hx, hb, hm, hx, fun _ _ y => y, by omega, rfl, ?_, fun j j0 j1 => by omega⟩⟩
    · subst c
      have hcl : cCls (wiM g) (mem x2) (g 55 33) x2 := by
        rcases hc with hc | hc
        · omega
        · exact hc.2.2.1
      have hs := selfW_i (W := wiM g) (N := g 55 33) (s := (k : Int)) (by omega) hb hcl hm
      refine ⟨⟨⟨hx.1, by omega⟩, by omega, by omega⟩, fun z => ⟨⟨by omega, by omega⟩, 8 - (k + 1), by omega, rfl, k + 1, by omega, by omega, rfl, fun i a b => ?_⟩, fun z => ⟨(fs4_at hn (hs.mp z) (by omega)).symm, rfl⟩⟩
      by_cases e : i = (k : Int)
      · subst e; exact fun y => z (hs.mpr y)
      · exact hn i a (by omega)
    · have hb8 := cnt_b (mem x2) 8
      rcases hc with hc | hc
      · omega
      · have : cnt (mem x3) 8 + 1 ≤ cnt (mem x2) 8 := by
          refine cnt_lt (fun t t0 _ m => hc.2.1 t t0 m) (Classical.byContradiction (fun y => c (mem_ext (n := 8) hx hc.1 (fun t t0 t1 => ⟨fun m => Classical.byContradiction (fun u => y ⟨t, t0, t1, m, u⟩), fun m => hc.2.1 t t0 m⟩))))
        omega
  · rintro n1 n2 n3 x1 x2 x3 x4 g ⟨rfl, k, rfl, hk, rfl, hn, hx, hb, hm, hx3, hsub, h4, rfl, hms, hc⟩
    refine ⟨fun c => ⟨(8 - cnt (mem x3) 8).toNat, hms, rfl, k, rfl, hk, rfl, hn, hx, hb, hm, Or.inr ⟨hx3, hsub, ?_, rfl⟩⟩, fun c => ⟨⟨⟨hx3.1, by omega⟩, by omega, by omega⟩, ⟨fun _ => trivial, fun _ => ⟨⟨H, by omega⟩, trivial⟩⟩, ⟨by omega, by omega⟩, (8 - (x4 + 1)).toNat, by omega, rfl, k, rfl, hk, rfl, hn, ?_⟩⟩
    · rw [show x4 = g 55 33 by omega] at hc
      exact hc
    · by_cases z : mem x3 x4
      · rw [cif_f (fun y => y z)]
        show (0 ≤ ior x2 (wiM g x4) ∧ ior x2 (wiM g x4) < 256) ∧ cBas (wiM g) (k : Int) (ior x2 (wiM g x4)) ∧ cMin (wiM g) (g 55 33) (k : Int) (ior x2 (wiM g x4)) ∧ (0 ≤ x3 ∧ x3 < 256) ∧ (∀ t : Int, 0 ≤ t → mem x3 t → mem (ior x2 (wiM g x4)) t) ∧ _
        have hmo : ∀ t : Int, mem (ior x2 (wiM g x4)) t ↔ mem x2 t ∨ mem (wiM g x4) t := fun t => mem_ior ⟨hx.1, by omega⟩ ⟨(hw x4).1, by have := (hw x4).2; omega⟩
        refine ⟨ior_256 hx (hw x4), fun t t0 m => (hmo t).mpr (Or.inl (hb t t0 m)), cMin_or hx (hw x4) (by omega) (hsub x4 (by omega) z) hm, hx3, fun t t0 m => (hmo t).mpr (Or.inl (hsub t t0 m)), by omega, rfl, hms, fun j j0 j1 d t t0 m => ?_⟩
        show mem (ior x2 (wiM g x4)) t
        rw [hmo]
        by_cases e : j = x4
        · subst e; exact Or.inr m
        · exact Or.inl (hc j j0 (by omega) d t t0 m)
      · rw [cif_t z, ior_0 ⟨hx.1, by omega⟩]
        refine ⟨hx, hb, hm, hx3, hsub, by omega, rfl, hms, fun j j0 j1 d => ?_⟩
        by_cases e : j = x4
        · subst e; exact absurd d z
        · exact hc j j0 (by omega) d
def S_X8_wake  (h : HP) (K : Int → HP → Prop) : Prop :=
  ((0 ≤ h 6 7 ∧ h 6 7 ≤ 8) ∧ K (fs4 (selfW (wiC h) (h 6 7)) (h 6 7).toNat) h)
set_option maxRecDepth 100000 in
set_option maxHeartbeats 4000000 in
theorem v_X8_wake (w : WD)  (h : HP) (K : Int → HP → Prop) 
    (H : ((0 ≤ h 6 7 ∧ h 6 7 ≤ 8) ∧ K (fs4 (selfW (wiC h) (h 6 7)) (h 6 7).toNat) h)) :
    Ev w Y_X8_wake 0 [some (vR 0)] [] h (rI K) := by
  refine e_aload_n (pc := 0) dX8_wake_0 rfl rfl ?_
  refine e_getR (q := 0) (ci := 8) (k := 5) (y := 6) (C := RX8) (T := TX8) (N := 9) (pc := 1) dX8_wake_1 rfl rfl ev_in8 rfl ul_2_103 ⟨rfl, rfl⟩ rfl ?_
  refine e_invV (pc := 4) (Y' := Y_X6_firstSelfWaker) (as := []) (st := []) (lv0 := [some (vR 6), none]) (q := 6) (ci := 6) (T := TX6) (N := 10) dX8_wake_4 m_X6_firstSelfWaker ul_4_83 ⟨ul_4_84, ul_4_85⟩ ⟨rfl, rfl⟩ rfl rfl rfl rfl rfl rfl rfl (c_X6_firstSelfWaker w h H.1) ?_
  rintro _ hz ⟨_, rfl, rfl, hh⟩
  rw [hh]
  show Ev w Y_X8_wake 7 [some (vR 0)] [vI (fs4 (selfW (wiC h) (h 6 7)) (h 6 7).toNat)] h (rI K)
  have H := H.2
  exact e_ret (pc := 7) (v := some (vI (fs4 (selfW (wiC h) (h 6 7)) (h 6 7).toNat))) dX8_wake_7 rfl trivial ⟨_, rfl, H⟩
theorem c_X8_wake (w : WD)  (h : HP) (K : Int → HP → Prop)  (H : S_X8_wake  h K) : Ev w Y_X8_wake 0 [some (vR 0)] [] h (rI K) := v_X8_wake w  h K  H
