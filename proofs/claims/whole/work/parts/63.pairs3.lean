/-! pairs of calls: readings, habits -/
theorem heard1 {c : HP} (h : c 4 12 = 0 ∨ c 4 12 = 1) (z : ¬ c 4 12 = 0) : c 4 12 = 1 := h.resolve_left z
theorem pr_reading (a b : Int) {n : Nat} {c : HP} (H : Rel n c c) : S_X8_reading a b c (fun r c' => S_X9_reading a b c' (fun r' m' => Fin n r r' m')) := by
  obtain ⟨g1, g2, g3, g4, g5⟩ := H.2.2.2.2.1
  refine ⟨fun z => ⟨fun _ => Fin_u H rfl, fun y => absurd z y⟩, fun z => ?_⟩
  have z1 : 0 ≤ a := Classical.byContradiction (fun y => z (Or.inl (by omega)))
  have z2 : 0 ≤ b ∧ b ≤ 4 := Classical.byContradiction (fun y => z (Or.inr y))
  have h12 := g1.1
  refine ⟨fun y => ⟨fun u => absurd u z, fun _ => ⟨fun _ => Fin_u H rfl, fun u => absurd ?_ u⟩⟩, fun y => ?_⟩
  · rw [g4]
    by_cases q : c 4 12 = 0
    · exact Or.inl q
    · rw [(g5 (heard1 g3 q)).1]; exact Or.inr (y.resolve_left q)
  · have y1 : ¬ c 4 12 = 0 := fun u => y (Or.inl u)
    have y2 : a < c 4 15 := Classical.byContradiction (fun u => y (Or.inr u))
    obtain ⟨k1, k2, k3, k4⟩ := g5 (heard1 g3 y1)
    obtain ⟨x1, x2, x3, x4, x5, x6, x7⟩ := k4 a z1 y2
    have hw := g1.2.2.2 a z1 y2
    have e1 : 3 * a + 1 - 1 = 3 * a := by omega
    have e2 : 3 * a + 2 - 1 = 3 * a + 1 := by omega
    have e3 : 3 * a + 3 - 1 = 3 * a + 2 := by omega
    have fin : ∀ r : Int, r = cif (¬ b = 0) (cif (¬ b = 4) (cif (0 ≤ c 73 (3 * a + b - 1)) (c 73 (3 * a + b - 1)) (-4)) (c 74 a)) (c 72 a) → S_X9_reading a b c (fun r' m' => Fin n r r' m') := fun r hr => ⟨fun u => absurd u z, fun _ => ⟨fun u => absurd u (by rw [g4, k1]; exact fun q => q.elim y1 (fun w => w y2)), fun _ => ⟨⟨fun _ => ⟨fun _ => ⟨⟨by omega, by omega⟩, ⟨by omega, by omega⟩, ⟨by omega, by omega⟩, by omega, fun _ => ⟨⟨by omega, by omega⟩, ⟨by omega, by omega⟩, ⟨by omega, by omega⟩, by omega, trivial⟩, fun _ => trivial⟩, fun _ => ⟨by omega, trivial⟩⟩, fun _ => ⟨by omega, trivial⟩⟩, Fin_u H hr⟩⟩⟩
    refine ⟨fun w => ⟨by omega, fin _ ?_⟩, fun w => ⟨by omega, fin _ ?_⟩, fun w => ⟨by omega, fin _ ?_⟩, fun w => ⟨by omega, ⟨fun _ => ⟨by omega, trivial⟩, fun _ => trivial⟩, fin _ ?_⟩, fun w => ⟨by omega, fin _ ?_⟩⟩
    · rw [cif_f (by omega), x1]
    · rw [cif_t (by omega), cif_t (by omega), w, e1, x2, cif_t hw.1.1]
    · rw [cif_t (by omega), cif_t (by omega), w, e2, x3, cif_t hw.2.1.1]
    · rw [cif_t (show ¬ b = 0 by omega), cif_t (show ¬ b = 4 by omega), w, e3, x4]
      rcases hw.2.2 with q | q
      · rw [q, cif_f (show ¬ ¬ (-1 : Int) = -1 from fun u => u rfl)]
        exact (cif_f (by decide)).symm
      · rw [cif_t (show ¬ c 29 a = -1 by omega)]
        have : nc (c 29 a) = c 29 a := by unfold nc; rw [if_neg (by omega)]
        rw [this, cif_t q.1]
    · rw [cif_t (by omega), cif_f (by omega), x5]
theorem pack_past {f : Int → Int} : ∀ {m n : Nat}, m ≤ n → (∀ i : Int, (m : Int) ≤ i → i < (n : Int) → f i = 0) → pack f n = pack f m
  | m, 0, h, _ => by rw [Nat.le_zero.mp h]
  | m, n + 1, h, hp => by
    by_cases e : m = n + 1
    · rw [e]
    · have h0 := hp (n : Int) (by omega) (by omega)
      rw [pack_s (by omega), h0, Int.zero_mul, Int.add_zero]
      exact pack_past (by omega) (fun i a b => hp i a (by omega))
theorem ouc_eq {c : HP} (h1 : rHs c c) (h4 : rVo c c) (h5 : rHe c c) (hh : c 4 12 = 1) {i : Int} (hi : 0 ≤ i ∧ i < c 4 15) : wAll (c 1 8) (c 30 i) (c 21 (c 27 i)) = oucM c i := by
  obtain ⟨k1, k2, k3, k4⟩ := h5.2.2.2.2 hh
  obtain ⟨x1, x2, x3, x4, x5, x6, x7⟩ := k4 i hi.1 hi.2
  have h10 := h1.1.1
  unfold wAll oucM
  rw [h1.2.2.1, pack_past (m := (c 1 7).toNat) (n := 10) (by omega) (fun t t0 t1 => by
    show cif _ _ _ = 0
    rw [cif_f (x7 t (by omega) t1)]
    exact h1.1.2.2.2.1 t (by omega) t1)]
  refine pack_c (fun t t0 t1 => ?_)
  unfold ouF
  rw [x5, x2, h4.2.2.2.2.1, h1.2.2.2.2.2.2.2.1 t t0 (by omega)]
theorem un_eq {n : Nat} {c : HP} (H : Rel n c c) (hh : c 4 12 = 1) : unl c = unM c := by
  obtain ⟨h1, _, _, h4, h5, _⟩ := H
  obtain ⟨k1, k2, k3, k4⟩ := h5.2.2.2.2 hh
  have h12 := h5.1.1
  unfold unl unM
  rw [k1]
  refine cnt_c (fun i i0 i1 => ?_)
  unfold ulp ulM
  have e75 : ∀ j : Int, 0 ≤ j → j < c 4 15 → c 75 j = c 31 j := fun j a b => (k4 j a b).2.2.2.2.2.1
  rw [e75 i i0 (by omega)]
  refine ⟨fun y => ⟨y.1, fun k k0 ki u => y.2 k k0 ki ?_⟩, fun y => ⟨y.1, fun k k0 ki u => y.2 k k0 ki ?_⟩⟩
  · rw [e75 k k0 (by omega)] at u
    rw [ouc_eq h1 h4 h5 hh ⟨k0, by omega⟩, ouc_eq h1 h4 h5 hh ⟨i0, by omega⟩]
    exact u
  · rw [e75 k k0 (by omega)]
    rw [ouc_eq h1 h4 h5 hh ⟨k0, by omega⟩, ouc_eq h1 h4 h5 hh ⟨i0, by omega⟩] at u
    exact u
theorem pr_open {n : Nat} {c : HP} (H : Rel n c c) : S_X8_open c (fun r c' => S_X9_open c' (fun r' m' => Fin n r r' m')) := by
  obtain ⟨h1, _, _, h4, h5, _⟩ := id H
  refine ⟨⟨fun _ => trivial, fun _ => ⟨⟨h1.1, h4.1, h5.1⟩, trivial⟩⟩, ⟨fun _ => trivial, fun _ => ⟨⟨h1.2.1, h4.2.1, h5.2.1⟩, trivial⟩⟩, Fin_u H ?_⟩
  rw [h5.2.2.2.1]
  by_cases z : c 4 12 = 0
  · rw [cif_t z, cif_t z]
  · rw [cif_f z, cif_f z, un_eq H (heard1 h5.2.2.1 z)]
theorem nc_inj {a b : Int} (ha : -1 ≤ a) (hb : -1 ≤ b) : nc a = nc b ↔ a = b := by
  unfold nc
  by_cases c1 : a < 0
  · by_cases c2 : b < 0
    · rw [if_pos c1, if_pos c2]; omega
    · rw [if_pos c1, if_neg c2]; omega
  · by_cases c2 : b < 0
    · rw [if_neg c1, if_pos c2]; omega
    · rw [if_neg c1, if_neg c2]
theorem part_eq {c : HP} (h5 : rHe c c) (hh : c 4 12 = 1) {i pt wd : Int} (hi : 0 ≤ i ∧ i < c 4 15) (hp : 0 ≤ pt ∧ pt ≤ 2) (hw : (pt = 2 ∧ -1 ≤ wd) ∨ 0 ≤ wd) : c 73 (3 * i + pt) = nc wd ↔ wrd c i pt = wd := by
  obtain ⟨k1, k2, k3, k4⟩ := h5.2.2.2.2 hh
  obtain ⟨x1, x2, x3, x4, x5, x6, x7⟩ := k4 i hi.1 hi.2
  have hh := h5.1.2.2.2 i hi.1 hi.2
  have ncp : ∀ w : Int, 0 ≤ w → nc w = w := fun w h0 => by unfold nc; rw [if_neg (by omega)]
  unfold wrd
  rcases (show pt = 0 ∨ pt = 1 ∨ pt = 2 by omega) with rfl | rfl | rfl
  · rw [show 3 * i + 0 = 3 * i by omega, x2, if_pos rfl, ncp wd (by omega)]
  · rw [x3, if_neg (by decide), if_pos rfl, ncp wd (by omega)]
  · rw [x4, if_neg (by decide), if_neg (by decide)]
    exact nc_inj (by rcases hh.2.2 with q | q <;> omega) (by omega)
theorem wrd_b {c : HP} (h5 : rHe c c) {i pt : Int} (hi : 0 ≤ i ∧ i < c 4 15) (hp : 0 ≤ pt ∧ pt ≤ 2) : (pt = 2 ∧ -1 ≤ wrd c i pt) ∨ 0 ≤ wrd c i pt := by
  have hh := h5.1.2.2.2 i hi.1 hi.2
  unfold wrd
  rcases (show pt = 0 ∨ pt = 1 ∨ pt = 2 by omega) with rfl | rfl | rfl
  · rw [if_pos rfl]; exact Or.inr hh.1.1
  · rw [if_neg (by decide), if_pos rfl]; exact Or.inr hh.2.1.1
  · rw [if_neg (by decide), if_neg (by decide)]; exact Or.inl ⟨rfl, by rcases hh.2.2 with q | q <;> omega⟩
theorem part_i {c : HP} (h5 : rHe c c) (hh : c 4 12 = 1) {i pt : Int} (hi : 0 ≤ i ∧ i < c 4 15) (hp : 0 ≤ pt ∧ pt ≤ 2) : c 73 (3 * i + pt) = nc (wrd c i pt) := (part_eq h5 hh hi hp (wrd_b h5 hi hp)).mpr rfl
theorem gr_eq {c : HP} (h5 : rHe c c) (hh : c 4 12 = 1) {pt : Int} (hp : 0 ≤ pt ∧ pt ≤ 2) : ∀ k : Nat, (k : Int) ≤ c 4 15 → grt c pt k = grM c pt k ∧ 0 ≤ grM c pt k
  | 0, _ => ⟨rfl, Int.le_refl _⟩
  | k + 1, hk => by
    have ih := gr_eq h5 hh hp k (by omega)
    obtain ⟨k1, k2, k3, k4⟩ := h5.2.2.2.2 hh
    have e75 : ∀ j : Int, 0 ≤ j → j < c 4 15 → c 75 j = c 31 j := fun j a b => (k4 j a b).2.2.2.2.2.1
    have h01 := (h5.1.2.2.1 (k : Int) (by omega) (by have := h5.1.1; omega)).2
    simp only [grt, grM]
    rw [ih.1, k1, e75 (k : Int) (by omega) (by omega)]
    refine ⟨?_, by have := ih.2; omega⟩
    have h12 := h5.1.1
    by_cases z : c 31 (k : Int) = 0
    · have e : cnt (fun j => c 31 (k : Int) = 1 ∧ c 75 j = 1 ∧ c 73 (3 * (k : Int) + pt) = c 73 (3 * j + pt)) (c 4 15).toNat = 0 := by
        have := cnt_past (p := fun j => c 31 (k : Int) = 1 ∧ c 75 j = 1 ∧ c 73 (3 * (k : Int) + pt) = c 73 (3 * j + pt)) (m := 0) (n := (c 4 15).toNat) (by omega) (fun i _ _ y => by have := y.1; omega)
        rw [this]; rfl
      rw [cif_t z, e]
      have := ih.2
      omega
    · rw [cif_f z]
      congr 1
      refine cnt_c (fun j j0 j1 => ?_)
      rw [e75 j j0 (by omega), part_i h5 hh (i := (k : Int)) (by omega) hp]
      refine ⟨fun y => ⟨by omega, y.1, ?_⟩, fun y => ⟨y.2.1, ?_⟩⟩
      · rw [← y.2]; exact (part_i h5 hh ⟨j0, by omega⟩ hp).symm
      · exact (part_eq h5 hh ⟨j0, by omega⟩ hp (wrd_b h5 (by omega) hp)).mp y.2.2.symm
theorem pr_ask {n : Nat} {c : HP} (H : Rel n c c) : S_X8_ask c (fun r c' => (mHOK c' ∧ mVOK c' ∧ mEOK c') ∧ Fin n r (askM c') c') := by
  obtain ⟨h1, _, _, h4, h5, _⟩ := id H
  have pre : mHOK c ∧ mVOK c ∧ mEOK c := ⟨h1.2.1, h4.2.1, h5.2.1⟩
  refine ⟨fun z => ⟨⟨h1.1, h4.1, h5.1⟩, ⟨fun _ => ⟨h5.1, trivial⟩, fun _ => trivial⟩, pre, Fin_u H ?_⟩, fun z => ⟨pre, Fin_u H ?_⟩⟩
  · have hh := heard1 h5.2.2.1 z
    have k1 := (h5.2.2.2.2 hh).1
    have h12 := h5.1.1
    unfold askM
    rw [h5.2.2.2.1, cif_f z, un_eq H hh, k1, (gr_eq h5 hh (pt := 0) (by omega) _ (by omega)).1, (gr_eq h5 hh (pt := 1) (by omega) _ (by omega)).1, (gr_eq h5 hh (pt := 2) (by omega) _ (by omega)).1]
  · unfold askM
    rw [h5.2.2.2.1, cif_t z]
theorem pr_answer (a b : Int) {n : Nat} {c : HP} (H : Rel n c c) : S_X8_answer a b c (fun r c' => S_X9_answer a b c' (fun r' m' => Fin n r r' m')) := by
  obtain ⟨h1, _, _, h4, h5, _⟩ := id H
  have h16 := h4.1.1
  have e10 := h4.2.2.1
  have hok : ((0 ≤ a ∧ a ≤ 2) ∧ (cif (¬ a = 2) 0 (-1) ≤ b ∧ b ≤ c 3 6 - 1)) ↔ okA c a b := by
    unfold okA
    rw [e10]
    by_cases e : a = 2
    · rw [cif_f (fun y => y e)]; omega
    · rw [cif_t e]; omega
  refine ⟨⟨fun _ => trivial, fun _ => ⟨⟨by omega, by omega⟩, trivial⟩⟩, fun z => ?_, fun z => ⟨⟨h5.2.1, by rw [e10]; exact h16⟩, fun _ => Fin_u H rfl, fun y => absurd (hok.mpr y) z⟩⟩
  have za := hok.mp z
  have hw : (a = 2 ∧ -1 ≤ b) ∨ 0 ≤ b := by rcases za.2.1 with y | y <;> omega
  have h12 := h5.1.1
  have eop : c 4 12 = 1 → opW c a b = opM c a (nc b) := fun hh => by
    obtain ⟨k1, k2, k3, k4⟩ := h5.2.2.2.2 hh
    unfold opW opM
    rw [k1]
    refine cnt_c (fun i i0 i1 => ?_)
    rw [(k4 i i0 (by omega)).2.2.2.2.2.1, part_eq h5 hh ⟨i0, by omega⟩ za.1 hw]
  have ecnd : (c 4 12 = 0 ∨ opW c a b = 0) ↔ (c 55 20 = 0 ∨ opM c a (nc b) = 0) := by
    rw [h5.2.2.2.1]
    by_cases q : c 4 12 = 0
    · exact ⟨fun _ => Or.inl q, fun _ => Or.inl q⟩
    · rw [eop (heard1 h5.2.2.1 q)]
  refine ⟨h5.1, fun y => ⟨⟨h5.2.1, by rw [e10]; exact h16⟩, fun u => absurd za u, fun _ => ⟨fun _ => Fin_u H rfl, fun u => absurd (ecnd.mp y) u⟩⟩, fun y c' p1 p2 p3 => ?_⟩
  have HM : Rel n c c' := Rel_c H (fun _ _ => rfl) (fun q a => p1 q (by omega))
  have hh : c 4 12 = 1 := heard1 h5.2.2.1 (fun u => y (Or.inl u))
  have f55 : c' 55 = c 55 := p1 _ (by decide)
  have f73 : c' 73 = c 73 := p1 _ (by decide)
  have f75 : c' 75 = c 75 := p1 _ (by decide)
  have eopM : opM c' a (nc b) = opM c a (nc b) := by unfold opM; rw [f55, f73, f75]
  obtain ⟨g1, g2, g3, g4, g5, g6, g7, g8, g9⟩ := HM
  refine ⟨⟨g5.2.1, by rw [f55, e10]; exact h16⟩, fun u => absurd (by unfold okA; rw [f55]; exact za) u, fun _ => ⟨fun u => absurd (by rw [eopM, f55] at u; exact ecnd.mpr u) y, fun _ m' q1 q2 q3 => ?_⟩⟩
  refine Fin_m (c' := c') ⟨rHs_c g1 (by (repeat' apply And.intro) <;> first | (apply p1 <;> decide) | (refine congrFun ?_ _; apply p1 <;> decide) | rfl) (by (repeat' apply And.intro) <;> first | (apply q1 <;> decide) | (refine congrFun ?_ _; apply q1 <;> decide) | rfl), rTx_c g2 (by (repeat' apply And.intro) <;> first | (apply p1 <;> decide) | (refine congrFun ?_ _; apply p1 <;> decide) | rfl) (by (repeat' apply And.intro) <;> first | (apply q1 <;> decide) | (refine congrFun ?_ _; apply q1 <;> decide) | rfl), rRl_c g3 (by (repeat' apply And.intro) <;> first | (apply p1 <;> decide) | (refine congrFun ?_ _; apply p1 <;> decide) | rfl) (by (repeat' apply And.intro) <;> first | (apply q1 <;> decide) | (refine congrFun ?_ _; apply q1 <;> decide) | rfl), rVo_c g4 (by (repeat' apply And.intro) <;> first | (apply p1 <;> decide) | (refine congrFun ?_ _; apply p1 <;> decide) | rfl) (by (repeat' apply And.intro) <;> first | (apply q1 <;> decide) | (refine congrFun ?_ _; apply q1 <;> decide) | rfl), ?_, rDe_c g6 (by (repeat' apply And.intro) <;> first | (apply p1 <;> decide) | (refine congrFun ?_ _; apply p1 <;> decide) | rfl) (by (repeat' apply And.intro) <;> first | (apply q1 <;> decide) | (refine congrFun ?_ _; apply q1 <;> decide) | rfl), rSt_c g7 (by (repeat' apply And.intro) <;> first | (apply p1 <;> decide) | (refine congrFun ?_ _; apply p1 <;> decide) | rfl) (by (repeat' apply And.intro) <;> first | (apply q1 <;> decide) | (refine congrFun ?_ _; apply q1 <;> decide) | rfl), rLg_c g8 (by (repeat' apply And.intro) <;> first | (apply p1 <;> decide) | (refine congrFun ?_ _; apply p1 <;> decide) | rfl) (by (repeat' apply And.intro) <;> first | (apply q1 <;> decide) | (refine congrFun ?_ _; apply q1 <;> decide) | rfl), rNm_c g9 (by (repeat' apply And.intro) <;> first | (apply p1 <;> decide) | (refine congrFun ?_ _; apply p1 <;> decide) | rfl) (by (repeat' apply And.intro) <;> first | (apply q1 <;> decide) | (refine congrFun ?_ _; apply q1 <;> decide) | rfl)⟩ (by rw [eopM]; exact eop hh) (fun q a => q1 q (by omega))
  obtain ⟨k1, k2, k3, k4⟩ := h5.2.2.2.2 hh
  have p31 : ∀ i : Int, 0 ≤ i → i < 12 → c' 31 i = 0 ∨ c' 31 i = 1 := fun i i0 i1 => by
    by_cases e : i < c 4 15
    · rw [p2 i i0 e]; exact b2i_01 _
    · rw [p3 i (Or.inr (by omega))]; exact (h5.1.2.2.1 i i0 i1).2
  have q75 : ∀ i : Int, 0 ≤ i → i < 12 → m' 75 i = 0 ∨ m' 75 i = 1 := fun i i0 i1 => by
    by_cases e : i < c' 55 23
    · rw [q2 i i0 e]; exact b2i_01 _
    · rw [q3 i (Or.inr (by omega)), f75]; exact (h5.2.1.2.2.1 i i0 i1).2
  refine ⟨EOK_31 h5.1 p1 p31, ?_, by rw [p1 4 (by decide)]; exact h5.2.2.1, by rw [q1 55 (by decide), f55, p1 4 (by decide)]; exact h5.2.2.2.1, fun _ => ?_⟩
  · have h2 := g5.2.1
    unfold mEOK at h2 ⊢
    rw [q1 55 (by decide), q1 64 (by decide), q1 73 (by decide), q1 74 (by decide)]
    exact ⟨h2.1, h2.2.1, fun i i0 i1 => ⟨(h2.2.2.1 i i0 i1).1, q75 i i0 i1⟩, h2.2.2.2⟩
  · have ew : whM m' = whM c := by unfold whM; rw [q1 55 (by decide), f55]
    rw [ew, q1 55 (by decide), f55, q1 72 (by decide), q1 73 (by decide), q1 74 (by decide), p1 4 (by decide), p1 26 (by decide), p1 27 (by decide), p1 28 (by decide), p1 29 (by decide), p1 30 (by decide), p1 1 (by decide), p1 72 (by decide), p1 74 (by decide), f73]
    refine ⟨k1, k2, k3, fun i i0 i1 => ?_⟩
    obtain ⟨x1, x2, x3, x4, x5, x6, x7⟩ := k4 i i0 i1
    refine ⟨x1, x2, x3, x4, x5, ?_, x7⟩
    rw [p2 i i0 i1, q2 i i0 (by rw [f55, k1]; exact i1), f75, f73, x6]
    exact b2i_c (by rw [part_eq h5 hh ⟨i0, i1⟩ za.1 hw])
theorem hs_eq {m : HP} {L : List LE} (hL : lgM m L) (day hr t v : Int) : hsM m day hr t v ↔ hsL L day hr t v := by
  unfold hsM hsL
  rw [hL.1]
  constructor
  · rintro ⟨k, k0, k1, e1, e2, e3, e4⟩
    obtain ⟨j, rfl⟩ : ∃ j : Nat, k = (j : Int) := ⟨k.toNat, by omega⟩
    have hj : j < L.length := by omega
    refine ⟨L.getD j d0, gD_mem hj, ?_⟩
    rw [← hL.2.2 j hj]
    unfold leM
    rw [e1, e2, e3, e4]
  · rintro ⟨e, he, e2⟩
    obtain ⟨j, hj, hx⟩ := List.getElem_of_mem he
    have hg : leM m (j : Int) = e := by rw [hL.2.2 j hj, List.getD_eq_getElem?_getD, List.getElem?_eq_getElem hj]; exact hx
    rw [← hg] at e2
    unfold leM at e2
    simp only [Prod.mk.injEq] at e2
    exact ⟨(j : Int), by omega, by omega, e2.1, e2.2.1, e2.2.2.1, e2.2.2.2⟩
theorem cnt_front {p : Int → Prop} : ∀ n : Nat, cnt p (n + 1) = b2i (p 0) + cnt (fun i => p (i + 1)) n
  | 0 => by simp only [cnt]; show 0 + b2i (p 0) = b2i (p 0) + 0; omega
  | n + 1 => by
    have ih := cnt_front (p := p) n
    have e : cnt p (n + 1 + 1) = cnt p (n + 1) + b2i (p ((n + 1 : Nat) : Int)) := rfl
    rw [e, ih]
    simp only [cnt]
    rw [show ((n + 1 : Nat) : Int) = (n : Int) + 1 by omega]
    omega
theorem cnt_rev {p : Int → Prop} : ∀ n : Nat, cnt p n = cnt (fun i => p ((n : Int) - 1 - i)) n
  | 0 => rfl
  | n + 1 => by
    have ih := cnt_rev (p := fun i => p (i + 1)) n
    rw [cnt_front, ih]
    simp only [cnt]
    rw [show ((n + 1 : Nat) : Int) - 1 - (n : Int) = 0 by omega, Int.add_comm]
    congr 1
    refine cnt_c (fun i _ _ => ?_)
    rw [show (n : Int) - 1 - i + 1 = ((n + 1 : Nat) : Int) - 1 - i by omega]
theorem wkP_split {p : Int → Prop} {m : Nat} : ∀ n : Nat, wkP p (m + n) = wkP p m ++ (wkP (fun i => p ((m : Int) + i)) n).map (fun i => (m : Int) + i)
  | 0 => by simp [wkP]
  | n + 1 => by
    have ih := wkP_split (p := p) (m := m) n
    have e : ((m + n : Nat) : Int) = (m : Int) + (n : Int) := by omega
    rw [← Nat.add_assoc]
    by_cases c : p ((m : Int) + (n : Int))
    · rw [wkP_t (p := p) (k := m + n) (by rw [e]; exact c), wkP_t (p := fun i => p ((m : Int) + i)) c, ih, List.map_append, ← List.append_assoc, e]
      rfl
    · rw [wkP_f (p := p) (k := m + n) (by rw [e]; exact c), wkP_f (p := fun i => p ((m : Int) + i)) c, ih]
theorem wkP_past {p : Int → Prop} {m n : Nat} (h : m ≤ n) (hp : ∀ i : Int, (m : Int) ≤ i → i < (n : Int) → ¬ p i) : wkP p n = wkP p m := by
  obtain ⟨k, rfl⟩ : ∃ k, n = m + k := ⟨n - m, by omega⟩
  rw [wkP_split, wkP_nil (p := fun i => p ((m : Int) + i)) (fun i a b => hp _ (by omega) (by omega)), List.map_nil, List.append_nil]
theorem told_eq {P Q : Int → Prop} (h : ∀ a b : Int, 0 ≤ a → a < 240 → 0 ≤ b → b < 10 → (Q (10 * a + b) ↔ (b < 4 ∧ P (4 * a + b)))) : ∀ a : Nat, a ≤ 240 → wkP Q (10 * a) = (wkP P (4 * a)).map tld
  | 0, _ => rfl
  | a + 1, ha => by
    have ih := told_eq h a (by omega)
    have e1 : wkP (fun i => Q (((10 * a : Nat) : Int) + i)) 10 = wkP (fun i => P (((4 * a : Nat) : Int) + i)) 4 := by
      rw [wkP_past (m := 4) (by decide) (fun i i0 i1 y => by
        have := (h (a : Int) i (by omega) (by omega) (by omega) (by omega)).mp (by rw [show 10 * (a : Int) + i = ((10 * a : Nat) : Int) + i by omega]; exact y)
        have := this.1
        omega)]
      refine wkP_c (fun i i0 i1 => ?_)
      have := h (a : Int) i (by omega) (by omega) (by omega) (by omega)
      rw [show ((10 * a : Nat) : Int) + i = 10 * (a : Int) + i by omega, show ((4 * a : Nat) : Int) + i = 4 * (a : Int) + i by omega, this]
      exact ⟨fun y => y.2, fun y => ⟨by omega, y⟩⟩
    rw [show 10 * (a + 1) = 10 * a + 10 by omega, show 4 * (a + 1) = 4 * a + 4 by omega, wkP_split, wkP_split, ih, e1, List.map_append, List.map_map]
    congr 1
    refine List.map_congr_left (fun i hi => ?_)
    have := (wkP_m _ _ _ hi).1
    show ((10 * a : Nat) : Int) + i = tld (((4 * a : Nat) : Int) + i)
    unfold tld
    omega
theorem pr_habits (d k i : Int) {n : Nat} {c : HP} (H : Rel n c c) (hn : n ≤ 600) : S_X8_habits d k i c (fun r c' => ((0 ≤ c' 55 0 ∧ c' 55 0 ≤ 10) ∧ (0 ≤ c' 55 8 ∧ c' 55 8 ≤ 1000000000) ∧ (0 ≤ c' 55 36 ∧ c' 55 36 ≤ 60)) ∧ Fin n r (hbM c' d k i) c') := by
  obtain ⟨h1, _, _, _, _, _, _, ⟨L, hC, hM, hO⟩, h9⟩ := id H
  have h10 := h1.1.1
  have h60 := hM.2.1
  have e36 := hM.1
  have hour := h9.2.2.2.2.1
  have pre : ∀ c' : HP, c' 55 = c 55 → (0 ≤ c' 55 0 ∧ c' 55 0 ≤ 10) ∧ (0 ≤ c' 55 8 ∧ c' 55 8 ≤ 1000000000) ∧ (0 ≤ c' 55 36 ∧ c' 55 36 ≤ 60) := fun c' e => by
    rw [e, h1.2.2.1, h9.1]; exact ⟨h10, by omega, by omega⟩
  refine ⟨fun z => ⟨by omega, L, ⟨hC, fun e he => by have := hO e he; exact ⟨this.1, this.2.1, by omega, this.2.2.2⟩, by omega, z.1⟩, fun c' p1 p2 => ?_⟩, fun z => ⟨pre c rfl, Fin_u H ?_⟩⟩
  · have HM : Rel n c c' := Rel_c H (fun _ _ => rfl) (fun q a => p1 q (by omega))
    have f55 : c' 55 = c 55 := p1 _ (by decide)
    have hM' : lgM c' L := by
      refine ⟨by rw [f55]; exact hM.1, hM.2.1, fun j hj => ?_⟩
      rw [leM_c (h := c) (p1 _ (by decide))]
      exact hM.2.2 j hj
    have hb : ∀ k : Int, 0 ≤ k → k < 960 → 0 ≤ c' 53 k ∧ c' 53 k < 65536 := fun k k0 k1 => by
      rw [p2 k k0 k1, bset_past (m := 14) (by decide) (fun a a0 a1 y => by have := y.1; have := z.1; omega)]
      have := bset_b (fun a => a < d ∧ hsL L (c 1 9 / 24 - a) (k / 40) (k / 4 % 10) (k % 4)) (n := 14)
      omega
    refine ⟨⟨fun _ => ⟨⟨hb, by have := z.2.2; omega⟩, trivial⟩, fun _ => ⟨hb, trivial⟩⟩, pre c' f55, ⟨?_, ?_⟩⟩
    · have hcv : ∀ j : Int, 0 ≤ j → j < 960 → cnt (mem (c' 53 j)) 16 = cnt (fun a => hsL L (c 1 9 / 24 - a) (j / 40) (j / 4 % 10) (j % 4)) d.toNat := fun j j0 j1 => by
        rw [p2 j j0 j1]
        have e1 : cnt (mem (bset (fun a => a < d ∧ hsL L (c 1 9 / 24 - a) (j / 40) (j / 4 % 10) (j % 4)) 31)) 16 = cnt (fun a => a < d ∧ hsL L (c 1 9 / 24 - a) (j / 40) (j / 4 % 10) (j % 4)) 16 := cnt_c (fun a a0 a1 => by rw [mem_bset a0]; exact ⟨fun y => y.2, fun y => ⟨by omega, y⟩⟩)
        rw [e1, cnt_past (m := d.toNat) (by have := z.1; omega) (fun a a0 a1 y => by have := y.1; omega)]
        exact cnt_c (fun a a0 a1 => ⟨fun y => y.2, fun y => ⟨by omega, y⟩⟩)
      have hdy : ∀ hr t v : Int, dyM c' d hr t v = cnt (fun a => hsL L (c 1 9 / 24 - a) hr t v) d.toNat := fun hr t v => by
        unfold dyM
        rw [cnt_rev]
        refine cnt_c (fun a a0 a1 => ?_)
        rw [hs_eq hM', f55, h9.1, show c 1 9 / 24 - d + 1 + (((d.toNat : Nat) : Int) - 1 - a) = c 1 9 / 24 - a by have := z.1; omega]
      have hQP : wkP (hbQ c' d k) 2400 = (wkP (fun j => k ≤ cnt (mem (c' 53 j)) 16) 960).map tld := by
        refine told_eq (fun a b a0 a1 b0 b1 => ?_) 240 (Nat.le_refl _)
        unfold hbQ
        rw [hdy, f55, h1.2.2.1]
        have x1 : (10 * a + b) % 10 = b := by omega
        have x2 : (10 * a + b) / 10 % 10 = a % 10 := by omega
        have x3 : (10 * a + b) / 100 = a / 10 := by omega
        rw [x1, x2, x3]
        by_cases hb4 : b < 4
        · rw [hcv (4 * a + b) (by omega) (by omega)]
          have y1 : (4 * a + b) % 4 = b := by omega
          have y2 : (4 * a + b) / 4 % 10 = a % 10 := by omega
          have y3 : (4 * a + b) / 40 = a / 10 := by omega
          rw [y1, y2, y3]
          refine ⟨fun y => ⟨hb4, y.2.2⟩, fun y => ⟨hb4, ?_, y.2⟩⟩
          obtain ⟨u, _, _, e, he, e2⟩ := cnt_ex (p := fun u => hsL L (c 1 9 / 24 - u) (a / 10) (a % 10) b) (n := d.toNat) (by have := y.2; have := z.2.1; omega)
          have ho := hO e he
          rw [e2] at ho
          exact ho.2.2.1.2
        · exact ⟨fun y => absurd y.1 hb4, fun y => absurd y.1 hb4⟩
      unfold hbM
      rw [cif_t (show okHb d k i from z), hQP]
      by_cases zi : i = -1
      · rw [cif_f (fun y => y zi), cif_f (by omega), List.length_map]
      · rw [cif_t zi, cif_t (by have := z.2.2; omega)]
    · obtain ⟨g1, g2, g3, g4, g5, g6, g7, g8, g9⟩ := HM
      exact Rel_c (c := c') (m := c') ⟨rHs_c g1 (by (repeat' apply And.intro) <;> first | (apply p1 <;> decide) | (refine congrFun ?_ _; apply p1 <;> decide) | rfl) ⟨rfl, rfl, rfl, rfl, rfl, rfl, rfl⟩, rTx_c g2 (by (repeat' apply And.intro) <;> first | (apply p1 <;> decide) | (refine congrFun ?_ _; apply p1 <;> decide) | rfl) ⟨rfl, rfl⟩, rRl_c g3 (by (repeat' apply And.intro) <;> first | (apply p1 <;> decide) | (refine congrFun ?_ _; apply p1 <;> decide) | rfl) ⟨rfl, rfl⟩, rVo_c g4 (by (repeat' apply And.intro) <;> first | (apply p1 <;> decide) | (refine congrFun ?_ _; apply p1 <;> decide) | rfl) ⟨rfl, rfl, rfl, rfl, rfl, rfl, rfl, rfl⟩, rHe_c g5 (by (repeat' apply And.intro) <;> first | (apply p1 <;> decide) | (refine congrFun ?_ _; apply p1 <;> decide) | rfl) ⟨rfl, rfl, rfl, rfl, rfl, rfl, rfl, rfl, rfl, rfl⟩, rDe_c g6 (by (repeat' apply And.intro) <;> first | (apply p1 <;> decide) | (refine congrFun ?_ _; apply p1 <;> decide) | rfl) ⟨rfl, rfl, rfl, rfl, rfl⟩, rSt_c g7 (by (repeat' apply And.intro) <;> first | (apply p1 <;> decide) | (refine congrFun ?_ _; apply p1 <;> decide) | rfl) ⟨rfl, rfl, rfl⟩, rLg_c g8 (by (repeat' apply And.intro) <;> first | (apply p1 <;> decide) | (refine congrFun ?_ _; apply p1 <;> decide) | rfl) ⟨rfl, rfl⟩, rNm_c g9 (by (repeat' apply And.intro) <;> first | (apply p1 <;> decide) | (refine congrFun ?_ _; apply p1 <;> decide) | rfl) ⟨rfl, rfl, rfl, rfl⟩⟩ (fun _ _ => rfl) (fun _ _ => rfl)
  · unfold hbM
    rw [cif_f (show ¬ okHb d k i from z)]
