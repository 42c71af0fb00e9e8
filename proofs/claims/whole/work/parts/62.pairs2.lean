/-! pairs of calls: things, folk, standing, the log, what is taken back -/
theorem rHe_g {c m c' m' : HP} (h : rHe c m) (e : c' 4 12 = c 4 12 ∧ c' 4 13 = c 4 13 ∧ c' 4 14 = c 4 14 ∧ c' 4 15 = c 4 15 ∧ c' 26 = c 26 ∧ c' 27 = c 27 ∧ c' 28 = c 28 ∧ c' 29 = c 29 ∧ c' 30 = c 30 ∧ c' 31 = c 31 ∧ c' 3 6 = c 3 6 ∧ c' 20 = c 20) (e7 : c 1 7 ≤ c' 1 7) (f : m' 55 20 = m 55 20 ∧ m' 55 21 = m 55 21 ∧ m' 55 22 = m 55 22 ∧ m' 55 23 = m 55 23 ∧ m' 55 10 = m 55 10 ∧ m' 64 = m 64 ∧ m' 72 = m 72 ∧ m' 73 = m 73 ∧ m' 74 = m 74 ∧ m' 75 = m 75) : rHe c' m' := by
  obtain ⟨e1, e2, e3, e4, e5, e6, e7', e8, e9, e10, e11, e12⟩ := e
  obtain ⟨f1, f2, f3, f4, f5, f6, f7, f8, f9, f10⟩ := f
  unfold rHe EOK mEOK whM at h ⊢
  rw [e1, e2, e3, e4, e5, e6, e7', e8, e9, e10, e11, e12, f1, f2, f3, f4, f5, f6, f7, f8, f9, f10]
  refine ⟨h.1, h.2.1, h.2.2.1, h.2.2.2.1, fun y => ?_⟩
  have q := h.2.2.2.2 y
  refine ⟨q.1, q.2.1, q.2.2.1, fun i a b => ?_⟩
  obtain ⟨x1, x2, x3, x4, x5, x6, x7⟩ := q.2.2.2 i a b
  exact ⟨x1, x2, x3, x4, x5, x6, fun t t0 t1 => x7 t (by omega) t1⟩
theorem rSt_g {c m c' m' : HP} (h : rSt c m) (e : c' 6 7 = c 6 7 ∧ c' 39 = c 39 ∧ c' 40 = c 40 ∧ c' 41 = c 41 ∧ c' 42 = c 42) (e7 : c 1 7 ≤ c' 1 7) (f : m' 55 33 = m 55 33 ∧ m' 79 = m 79) (f0 : m 55 0 ≤ m' 55 0) : rSt c' m' := by
  obtain ⟨e1, e2, e3, e4, e5⟩ := e
  unfold rSt SOK MSOK stP at h ⊢
  rw [e1, e2, e3, e4, e5, f.1, f.2]
  refine ⟨⟨h.1.1, fun s a b => ?_⟩, ⟨h.2.1.1, fun s a b => ?_⟩, h.2.2⟩
  · have := h.1.2 s a b; exact ⟨by omega, this.2⟩
  · have := h.2.1.2 s a b; exact ⟨by omega, this.2⟩
theorem rLg_g {c m c' m' : HP} (h : rLg c m) (e : c' 8 6 = c 8 6 ∧ c' 48 = c 48 ∧ c' 49 = c 49 ∧ c' 50 = c 50 ∧ c' 51 = c 51 ∧ c' 52 = c 52) (e7 : c 1 7 ≤ c' 1 7) (f : m' 55 36 = m 55 36 ∧ m' 80 = m 80) : rLg c' m' := by
  obtain ⟨e1, e2, e3, e4, e5, e6⟩ := e
  obtain ⟨L, h1, h2, h3⟩ := h
  unfold rLg lgC lgM leC leM at *
  rw [e1, e2, e3, e4, e5, e6, f.1, f.2]
  exact ⟨L, h1, h2, fun x hx => by have := h3 x hx; exact ⟨this.1, this.2.1, by omega, this.2.2.2⟩⟩
theorem pr_thing (a b d : Int) {n : Nat} {c : HP} (H : Rel n c c) : S_X8_thing a b d c (fun r c' => S_X9_thing a b d c' (fun r' m' => Fin n r r' m')) := by
  obtain ⟨⟨hH, hM, e0, _⟩, _⟩ := id H
  have h10 := hH.1
  refine ⟨fun z => ⟨fun zl => ⟨by omega, by omega, by omega, ⟨by omega, by omega⟩, ⟨by omega, by omega⟩, ?_⟩, fun zl => ⟨fun _ => ⟨fun y => by omega, fun _ => Fin_u H rfl⟩, fun y => absurd z y⟩⟩, fun z => ⟨fun y => absurd y z, fun _ => Fin_u H rfl⟩⟩
  have p1 : ∀ q, q ≠ 9 → q ≠ 10 → q ≠ 11 → q ≠ 1 → sth (sth (sth (sth c 9 (c 1 7) a) 10 (c 1 7) b) 11 (c 1 7) d) 1 7 (c 1 7 + 1) q = c q := fun q a1 a2 a3 a4 => by rw [sth_ne a4, sth_ne a3, sth_ne a2, sth_ne a1]
  have p2 : ∀ i : Int, i ≠ 7 → sth (sth (sth (sth c 9 (c 1 7) a) 10 (c 1 7) b) 11 (c 1 7) d) 1 7 (c 1 7 + 1) 1 i = c 1 i := fun i a1 => by rw [sth_eq, us_n a1, sth_ne (by decide), sth_ne (by decide), sth_ne (by decide)]
  have k7 : sth (sth (sth (sth c 9 (c 1 7) a) 10 (c 1 7) b) 11 (c 1 7) d) 1 7 (c 1 7 + 1) 1 7 = c 1 7 + 1 := by rw [sth_eq, us_s]
  have k9 : sth (sth (sth (sth c 9 (c 1 7) a) 10 (c 1 7) b) 11 (c 1 7) d) 1 7 (c 1 7 + 1) 9 = us (c 9) (c 1 7) a := by rw [sth_ne (by decide), sth_ne (by decide), sth_ne (by decide), sth_eq]
  have k10 : sth (sth (sth (sth c 9 (c 1 7) a) 10 (c 1 7) b) 11 (c 1 7) d) 1 7 (c 1 7 + 1) 10 = us (c 10) (c 1 7) b := by rw [sth_ne (by decide), sth_ne (by decide), sth_eq, sth_ne (by decide)]
  have k11 : sth (sth (sth (sth c 9 (c 1 7) a) 10 (c 1 7) b) 11 (c 1 7) d) 1 7 (c 1 7 + 1) 11 = us (c 11) (c 1 7) d := by rw [sth_ne (by decide), sth_eq, sth_ne (by decide), sth_ne (by decide)]
  generalize sth (sth (sth (sth c 9 (c 1 7) a) 10 (c 1 7) b) 11 (c 1 7) d) 1 7 (c 1 7 + 1) = c' at *
  have HM : Rel n c c' := Rel_c H (fun _ _ => rfl) (fun q a => p1 q (by omega) (by omega) (by omega) (by omega))
  obtain ⟨h1, h2, h3, h4, h5, h6, h7, h8, h9⟩ := HM
  have e0' := h1.2.2.1
  refine ⟨fun _ => ⟨fun y => ⟨by omega, by omega, by omega, by omega, ⟨by omega, by omega⟩, ⟨by omega, by omega⟩, ?_⟩, fun y => by omega⟩, fun y => absurd z y⟩
  rw [e0']
  have q1 : ∀ q, q ≠ 56 → q ≠ 57 → q ≠ 58 → q ≠ 61 → q ≠ 55 → sth (sth (sth (sth (sth c' 56 (c 1 7) a) 57 (c 1 7) b) 58 (c 1 7) d) 61 (c 1 7) (-4)) 55 0 (c 1 7 + 1) q = c' q := fun q a1 a2 a3 a4 a5 => by rw [sth_ne a5, sth_ne a4, sth_ne a3, sth_ne a2, sth_ne a1]
  have q2 : ∀ i : Int, i ≠ 0 → sth (sth (sth (sth (sth c' 56 (c 1 7) a) 57 (c 1 7) b) 58 (c 1 7) d) 61 (c 1 7) (-4)) 55 0 (c 1 7 + 1) 55 i = c' 55 i := fun i a1 => by rw [sth_eq, us_n a1, sth_ne (by decide), sth_ne (by decide), sth_ne (by decide), sth_ne (by decide)]
  have l0 : sth (sth (sth (sth (sth c' 56 (c 1 7) a) 57 (c 1 7) b) 58 (c 1 7) d) 61 (c 1 7) (-4)) 55 0 (c 1 7 + 1) 55 0 = c 1 7 + 1 := by rw [sth_eq, us_s]
  have l56 : sth (sth (sth (sth (sth c' 56 (c 1 7) a) 57 (c 1 7) b) 58 (c 1 7) d) 61 (c 1 7) (-4)) 55 0 (c 1 7 + 1) 56 = us (c' 56) (c 1 7) a := by rw [sth_ne (by decide), sth_ne (by decide), sth_ne (by decide), sth_ne (by decide), sth_eq]
  have l57 : sth (sth (sth (sth (sth c' 56 (c 1 7) a) 57 (c 1 7) b) 58 (c 1 7) d) 61 (c 1 7) (-4)) 55 0 (c 1 7 + 1) 57 = us (c' 57) (c 1 7) b := by rw [sth_ne (by decide), sth_ne (by decide), sth_ne (by decide), sth_eq, sth_ne (by decide)]
  have l58 : sth (sth (sth (sth (sth c' 56 (c 1 7) a) 57 (c 1 7) b) 58 (c 1 7) d) 61 (c 1 7) (-4)) 55 0 (c 1 7 + 1) 58 = us (c' 58) (c 1 7) d := by rw [sth_ne (by decide), sth_ne (by decide), sth_eq, sth_ne (by decide), sth_ne (by decide)]
  have l61 : sth (sth (sth (sth (sth c' 56 (c 1 7) a) 57 (c 1 7) b) 58 (c 1 7) d) 61 (c 1 7) (-4)) 55 0 (c 1 7 + 1) 61 = us (c' 61) (c 1 7) (-4) := by rw [sth_ne (by decide), sth_eq, sth_ne (by decide), sth_ne (by decide), sth_ne (by decide)]
  generalize sth (sth (sth (sth (sth c' 56 (c 1 7) a) 57 (c 1 7) b) 58 (c 1 7) d) 61 (c 1 7) (-4)) 55 0 (c 1 7 + 1) = m' at *
  refine Fin_m (c' := c') ⟨?_, rTx_c h2 (by (repeat' apply And.intro) <;> first | (apply p1 <;> decide) | (apply p2 <;> decide) | (refine congrFun ?_ _; apply p1 <;> decide) | (refine congrFun ?_ _; apply p2 <;> decide) | rfl) (by (repeat' apply And.intro) <;> first | (apply q1 <;> decide) | (apply q2 <;> decide) | (refine congrFun ?_ _; apply q1 <;> decide) | (refine congrFun ?_ _; apply q2 <;> decide) | rfl), rRl_c h3 (by (repeat' apply And.intro) <;> first | (apply p1 <;> decide) | (apply p2 <;> decide) | (refine congrFun ?_ _; apply p1 <;> decide) | (refine congrFun ?_ _; apply p2 <;> decide) | rfl) (by (repeat' apply And.intro) <;> first | (apply q1 <;> decide) | (apply q2 <;> decide) | (refine congrFun ?_ _; apply q1 <;> decide) | (refine congrFun ?_ _; apply q2 <;> decide) | rfl), rVo_c h4 (by (repeat' apply And.intro) <;> first | (apply p1 <;> decide) | (apply p2 <;> decide) | (refine congrFun ?_ _; apply p1 <;> decide) | (refine congrFun ?_ _; apply p2 <;> decide) | rfl) (by (repeat' apply And.intro) <;> first | (apply q1 <;> decide) | (apply q2 <;> decide) | (refine congrFun ?_ _; apply q1 <;> decide) | (refine congrFun ?_ _; apply q2 <;> decide) | rfl), rHe_g h5 (by (repeat' apply And.intro) <;> first | (apply p1 <;> decide) | (apply p2 <;> decide) | (refine congrFun ?_ _; apply p1 <;> decide) | (refine congrFun ?_ _; apply p2 <;> decide) | rfl) (by omega) (by (repeat' apply And.intro) <;> first | (apply q1 <;> decide) | (apply q2 <;> decide) | (refine congrFun ?_ _; apply q1 <;> decide) | (refine congrFun ?_ _; apply q2 <;> decide) | rfl), rDe_c h6 (by (repeat' apply And.intro) <;> first | (apply p1 <;> decide) | (apply p2 <;> decide) | (refine congrFun ?_ _; apply p1 <;> decide) | (refine congrFun ?_ _; apply p2 <;> decide) | rfl) (by (repeat' apply And.intro) <;> first | (apply q1 <;> decide) | (apply q2 <;> decide) | (refine congrFun ?_ _; apply q1 <;> decide) | (refine congrFun ?_ _; apply q2 <;> decide) | rfl), rSt_g h7 (by (repeat' apply And.intro) <;> first | (apply p1 <;> decide) | (apply p2 <;> decide) | (refine congrFun ?_ _; apply p1 <;> decide) | (refine congrFun ?_ _; apply p2 <;> decide) | rfl) (by omega) (by (repeat' apply And.intro) <;> first | (apply q1 <;> decide) | (apply q2 <;> decide) | (refine congrFun ?_ _; apply q1 <;> decide) | (refine congrFun ?_ _; apply q2 <;> decide) | rfl) (by omega), rLg_g h8 (by (repeat' apply And.intro) <;> first | (apply p1 <;> decide) | (apply p2 <;> decide) | (refine congrFun ?_ _; apply p1 <;> decide) | (refine congrFun ?_ _; apply p2 <;> decide) | rfl) (by omega) (by (repeat' apply And.intro) <;> first | (apply q1 <;> decide) | (apply q2 <;> decide) | (refine congrFun ?_ _; apply q1 <;> decide) | (refine congrFun ?_ _; apply q2 <;> decide) | rfl), rNm_c h9 (by (repeat' apply And.intro) <;> first | (apply p1 <;> decide) | (apply p2 <;> decide) | (refine congrFun ?_ _; apply p1 <;> decide) | (refine congrFun ?_ _; apply p2 <;> decide) | rfl) (by (repeat' apply And.intro) <;> first | (apply q1 <;> decide) | (apply q2 <;> decide) | (refine congrFun ?_ _; apply q1 <;> decide) | (refine congrFun ?_ _; apply q2 <;> decide) | rfl)⟩ rfl (fun q a => q1 q (by omega) (by omega) (by omega) (by omega) (by omega))
  obtain ⟨g1, g2, g3, g4, g5, g6, g7, g8, g9, g10⟩ := h1
  have ra : ∀ t : Int, 0 ≤ t → t < 10 → (0 ≤ us (c 9) (c 1 7) a t ∧ us (c 9) (c 1 7) a t ≤ 4) ∧ (0 ≤ us (c 10) (c 1 7) b t ∧ us (c 10) (c 1 7) b t ≤ 3) ∧ (0 ≤ us (c 11) (c 1 7) d t ∧ us (c 11) (c 1 7) d t ≤ 100) := fun t t0 t1 => by
    by_cases e : t = c 1 7
    · rw [e, us_s, us_s, us_s]; exact z
    · rw [us_n e, us_n e, us_n e]; exact g1.2.1 t t0 t1
  unfold rHs HOK mHOK
  rw [k7, k9, k10, k11, p2 8 (by decide), p1 13 (by decide) (by decide) (by decide) (by decide), p1 14 (by decide) (by decide) (by decide) (by decide), p1 15 (by decide) (by decide) (by decide) (by decide), l0, l56, l57, l58, l61, q1 60 (by decide) (by decide) (by decide) (by decide) (by decide), q1 62 (by decide) (by decide) (by decide) (by decide) (by decide), g4, g5, g6]
  refine ⟨⟨by omega, ra, g1.2.2.1, fun t t0 t1 => g1.2.2.2.1 t (by omega) t1, g1.2.2.2.2⟩, ⟨by omega, fun t t0 t1 => ⟨(ra t t0 t1).1, (ra t t0 t1).2.1, (ra t t0 t1).2.2, (g2.2.1 t t0 t1).2.2.2⟩, fun t t0 t1 => g2.2.2.1 t (by omega) t1, g2.2.2.2⟩, rfl, rfl, rfl, rfl, g7, g8, fun t t0 t1 => ?_, fun t t0 t1 => g10 t (by omega) t1⟩
  by_cases e : t = c 1 7
  · rw [e, us_s, g10 _ (Int.le_refl _) (by omega)]
  · rw [us_n e]; exact g9 t t0 (by omega)
theorem cnt_us {f : Int → Int} {a v r : Int} (ha : 0 ≤ a) : ∀ {k : Nat}, cnt (fun x => us f a v x = r) k = cnt (fun x => f x = r) k + cif (a < (k : Int)) (b2i (v = r) - b2i (f a = r)) 0
  | 0 => by rw [cif_f (by omega)]; rfl
  | k + 1 => by
    have ih := cnt_us (f := f) (a := a) (v := v) (r := r) ha (k := k)
    simp only [cnt]
    rw [ih]
    by_cases e : (k : Int) = a
    · rw [cif_f (by omega), cif_t (by omega), e, us_s]; omega
    · rw [us_n e]
      by_cases y : a < (k : Int)
      · rw [cif_t y, cif_t (by omega)]; omega
      · rw [cif_f y, cif_f (by omega)]; omega
theorem HOK_go {c c' : HP} {a b : Int} (hH : HOK c) (ha : 0 ≤ a ∧ a < 6) (hb : -1 ≤ b ∧ b ≤ 4) (h1 : c' 1 = c 1) (h9 : c' 9 = c 9) (h10 : c' 10 = c 10) (h11 : c' 11 = c 11) (h14 : c' 14 = us (c 14) a b) (h15 : ∀ r : Int, 0 ≤ r → r < 5 → c' 15 r = c 15 r + b2i (b = r) - b2i (c 14 a = r)) : HOK c' := by
  unfold HOK
  rw [h1, h9, h10, h11, h14]
  refine ⟨hH.1, hH.2.1, hH.2.2.1, hH.2.2.2.1, fun f f0 f1 => ?_, fun r r0 r1 => ?_⟩
  · by_cases e : f = a
    · rw [e, us_s]; exact hb
    · rw [us_n e]; exact hH.2.2.2.2.1 f f0 f1
  · rw [h15 r r0 r1, hH.2.2.2.2.2 r r0 r1, cnt_us ha.1, cif_t (by omega)]
    omega
theorem pr_go (a b : Int) {n : Nat} {c : HP} (H : Rel n c c) : S_X8_go a b c (fun r c' => S_X9_go a b c' (fun r' m' => Fin n r r' m')) := by
  obtain ⟨⟨hH, hM, e0, _, _, _, e62, _⟩, _⟩ := id H
  have fin : ((0 ≤ a ∧ a ≤ 5) ∧ -1 ≤ b ∧ b ≤ 4) → ∀ c' : HP, (∀ q, q ≠ 14 → q ≠ 15 → c' q = c q) → c' 14 = us (c 14) a b → HOK c' → S_X9_go a b c' (fun r' m' => Fin n (c 14 a) r' m') := fun z c' p1 p14 hH' => by
    have HM : Rel n c c' := Rel_c H (fun _ _ => rfl) (fun q a => p1 q (by omega) (by omega))
    obtain ⟨h1, h2, h3, h4, h5, h6, h7, h8, h9⟩ := HM
    have q1 : ∀ q, q ≠ 62 → sth c' 62 a b q = c' q := fun q a1 => sth_ne a1
    refine ⟨fun _ => ⟨by omega, by omega, Fin_m (c' := c') ⟨?_, rTx_c h2 (by (repeat' apply And.intro) <;> first | (apply p1 <;> decide) | (refine congrFun ?_ _; apply p1 <;> decide) | rfl) (by (repeat' apply And.intro) <;> first | (apply q1 <;> decide) | (refine congrFun ?_ _; apply q1 <;> decide) | rfl), rRl_c h3 (by (repeat' apply And.intro) <;> first | (apply p1 <;> decide) | (refine congrFun ?_ _; apply p1 <;> decide) | rfl) (by (repeat' apply And.intro) <;> first | (apply q1 <;> decide) | (refine congrFun ?_ _; apply q1 <;> decide) | rfl), rVo_c h4 (by (repeat' apply And.intro) <;> first | (apply p1 <;> decide) | (refine congrFun ?_ _; apply p1 <;> decide) | rfl) (by (repeat' apply And.intro) <;> first | (apply q1 <;> decide) | (refine congrFun ?_ _; apply q1 <;> decide) | rfl), rHe_c h5 (by (repeat' apply And.intro) <;> first | (apply p1 <;> decide) | (refine congrFun ?_ _; apply p1 <;> decide) | rfl) (by (repeat' apply And.intro) <;> first | (apply q1 <;> decide) | (refine congrFun ?_ _; apply q1 <;> decide) | rfl), rDe_c h6 (by (repeat' apply And.intro) <;> first | (apply p1 <;> decide) | (refine congrFun ?_ _; apply p1 <;> decide) | rfl) (by (repeat' apply And.intro) <;> first | (apply q1 <;> decide) | (refine congrFun ?_ _; apply q1 <;> decide) | rfl), rSt_c h7 (by (repeat' apply And.intro) <;> first | (apply p1 <;> decide) | (refine congrFun ?_ _; apply p1 <;> decide) | rfl) (by (repeat' apply And.intro) <;> first | (apply q1 <;> decide) | (refine congrFun ?_ _; apply q1 <;> decide) | rfl), rLg_c h8 (by (repeat' apply And.intro) <;> first | (apply p1 <;> decide) | (refine congrFun ?_ _; apply p1 <;> decide) | rfl) (by (repeat' apply And.intro) <;> first | (apply q1 <;> decide) | (refine congrFun ?_ _; apply q1 <;> decide) | rfl), rNm_c h9 (by (repeat' apply And.intro) <;> first | (apply p1 <;> decide) | (refine congrFun ?_ _; apply p1 <;> decide) | rfl) (by (repeat' apply And.intro) <;> first | (apply q1 <;> decide) | (refine congrFun ?_ _; apply q1 <;> decide) | rfl)⟩ (by rw [h1.2.2.2.2.2.2.1]) (fun q a => q1 q (by omega))⟩, fun y => absurd z y⟩
    obtain ⟨g1, g2, g3, g4, g5, g6, g7, g8, g9, g10⟩ := h1
    have l62 : sth c' 62 a b 62 = us (c' 62) a b := sth_eq
    unfold rHs
    rw [p1 1 (by decide) (by decide), p1 9 (by decide) (by decide), p1 10 (by decide) (by decide), p1 11 (by decide) (by decide), p1 13 (by decide) (by decide), p14, q1 55 (by decide), q1 56 (by decide), q1 57 (by decide), q1 58 (by decide), q1 60 (by decide), q1 61 (by decide), l62, g7]
    refine ⟨hH', ?_, g3, g4, g5, g6, rfl, g8, g9, g10⟩
    unfold mHOK
    rw [q1 55 (by decide), q1 56 (by decide), q1 57 (by decide), q1 58 (by decide), q1 60 (by decide), l62]
    refine ⟨g2.1, g2.2.1, g2.2.2.1, fun f f0 f1 => ?_⟩
    by_cases e : f = a
    · rw [e, us_s]; exact z.2
    · rw [us_n e]; exact g2.2.2.2 f f0 f1
  refine ⟨fun z => ?_, fun z => ⟨fun y => absurd y z, fun _ => Fin_u H rfl⟩⟩
  have hw := hH.2.2.2.2.1 a z.1.1 (by omega)
  have hcr : ∀ r : Int, 0 ≤ r → r < 5 → 0 ≤ c 15 r ∧ c 15 r ≤ 6 := fun r r0 r1 => by rw [hH.2.2.2.2.2 r r0 r1]; exact cnt_b _ 6
  have ha6 : 0 ≤ a ∧ a < 6 := by omega
  refine ⟨ha6, fun zo => ⟨fun zb => ⟨ha6, fin z _ (fun q a1 a2 => sth_ne a1) sth_eq (HOK_go hH ha6 z.2 (sth_ne (by decide)) (sth_ne (by decide)) (sth_ne (by decide)) (sth_ne (by decide)) sth_eq (fun r r0 r1 => ?_))⟩, fun zb => ⟨by omega, ⟨by have := hcr b (by omega) (by omega); omega, by have := hcr b (by omega) (by omega); omega⟩, by omega, ha6, fin z _ (fun q a1 a2 => by rw [sth_ne a1, sth_ne a2]) (by rw [sth_eq, sth_ne (by decide)]) (HOK_go hH ha6 z.2 (by rw [sth_ne (by decide), sth_ne (by decide)]) (by rw [sth_ne (by decide), sth_ne (by decide)]) (by rw [sth_ne (by decide), sth_ne (by decide)]) (by rw [sth_ne (by decide), sth_ne (by decide)]) (by rw [sth_eq, sth_ne (by decide)]) (fun r r0 r1 => ?_))⟩⟩, fun zo => ⟨by omega, ⟨by have := hcr (c 14 a) (by omega) (by omega); omega, by have := hcr (c 14 a) (by omega) (by omega); omega⟩, by omega, fun zb => ⟨ha6, fin z _ (fun q a1 a2 => by rw [sth_ne a1, sth_ne a2]) (by rw [sth_eq, sth_ne (by decide)]) (HOK_go hH ha6 z.2 (by rw [sth_ne (by decide), sth_ne (by decide)]) (by rw [sth_ne (by decide), sth_ne (by decide)]) (by rw [sth_ne (by decide), sth_ne (by decide)]) (by rw [sth_ne (by decide), sth_ne (by decide)]) (by rw [sth_eq, sth_ne (by decide)]) (fun r r0 r1 => ?_))⟩, fun zb => ⟨by omega, ?_, by omega, ha6, fin z _ (fun q a1 a2 => by rw [sth_ne a1, sth_ne a2, sth_ne a2]) (by rw [sth_eq, sth_ne (by decide), sth_ne (by decide)]) (HOK_go hH ha6 z.2 (by rw [sth_ne (by decide), sth_ne (by decide), sth_ne (by decide)]) (by rw [sth_ne (by decide), sth_ne (by decide), sth_ne (by decide)]) (by rw [sth_ne (by decide), sth_ne (by decide), sth_ne (by decide)]) (by rw [sth_ne (by decide), sth_ne (by decide), sth_ne (by decide)]) (by rw [sth_eq, sth_ne (by decide), sth_ne (by decide)]) (fun r r0 r1 => ?_))⟩⟩⟩
  · rw [sth_ne (by decide), b2i_f (by omega), b2i_f (by omega)]; omega
  · rw [sth_ne (by decide), sth_eq, b2i_f (show ¬ c 14 a = r by omega)]
    by_cases e : r = b
    · rw [e, us_s, b2i_t rfl]; omega
    · rw [us_n e, b2i_f (fun y => e y.symm)]; omega
  · rw [sth_ne (by decide), sth_eq, b2i_f (show ¬ b = r by omega)]
    by_cases e : r = c 14 a
    · rw [e, us_s, b2i_t rfl]; omega
    · rw [us_n e, b2i_f (fun y => e y.symm)]; omega
  · rw [sth_eq]
    have h1 := hcr b (by omega) (by omega)
    by_cases e : b = c 14 a
    · rw [e, us_s]; rw [← e]; exact ⟨by omega, by omega⟩
    · rw [us_n e]; exact ⟨by omega, by omega⟩
  · rw [sth_ne (by decide), sth_eq, sth_eq]
    by_cases e : r = b
    · rw [e, us_s, b2i_t rfl]
      by_cases e2 : b = c 14 a
      · rw [e2, us_s, b2i_t rfl]; omega
      · rw [us_n e2, b2i_f (fun y => e2 y.symm)]; omega
    · rw [us_n e, b2i_f (fun y => e y.symm)]
      by_cases e2 : r = c 14 a
      · rw [e2, us_s, b2i_t rfl]; omega
      · rw [us_n e2, b2i_f (fun y => e2 y.symm)]; omega
theorem us5_n {f : Int → Int} {k e0 e1 e2 e3 e4 s : Int} (h : s ≠ k) : us (us (us (us (us f (5 * k) e0) (5 * k + 1) e1) (5 * k + 2) e2) (5 * k + 3) e3) (5 * k + 4) e4 (5 * s) = f (5 * s) ∧ us (us (us (us (us f (5 * k) e0) (5 * k + 1) e1) (5 * k + 2) e2) (5 * k + 3) e3) (5 * k + 4) e4 (5 * s + 1) = f (5 * s + 1) ∧ us (us (us (us (us f (5 * k) e0) (5 * k + 1) e1) (5 * k + 2) e2) (5 * k + 3) e3) (5 * k + 4) e4 (5 * s + 2) = f (5 * s + 2) ∧ us (us (us (us (us f (5 * k) e0) (5 * k + 1) e1) (5 * k + 2) e2) (5 * k + 3) e3) (5 * k + 4) e4 (5 * s + 3) = f (5 * s + 3) ∧ us (us (us (us (us f (5 * k) e0) (5 * k + 1) e1) (5 * k + 2) e2) (5 * k + 3) e3) (5 * k + 4) e4 (5 * s + 4) = f (5 * s + 4) := by
  have := us5 (f := f) (n := k) (e0 := e0) (e1 := e1) (e2 := e2) (e3 := e3) (e4 := e4) s
  rw [if_neg h] at this
  simp only [Prod.mk.injEq] at this
  exact this
theorem us5_e {f : Int → Int} {k e0 e1 e2 e3 e4 : Int} : us (us (us (us (us f (5 * k) e0) (5 * k + 1) e1) (5 * k + 2) e2) (5 * k + 3) e3) (5 * k + 4) e4 (5 * k) = e0 ∧ us (us (us (us (us f (5 * k) e0) (5 * k + 1) e1) (5 * k + 2) e2) (5 * k + 3) e3) (5 * k + 4) e4 (5 * k + 1) = e1 ∧ us (us (us (us (us f (5 * k) e0) (5 * k + 1) e1) (5 * k + 2) e2) (5 * k + 3) e3) (5 * k + 4) e4 (5 * k + 2) = e2 ∧ us (us (us (us (us f (5 * k) e0) (5 * k + 1) e1) (5 * k + 2) e2) (5 * k + 3) e3) (5 * k + 4) e4 (5 * k + 3) = e3 ∧ us (us (us (us (us f (5 * k) e0) (5 * k + 1) e1) (5 * k + 2) e2) (5 * k + 3) e3) (5 * k + 4) e4 (5 * k + 4) = e4 := by
  have := us5 (f := f) (n := k) (e0 := e0) (e1 := e1) (e2 := e2) (e3 := e3) (e4 := e4) k
  rw [if_pos rfl] at this
  simp only [Prod.mk.injEq] at this
  exact this
theorem pr_add {kd x y t v u w : Int} {n : Nat} {c : HP} (H : Rel n c c) (hk : (kd = 0 ∧ t = -1 ∧ x = v ∧ y = 0) ∨ (kd = 1 ∧ 0 ≤ t ∧ x = t ∧ y = v)) (hu : 0 ≤ u ∧ u < c 1 7) (hw : 0 ≤ w ∧ w ≤ 3) : S_X6_add t v u w c (fun r c' => (∀ q, 55 ≤ q → c' q = c q) ∧ S_X9_stand kd x y u w c' (fun r' m' => Fin n r r' m')) := by
  have h8' := H.2.2.2.2.2.2.1.1.1
  have e33 := H.2.2.2.2.2.2.1.2.2.1
  refine ⟨fun zl => ⟨by omega, by omega, by omega, by omega, ⟨by omega, by omega⟩, ⟨by omega, by omega⟩, ?_⟩, fun zl => ⟨fun _ _ => rfl, fun yy => by omega, fun _ => Fin_u H rfl⟩⟩
  have p1 : ∀ q, q ≠ 39 → q ≠ 40 → q ≠ 41 → q ≠ 42 → q ≠ 6 → sth (sth (sth (sth (sth c 39 (c 6 7) t) 40 (c 6 7) v) 41 (c 6 7) u) 42 (c 6 7) w) 6 7 (c 6 7 + 1) q = c q := fun q a1 a2 a3 a4 a5 => by rw [sth_ne a5, sth_ne a4, sth_ne a3, sth_ne a2, sth_ne a1]
  have p2 : ∀ i : Int, i ≠ 7 → sth (sth (sth (sth (sth c 39 (c 6 7) t) 40 (c 6 7) v) 41 (c 6 7) u) 42 (c 6 7) w) 6 7 (c 6 7 + 1) 6 i = c 6 i := fun i a1 => by rw [sth_eq, us_n a1, sth_ne (by decide), sth_ne (by decide), sth_ne (by decide), sth_ne (by decide)]
  have k7 : sth (sth (sth (sth (sth c 39 (c 6 7) t) 40 (c 6 7) v) 41 (c 6 7) u) 42 (c 6 7) w) 6 7 (c 6 7 + 1) 6 7 = c 6 7 + 1 := by rw [sth_eq, us_s]
  have k39 : sth (sth (sth (sth (sth c 39 (c 6 7) t) 40 (c 6 7) v) 41 (c 6 7) u) 42 (c 6 7) w) 6 7 (c 6 7 + 1) 39 = us (c 39) (c 6 7) t := by rw [sth_ne (by decide), sth_ne (by decide), sth_ne (by decide), sth_ne (by decide), sth_eq]
  have k40 : sth (sth (sth (sth (sth c 39 (c 6 7) t) 40 (c 6 7) v) 41 (c 6 7) u) 42 (c 6 7) w) 6 7 (c 6 7 + 1) 40 = us (c 40) (c 6 7) v := by rw [sth_ne (by decide), sth_ne (by decide), sth_ne (by decide), sth_eq, sth_ne (by decide)]
  have k41 : sth (sth (sth (sth (sth c 39 (c 6 7) t) 40 (c 6 7) v) 41 (c 6 7) u) 42 (c 6 7) w) 6 7 (c 6 7 + 1) 41 = us (c 41) (c 6 7) u := by rw [sth_ne (by decide), sth_ne (by decide), sth_eq, sth_ne (by decide), sth_ne (by decide)]
  have k42 : sth (sth (sth (sth (sth c 39 (c 6 7) t) 40 (c 6 7) v) 41 (c 6 7) u) 42 (c 6 7) w) 6 7 (c 6 7 + 1) 42 = us (c 42) (c 6 7) w := by rw [sth_ne (by decide), sth_eq, sth_ne (by decide), sth_ne (by decide), sth_ne (by decide)]
  generalize sth (sth (sth (sth (sth c 39 (c 6 7) t) 40 (c 6 7) v) 41 (c 6 7) u) 42 (c 6 7) w) 6 7 (c 6 7 + 1) = c' at *
  have fr : ∀ q, 55 ≤ q → c' q = c q := fun q a => p1 q (by omega) (by omega) (by omega) (by omega) (by omega)
  have HM : Rel n c c' := Rel_c H (fun _ _ => rfl) fr
  obtain ⟨h1, h2, h3, h4, h5, h6, h7, h8, h9⟩ := HM
  have e33' := h7.2.2.1
  refine ⟨fr, fun yy => ⟨⟨by omega, by omega⟩, by omega, ⟨by omega, by omega⟩, by omega, ⟨by omega, by omega⟩, by omega, ⟨by omega, by omega⟩, by omega, ⟨by omega, by omega⟩, by omega, ⟨by omega, by omega⟩, ⟨by omega, by omega⟩, ?_⟩, fun y => by omega⟩
  rw [e33']
  have q1 : ∀ q, q ≠ 79 → q ≠ 55 → sth (sth (sth (sth (sth (sth c' 79 (5 * c 6 7) kd) 79 (5 * c 6 7 + 1) x) 79 (5 * c 6 7 + 2) y) 79 (5 * c 6 7 + 3) u) 79 (5 * c 6 7 + 4) w) 55 33 (c 6 7 + 1) q = c' q := fun q a1 a2 => by rw [sth_ne a2, sth_ne a1, sth_ne a1, sth_ne a1, sth_ne a1, sth_ne a1]
  have q2 : ∀ i : Int, i ≠ 33 → sth (sth (sth (sth (sth (sth c' 79 (5 * c 6 7) kd) 79 (5 * c 6 7 + 1) x) 79 (5 * c 6 7 + 2) y) 79 (5 * c 6 7 + 3) u) 79 (5 * c 6 7 + 4) w) 55 33 (c 6 7 + 1) 55 i = c' 55 i := fun i a1 => by rw [sth_eq, us_n a1, sth_ne (by decide), sth_ne (by decide), sth_ne (by decide), sth_ne (by decide), sth_ne (by decide)]
  have l33 : sth (sth (sth (sth (sth (sth c' 79 (5 * c 6 7) kd) 79 (5 * c 6 7 + 1) x) 79 (5 * c 6 7 + 2) y) 79 (5 * c 6 7 + 3) u) 79 (5 * c 6 7 + 4) w) 55 33 (c 6 7 + 1) 55 33 = c 6 7 + 1 := by rw [sth_eq, us_s]
  have l79 : sth (sth (sth (sth (sth (sth c' 79 (5 * c 6 7) kd) 79 (5 * c 6 7 + 1) x) 79 (5 * c 6 7 + 2) y) 79 (5 * c 6 7 + 3) u) 79 (5 * c 6 7 + 4) w) 55 33 (c 6 7 + 1) 79 = us (us (us (us (us (c' 79) (5 * c 6 7) kd) (5 * c 6 7 + 1) x) (5 * c 6 7 + 2) y) (5 * c 6 7 + 3) u) (5 * c 6 7 + 4) w := by rw [sth_ne (by decide), sth_eq, sth_eq, sth_eq, sth_eq, sth_eq]
  generalize sth (sth (sth (sth (sth (sth c' 79 (5 * c 6 7) kd) 79 (5 * c 6 7 + 1) x) 79 (5 * c 6 7 + 2) y) 79 (5 * c 6 7 + 3) u) 79 (5 * c 6 7 + 4) w) 55 33 (c 6 7 + 1) = m' at *
  refine Fin_m (c' := c') ⟨rHs_c h1 (by (repeat' apply And.intro) <;> first | (apply p1 <;> decide) | (apply p2 <;> decide) | (refine congrFun ?_ _; apply p1 <;> decide) | (refine congrFun ?_ _; apply p2 <;> decide) | rfl) (by (repeat' apply And.intro) <;> first | (apply q1 <;> decide) | (apply q2 <;> decide) | (refine congrFun ?_ _; apply q1 <;> decide) | (refine congrFun ?_ _; apply q2 <;> decide) | rfl), rTx_c h2 (by (repeat' apply And.intro) <;> first | (apply p1 <;> decide) | (apply p2 <;> decide) | (refine congrFun ?_ _; apply p1 <;> decide) | (refine congrFun ?_ _; apply p2 <;> decide) | rfl) (by (repeat' apply And.intro) <;> first | (apply q1 <;> decide) | (apply q2 <;> decide) | (refine congrFun ?_ _; apply q1 <;> decide) | (refine congrFun ?_ _; apply q2 <;> decide) | rfl), rRl_c h3 (by (repeat' apply And.intro) <;> first | (apply p1 <;> decide) | (apply p2 <;> decide) | (refine congrFun ?_ _; apply p1 <;> decide) | (refine congrFun ?_ _; apply p2 <;> decide) | rfl) (by (repeat' apply And.intro) <;> first | (apply q1 <;> decide) | (apply q2 <;> decide) | (refine congrFun ?_ _; apply q1 <;> decide) | (refine congrFun ?_ _; apply q2 <;> decide) | rfl), rVo_c h4 (by (repeat' apply And.intro) <;> first | (apply p1 <;> decide) | (apply p2 <;> decide) | (refine congrFun ?_ _; apply p1 <;> decide) | (refine congrFun ?_ _; apply p2 <;> decide) | rfl) (by (repeat' apply And.intro) <;> first | (apply q1 <;> decide) | (apply q2 <;> decide) | (refine congrFun ?_ _; apply q1 <;> decide) | (refine congrFun ?_ _; apply q2 <;> decide) | rfl), rHe_c h5 (by (repeat' apply And.intro) <;> first | (apply p1 <;> decide) | (apply p2 <;> decide) | (refine congrFun ?_ _; apply p1 <;> decide) | (refine congrFun ?_ _; apply p2 <;> decide) | rfl) (by (repeat' apply And.intro) <;> first | (apply q1 <;> decide) | (apply q2 <;> decide) | (refine congrFun ?_ _; apply q1 <;> decide) | (refine congrFun ?_ _; apply q2 <;> decide) | rfl), rDe_c h6 (by (repeat' apply And.intro) <;> first | (apply p1 <;> decide) | (apply p2 <;> decide) | (refine congrFun ?_ _; apply p1 <;> decide) | (refine congrFun ?_ _; apply p2 <;> decide) | rfl) (by (repeat' apply And.intro) <;> first | (apply q1 <;> decide) | (apply q2 <;> decide) | (refine congrFun ?_ _; apply q1 <;> decide) | (refine congrFun ?_ _; apply q2 <;> decide) | rfl), ?_, rLg_c h8 (by (repeat' apply And.intro) <;> first | (apply p1 <;> decide) | (apply p2 <;> decide) | (refine congrFun ?_ _; apply p1 <;> decide) | (refine congrFun ?_ _; apply p2 <;> decide) | rfl) (by (repeat' apply And.intro) <;> first | (apply q1 <;> decide) | (apply q2 <;> decide) | (refine congrFun ?_ _; apply q1 <;> decide) | (refine congrFun ?_ _; apply q2 <;> decide) | rfl), rNm_c h9 (by (repeat' apply And.intro) <;> first | (apply p1 <;> decide) | (apply p2 <;> decide) | (refine congrFun ?_ _; apply p1 <;> decide) | (refine congrFun ?_ _; apply p2 <;> decide) | rfl) (by (repeat' apply And.intro) <;> first | (apply q1 <;> decide) | (apply q2 <;> decide) | (refine congrFun ?_ _; apply q1 <;> decide) | (refine congrFun ?_ _; apply q2 <;> decide) | rfl)⟩ rfl (fun q a => q1 q (by omega) (by omega))
  obtain ⟨g1, g2, g3, g4⟩ := h7
  have e0' : c' 55 0 = c 1 7 := h1.2.2.1
  unfold rSt SOK MSOK stP
  rw [k7, k39, k40, k41, k42, p1 1 (by decide) (by decide) (by decide) (by decide) (by decide), l33, l79, q2 0 (by decide), e0']
  refine ⟨⟨by omega, fun s s0 s1 => ?_⟩, ⟨by omega, fun s s0 s1 => ?_⟩, rfl, fun s s0 s1 => ?_⟩
  · by_cases e : s = c 6 7
    · rw [e, us_s, us_s]; exact ⟨hu, hw⟩
    · rw [us_n e, us_n e]; exact g1.2 s s0 (by omega)
  · by_cases e : s = c 6 7
    · have z := us5_e (f := c' 79) (k := c 6 7) (e0 := kd) (e1 := x) (e2 := y) (e3 := u) (e4 := w)
      rw [e, z.2.2.2.1, z.2.2.2.2]; exact ⟨hu, hw⟩
    · have z := us5_n (f := c' 79) (k := c 6 7) (e0 := kd) (e1 := x) (e2 := y) (e3 := u) (e4 := w) e
      have g := g2.2 s s0 (by rw [g3]; omega)
      rw [z.2.2.2.1, z.2.2.2.2]
      rw [e0'] at g
      exact g
  · by_cases e : s = c 6 7
    · have z := us5_e (f := c' 79) (k := c 6 7) (e0 := kd) (e1 := x) (e2 := y) (e3 := u) (e4 := w)
      rw [e, z.1, z.2.1, z.2.2.1, z.2.2.2.1, z.2.2.2.2, us_s, us_s, us_s, us_s]
      refine ⟨?_, rfl, rfl⟩
      rcases hk with hk | hk
      · exact Or.inl ⟨hk.2.1, hk.1, hk.2.2.1, hk.2.2.2⟩
      · exact Or.inr ⟨hk.2.1, hk.1, hk.2.2.1, hk.2.2.2⟩
    · have z := us5_n (f := c' 79) (k := c 6 7) (e0 := kd) (e1 := x) (e2 := y) (e3 := u) (e4 := w) e
      rw [z.1, z.2.1, z.2.2.1, z.2.2.2.1, z.2.2.2.2, us_n e, us_n e, us_n e, us_n e]
      exact g4 s s0 (by omega)
theorem add_mono {a1 a2 a3 a4 : Int} {h : HP} {K K' : Int → HP → Prop} (H : S_X6_add a1 a2 a3 a4 h K) (hk : ∀ r h', K r h' → K' r h') : S_X6_add a1 a2 a3 a4 h K' :=
  ⟨fun c => ⟨(H.1 c).1, (H.1 c).2.1, (H.1 c).2.2.1, (H.1 c).2.2.2.1, (H.1 c).2.2.2.2.1, (H.1 c).2.2.2.2.2.1, hk _ _ (H.1 c).2.2.2.2.2.2⟩, fun c => hk _ _ (H.2 c)⟩
theorem pr_when (a b d e : Int) {n : Nat} {c : HP} (H : Rel n c c) : S_X8_when a b d e c (fun r c' => S_X9_when a b d e c' (fun r' m' => Fin n r r' m')) := by
  obtain ⟨⟨hH, hM, e0, _, e57, _⟩, _⟩ := id H
  refine ⟨hH, ⟨fun _ => trivial, fun _ => ⟨hH, trivial⟩⟩, fun z => add_mono (pr_add (kd := 1) (x := a) (y := b) H (Or.inr ⟨rfl, z.1.1.1, rfl, rfl⟩) z.2.1 ⟨z.2.2.1, by have := top_b (c 10 d); have := z.2.2.2; omega⟩) (fun r c' y => ?_), fun z => ⟨hM.1, ⟨fun _ => trivial, fun _ => ⟨hM.1, trivial⟩⟩, fun y => absurd (by rw [e0, e57] at y; exact y) z, fun _ => Fin_u H rfl⟩⟩
  have f55 : c' 55 = c 55 := y.1 55 (by decide)
  have f57 : c' 57 = c 57 := y.1 57 (by decide)
  exact ⟨by rw [f55]; exact hM.1, ⟨fun _ => trivial, fun _ => ⟨by rw [f55]; exact hM.1, trivial⟩⟩, fun _ => y.2, fun u => absurd (by rw [f55, f57, e0, e57]; exact z) u⟩
theorem pr_at (a d e : Int) {n : Nat} {c : HP} (H : Rel n c c) : S_X8_at a d e c (fun r c' => S_X9_at a d e c' (fun r' m' => Fin n r r' m')) := by
  obtain ⟨⟨hH, hM, e0, _, e57, _⟩, _⟩ := id H
  refine ⟨⟨fun _ => trivial, fun _ => ⟨hH, trivial⟩⟩, fun z => add_mono (pr_add (kd := 0) (x := a) (y := 0) H (Or.inl ⟨rfl, rfl, rfl, rfl⟩) z.2.1 ⟨z.2.2.1, by have := top_b (c 10 d); have := z.2.2.2; omega⟩) (fun r c' y => ?_), fun z => ⟨⟨fun _ => trivial, fun _ => ⟨hM.1, trivial⟩⟩, fun y => absurd (by rw [e0, e57] at y; exact y) z, fun _ => Fin_u H rfl⟩⟩
  have f55 : c' 55 = c 55 := y.1 55 (by decide)
  have f57 : c' 57 = c 57 := y.1 57 (by decide)
  exact ⟨⟨fun _ => trivial, fun _ => ⟨by rw [f55]; exact hM.1, trivial⟩⟩, fun _ => y.2, fun u => absurd (by rw [f55, f57, e0, e57]; exact z) u⟩
theorem pr_keepHabit (a : Int) {n : Nat} {c : HP} (H : Rel n c c) : S_X8_keepHabit a c (fun r c' => S_X9_keepHabit a c' (fun r' m' => Fin n r r' m')) := by
  obtain ⟨⟨hH, hM, e0, _, e57, _⟩, _⟩ := id H
  refine ⟨fun z0 => ⟨z0, z0, by omega, z0, ⟨fun _ => trivial, fun _ => ⟨hH, trivial⟩⟩, fun z => add_mono (pr_add (kd := 0) (x := a / 100) (y := 0) H (Or.inl ⟨rfl, rfl, rfl, rfl⟩) z.2.1 ⟨z.2.2.1, by have := top_b (c 10 (a / 10 % 10)); have := z.2.2.2; omega⟩) (fun r c' y => ?_), fun z => ⟨⟨fun _ => trivial, fun _ => ⟨by omega, by omega, by omega, hM.1, trivial⟩⟩, fun y => absurd ⟨by omega, by rw [e0, e57] at y; exact y.2⟩ z, fun _ => Fin_u H rfl⟩⟩, fun z0 => ⟨⟨fun _ => trivial, fun y => by omega⟩, fun y => by omega, fun _ => Fin_u H rfl⟩⟩
  have f55 : c' 55 = c 55 := y.1 55 (by decide)
  have f57 : c' 57 = c 57 := y.1 57 (by decide)
  exact ⟨⟨fun _ => trivial, fun _ => ⟨by omega, by omega, by omega, by rw [f55]; exact hM.1, trivial⟩⟩, fun _ => ⟨by omega, by omega, by omega, by omega, y.2⟩, fun u => absurd ⟨by omega, by rw [f55, f57, e0, e57]; exact z.2⟩ u⟩
theorem fsN_c {p q : Int → Prop} {n : Nat} (h : ∀ i : Int, 0 ≤ i → i < (n : Int) → (p i ↔ q i)) : fsN p n = fsN q n := by
  by_cases c : ∃ k : Nat, k < n ∧ p (k : Int) ∧ ∀ i : Int, 0 ≤ i → i < (k : Int) → ¬ p i
  · obtain ⟨k, hk, hp, hn⟩ := c
    rw [fsN_at hn hp hk, fsN_at (fun i a b y => hn i a b ((h i a (by omega)).mpr y)) ((h _ (by omega) (by omega)).mp hp) hk]
  · have hno : ∀ m : Nat, m ≤ n → ∀ i : Int, 0 ≤ i → i < (m : Int) → ¬ p i := by
      intro m
      induction m with
      | zero => intro _ i a b; omega
      | succ m ih =>
        intro hm i a b hp
        by_cases e : i = (m : Int)
        · subst e; exact c ⟨m, by omega, hp, ih (by omega)⟩
        · exact ih (by omega) i a (by omega) hp
    rw [fsN_none (hno n (Nat.le_refl _)), fsN_none (fun i a b y => hno n (Nat.le_refl _) i a b ((h i a b).mpr y))]
theorem qrl_c {p q : Int → Int → Prop} {n : Nat} (h : ∀ a b : Int, 0 ≤ a → a < b → b < (n : Int) → (p a b ↔ q a b)) : qrl p n = qrl q n := by
  have e : qrI p n = qrI q n := by
    unfold qrI
    exact fsN_c (fun i i0 i1 => ⟨fun ⟨j, a, b, d⟩ => ⟨j, a, b, (h i j i0 a b).mp d⟩, fun ⟨j, a, b, d⟩ => ⟨j, a, b, (h i j i0 a b).mpr d⟩⟩)
  unfold qrl
  rw [e]
  by_cases c : qrI q n < 0
  · rw [cif_t c, cif_t c]
  · rw [cif_f c, cif_f c, fsN_c (p := fun j => qrI q n < j ∧ p (qrI q n) j) (q := fun j => qrI q n < j ∧ q (qrI q n) j) (fun j j0 j1 => ⟨fun y => ⟨y.1, (h _ _ (by omega) y.1 j1).mp y.2⟩, fun y => ⟨y.1, (h _ _ (by omega) y.1 j1).mpr y.2⟩⟩)]
theorem pr_quarrel {n : Nat} {c : HP} (H : Rel n c c) : S_X8_quarrel c (fun r c' => (0 ≤ c' 55 33 ∧ c' 55 33 ≤ 8) ∧ Fin n r (qrl (fun a b => (c' 79 (5 * a) = c' 79 (5 * b) ∧ c' 79 (5 * a + 1) = c' 79 (5 * b + 1) ∧ c' 79 (5 * a + 2) = c' 79 (5 * b + 2)) ∧ c' 79 (5 * a + 3) = c' 79 (5 * b + 3) ∧ ¬ c' 79 (5 * a + 4) = c' 79 (5 * b + 4)) (c' 55 33).toNat) c') := by
  obtain ⟨_, _, _, _, _, _, ⟨g1, g2, g3, g4⟩, _⟩ := id H
  refine ⟨g1.1, g2.1, Fin_u H ?_⟩
  rw [g3]
  have h8 := g1.1
  refine qrl_c (fun a b a0 ab b1 => ?_)
  obtain ⟨ka, a3, a4⟩ := g4 a a0 (by omega)
  obtain ⟨kb, b3, b4⟩ := g4 b (by omega) (by omega)
  rw [a3, a4, b3, b4]
  rcases ka with ka | ka <;> rcases kb with kb | kb <;> rw [ka.2.1, ka.2.2.1, ka.2.2.2, kb.2.1, kb.2.2.1, kb.2.2.2]
  · rw [ka.1, kb.1]
    exact ⟨fun y => ⟨⟨rfl, y.2.1, rfl⟩, y.2.2⟩, fun y => ⟨rfl, y.1.2.1, y.2⟩⟩
  · exact ⟨fun y => by have := y.1; omega, fun y => by have := y.1.1; omega⟩
  · exact ⟨fun y => by have := y.1; omega, fun y => by have := y.1.1; omega⟩
  · exact ⟨fun y => ⟨⟨rfl, y.1, y.2.1⟩, y.2.2⟩, fun y => ⟨y.1.2.1, y.1.2.2, y.2⟩⟩
theorem wk_eq {c m : HP} (hs : rSt c m) (t v : Int) (ht : 0 ≤ t) : wkC c t v = wkM m t v := by
  obtain ⟨g1, g2, g3, g4⟩ := hs
  unfold wkC wkM
  rw [g3]
  refine wkP_c (fun s s0 s1 => ?_)
  obtain ⟨ks, _, _⟩ := g4 s s0 (by have := g1.1; omega)
  rcases ks with ks | ks
  · rw [ks.1, ks.2.1]
    exact ⟨fun y => by have := y.1; omega, fun y => by have := y.1; omega⟩
  · rw [ks.2.1, ks.2.2.1, ks.2.2.2]
    exact ⟨fun y => ⟨rfl, y⟩, fun y => y.2⟩
theorem pr_wake {n : Nat} {c : HP} (H : Rel n c c) : S_X8_wake c (fun r c' => (0 ≤ c' 55 33 ∧ c' 55 33 ≤ 8) ∧ Fin n r (fs4 (selfW (wiM c') (c' 55 33)) (c' 55 33).toNat) c') := by
  obtain ⟨_, _, _, _, _, _, ⟨g1, g2, g3, g4⟩, _⟩ := id H
  refine ⟨g1.1, g2.1, Fin_u H ?_⟩
  have h8 := g1.1
  have hw : ∀ k : Int, 0 ≤ k → k < c 6 7 → wiC c k = wiM c k := fun k k0 k1 => by
    unfold wiC wiM
    rw [g3]
    obtain ⟨_, k3, k4⟩ := g4 k k0 k1
    have hk := (g1.2 k k0 k1).1
    refine bset_c (fun s s0 s1 => ?_)
    obtain ⟨ks, _, _⟩ := g4 s s0 (by omega)
    rw [k3, k4]
    rcases ks with ks | ks
    · rw [ks.1, ks.2.1]
      exact ⟨fun y => by have := y.1; omega, fun y => by have := y.1; omega⟩
    · rw [ks.2.1, ks.2.2.1, ks.2.2.2]
      exact ⟨fun y => ⟨rfl, y⟩, fun y => y.2⟩
  rw [g3]
  exact fs4_c (fun i i0 i1 => selfW_c ⟨i0, by omega⟩ hw)
theorem pr_cost (a : Int) {n : Nat} {c : HP} (H : Rel n c c) (hn : n ≤ 600) : S_X8_cost a c (fun r c' => ((0 ≤ c' 55 0 ∧ c' 55 0 ≤ 10) ∧ ∀ i : Int, 0 ≤ i → i < 10 → 0 ≤ c' 59 i ∧ c' 59 i ≤ 100000000) ∧ Fin n r (coM c' a) c') := by
  obtain ⟨⟨hH, hM, e0, _⟩, _, _, _, _, _, _, _, ⟨_, _, _, h59, _⟩⟩ := id H
  have h10 := hH.1
  have pre : (0 ≤ c 55 0 ∧ c 55 0 ≤ 10) ∧ ∀ i : Int, 0 ≤ i → i < 10 → 0 ≤ c 59 i ∧ c 59 i ≤ 100000000 := ⟨hM.1, fun i a b => by have := h59 i a b; omega⟩
  refine ⟨fun z => ⟨⟨fun _ => trivial, fun _ => ⟨by omega, trivial⟩⟩, pre, Fin_u H ?_⟩, fun z => ⟨⟨h10, fun i a b => by have := h59 i a b; omega⟩, pre, Fin_u H ?_⟩⟩
  · unfold coM
    rw [e0]
    by_cases y : 0 ≤ a ∧ a < c 1 7
    · rw [cif_f (fun u => u y), cif_t (by omega), cif_f (by omega), (h59 a y.1 (by omega)).1]
    · rw [cif_t y, cif_f (by omega)]
  · unfold coM
    rw [e0, cif_t (by omega), cif_t (by omega)]
    exact smN_c (fun i a b => (h59 i a (by omega)).1.symm)
theorem pr_forget (a : Int) {n : Nat} {c : HP} (H : Rel n c c) (hn : n ≤ 600) : S_X8_forget a c (fun r c' => S_X9_forget a c' (fun r' m' => Fin n r r' m')) := by
  refine ⟨fun z => ⟨fun _ => Fin_u H rfl, fun y => absurd y z⟩, fun z => ?_⟩
  obtain ⟨L, hC, hM, hO⟩ := H.2.2.2.2.2.2.2.1
  have h87 := H.2.2.2.2.2.2.2.2.2.2.2.2.2.2
  refine ⟨L, ⟨hC, by omega⟩, fun c' p1 p2 p3 => ?_⟩
  have HM : Rel n c c' := Rel_c H (fun _ _ => rfl) (fun q a => p1 q (by omega) (by omega) (by omega) (by omega) (by omega) (by omega))
  obtain ⟨h1, h2, h3, h4, h5, h6, h7, h8, h9⟩ := HM
  have e38 := h9.2.2.1
  have hM' : lgM c' L := by
    refine ⟨by rw [p1 55 (by decide) (by decide) (by decide) (by decide) (by decide) (by decide)]; exact hM.1, hM.2.1, fun i hi => ?_⟩
    rw [leM_c (h := c) (p1 _ (by decide) (by decide) (by decide) (by decide) (by decide) (by decide))]
    exact hM.2.2 i hi
  refine ⟨fun y => absurd z y, fun _ => ⟨L, ⟨hM', by rw [e38]; omega⟩, fun m' q1 q2 q3 q4 => ?_⟩⟩
  have hdl := dF_l (L := L) (fo := a)
  have h60 := hC.2.1
  refine Fin_m (c' := c') ⟨rHs_c h1 (by (repeat' apply And.intro) <;> first | (apply p1 <;> decide) | (refine congrFun ?_ _; apply p1 <;> decide) | rfl) (by (repeat' apply And.intro) <;> first | (apply q1 <;> decide) | (apply q2 <;> decide) | (refine congrFun ?_ _; apply q1 <;> decide) | (refine congrFun ?_ _; apply q2 <;> decide) | rfl), rTx_c h2 (by (repeat' apply And.intro) <;> first | (apply p1 <;> decide) | (refine congrFun ?_ _; apply p1 <;> decide) | rfl) (by (repeat' apply And.intro) <;> first | (apply q1 <;> decide) | (apply q2 <;> decide) | (refine congrFun ?_ _; apply q1 <;> decide) | (refine congrFun ?_ _; apply q2 <;> decide) | rfl), rRl_c h3 (by (repeat' apply And.intro) <;> first | (apply p1 <;> decide) | (refine congrFun ?_ _; apply p1 <;> decide) | rfl) (by (repeat' apply And.intro) <;> first | (apply q1 <;> decide) | (apply q2 <;> decide) | (refine congrFun ?_ _; apply q1 <;> decide) | (refine congrFun ?_ _; apply q2 <;> decide) | rfl), rVo_c h4 (by (repeat' apply And.intro) <;> first | (apply p1 <;> decide) | (refine congrFun ?_ _; apply p1 <;> decide) | rfl) (by (repeat' apply And.intro) <;> first | (apply q1 <;> decide) | (apply q2 <;> decide) | (refine congrFun ?_ _; apply q1 <;> decide) | (refine congrFun ?_ _; apply q2 <;> decide) | rfl), rHe_c h5 (by (repeat' apply And.intro) <;> first | (apply p1 <;> decide) | (refine congrFun ?_ _; apply p1 <;> decide) | rfl) (by (repeat' apply And.intro) <;> first | (apply q1 <;> decide) | (apply q2 <;> decide) | (refine congrFun ?_ _; apply q1 <;> decide) | (refine congrFun ?_ _; apply q2 <;> decide) | rfl), rDe_c h6 (by (repeat' apply And.intro) <;> first | (apply p1 <;> decide) | (refine congrFun ?_ _; apply p1 <;> decide) | rfl) (by (repeat' apply And.intro) <;> first | (apply q1 <;> decide) | (apply q2 <;> decide) | (refine congrFun ?_ _; apply q1 <;> decide) | (refine congrFun ?_ _; apply q2 <;> decide) | rfl), rSt_c h7 (by (repeat' apply And.intro) <;> first | (apply p1 <;> decide) | (refine congrFun ?_ _; apply p1 <;> decide) | rfl) (by (repeat' apply And.intro) <;> first | (apply q1 <;> decide) | (apply q2 <;> decide) | (refine congrFun ?_ _; apply q1 <;> decide) | (refine congrFun ?_ _; apply q2 <;> decide) | rfl), ⟨dF a L, p2, q3, fun e he => ?_⟩, ?_⟩ rfl (fun q a => q1 q (by omega) (by omega))
  · rw [p1 1 (by decide) (by decide) (by decide) (by decide) (by decide) (by decide)]
    exact hO e (List.mem_filter.mp he).1
  · unfold rNm at h9 ⊢
    rw [p1 1 (by decide) (by decide) (by decide) (by decide) (by decide) (by decide), p1 12 (by decide) (by decide) (by decide) (by decide) (by decide) (by decide), p1 6 (by decide) (by decide) (by decide) (by decide) (by decide) (by decide), p3, q2 8 (by decide) (by decide), q2 35 (by decide) (by decide), q4, q1 59 (by decide) (by decide)]
    exact ⟨h9.1, h9.2.1, by rw [e38], fun t a b => ⟨(h9.2.2.2.1 t a b).1, (h9.2.2.2.1 t a b).2.1, by have := (h9.2.2.2.1 t a b).2.2; omega⟩, by have := h9.2.2.2.2.1; omega, by have := h9.2.2.2.2.2.1; omega, by omega⟩
theorem lnb_b (B : Int → Int) : ∀ k : Nat, -1 ≤ lnb B k ∧ lnb B k < (k : Int)
  | 0 => by show (-1 : Int) ≤ -1 ∧ (-1 : Int) < 0; omega
  | k + 1 => by
    have ih := lnb_b B k
    simp only [lnb]
    by_cases c : B (k : Int) = 0
    · rw [if_pos c]; omega
    · rw [if_neg c]; omega
theorem pr_undo {n : Nat} {c : HP} (H : Rel n c c) : S_X8_undo c (fun r c' => S_X9_undo c' (fun r' m' => Fin n r r' m')) := by
  obtain ⟨hR1, _, _, _, _, hR6, _⟩ := id H
  have hb := lnb_b (c 38) (c 5 3).toNat
  have h53 := hR6.1
  have pre : ∀ c' : HP, rHs c c' → rDe c c' → mHOK c' ∧ (0 ≤ c' 55 29 ∧ c' 55 29 ≤ 200) ∧ ∀ i : Int, 0 ≤ i → i < c' 55 29 → (0 ≤ c' 76 i ∧ c' 76 i < 1024) ∧ inS (c' 77 i) := fun c' g1 g6 => by
    rw [g6.2.1, g6.2.2.1, g6.2.2.2.1]
    exact ⟨g1.2.1, h53, g6.2.2.2.2.2.1⟩
  refine ⟨h53, fun z => ?_, fun z => ⟨pre c hR1 hR6, fun _ => Fin_u H rfl, fun a ha a0 => ?_⟩⟩
  · generalize ha : lnb (c 38) (c 5 3).toNat = a at *
    have hd := hR6.2.2.2.2.2.1 a z (by omega)
    refine ⟨⟨hR1.1, by omega, hd.1, hd.2⟩, fun c' p1 p2 p3 p4 p5 p6 => ?_⟩
    have HM : Rel n c c' := Rel_c H (fun _ _ => rfl) (fun q a => p1 q (by omega) (by omega) (by omega))
    obtain ⟨h1, h2, h3, h4, h5, h6, h7, h8, h9⟩ := HM
    have e29 := h6.2.1
    have e78 := h6.2.2.2.2.1
    have e76 := h6.2.2.1
    have e77 := h6.2.2.2.1
    refine ⟨pre c' h1 h6, fun y => by rw [e78, e29, ha] at y; omega, fun a' ha' _ _ m' q1 q2 q3 q4 => ?_⟩
    rw [e78, e29, ha] at ha'
    subst ha'
    have hub : ∀ t : Int, ubC c a' t ↔ ubM c' a' t := fun t => by
      unfold ubC ubM
      rw [h1.2.2.1, e76]
      exact ⟨fun y => ⟨y.1, y.2.1, by rw [h1.2.2.2.2.2.2.2.2.1 t y.1.1 y.1.2]; exact y.2.2⟩, fun y => ⟨y.1, y.2.1, by rw [← h1.2.2.2.2.2.2.2.2.1 t y.1.1 y.1.2]; exact y.2.2⟩⟩
    refine Fin_m (c' := c') ⟨?_, rTx_c h2 (by (repeat' apply And.intro) <;> first | (apply p1 <;> decide) | (apply p2 <;> decide) | (refine congrFun ?_ _; apply p1 <;> decide) | (refine congrFun ?_ _; apply p2 <;> decide) | rfl) (by (repeat' apply And.intro) <;> first | (apply q1 <;> decide) | (refine congrFun ?_ _; apply q1 <;> decide) | rfl), rRl_c h3 (by (repeat' apply And.intro) <;> first | (apply p1 <;> decide) | (apply p2 <;> decide) | (refine congrFun ?_ _; apply p1 <;> decide) | (refine congrFun ?_ _; apply p2 <;> decide) | rfl) (by (repeat' apply And.intro) <;> first | (apply q1 <;> decide) | (refine congrFun ?_ _; apply q1 <;> decide) | rfl), rVo_c h4 (by (repeat' apply And.intro) <;> first | (apply p1 <;> decide) | (apply p2 <;> decide) | (refine congrFun ?_ _; apply p1 <;> decide) | (refine congrFun ?_ _; apply p2 <;> decide) | rfl) (by (repeat' apply And.intro) <;> first | (apply q1 <;> decide) | (refine congrFun ?_ _; apply q1 <;> decide) | rfl), rHe_c h5 (by (repeat' apply And.intro) <;> first | (apply p1 <;> decide) | (apply p2 <;> decide) | (refine congrFun ?_ _; apply p1 <;> decide) | (refine congrFun ?_ _; apply p2 <;> decide) | rfl) (by (repeat' apply And.intro) <;> first | (apply q1 <;> decide) | (refine congrFun ?_ _; apply q1 <;> decide) | rfl), ?_, rSt_c h7 (by (repeat' apply And.intro) <;> first | (apply p1 <;> decide) | (apply p2 <;> decide) | (refine congrFun ?_ _; apply p1 <;> decide) | (refine congrFun ?_ _; apply p2 <;> decide) | rfl) (by (repeat' apply And.intro) <;> first | (apply q1 <;> decide) | (refine congrFun ?_ _; apply q1 <;> decide) | rfl), rLg_c h8 (by (repeat' apply And.intro) <;> first | (apply p1 <;> decide) | (apply p2 <;> decide) | (refine congrFun ?_ _; apply p1 <;> decide) | (refine congrFun ?_ _; apply p2 <;> decide) | rfl) (by (repeat' apply And.intro) <;> first | (apply q1 <;> decide) | (refine congrFun ?_ _; apply q1 <;> decide) | rfl), rNm_c h9 (by (repeat' apply And.intro) <;> first | (apply p1 <;> decide) | (apply p2 <;> decide) | (refine congrFun ?_ _; apply p1 <;> decide) | (refine congrFun ?_ _; apply p2 <;> decide) | rfl) (by (repeat' apply And.intro) <;> first | (apply q1 <;> decide) | (refine congrFun ?_ _; apply q1 <;> decide) | rfl)⟩ (bset_c (fun t _ _ => hub t)) (fun q a => q1 q (by omega) (by omega) (by omega))
    · obtain ⟨g1, g2, g3, g4, g5, g6, g7, g8, g9, g10⟩ := h1
      have d60 : ∀ t : Int, 0 ≤ t → t < 10 → m' 60 t = dgt (c' 1 8) t := fun t t0 t1 => by
        rw [q3 t, p5 t t0 t1, cif_c (hub t), e77, g8 t t0 t1]
      have p7 := p2 7 (by decide)
      refine ⟨p3, mHOK_d (S := c' 1 8) g2 (fun t t0 t1 => p3.2.2.2.1 t (by rw [p7]; omega) t1) (by rw [q1 55 (by decide) (by decide) (by decide)]) (q1 _ (by decide) (by decide) (by decide)) (q1 _ (by decide) (by decide) (by decide)) (q1 _ (by decide) (by decide) (by decide)) (q1 _ (by decide) (by decide) (by decide)) d60, by rw [q1 55 (by decide) (by decide) (by decide), p7]; exact g3, by rw [q1 56 (by decide) (by decide) (by decide), p1 9 (by decide) (by decide) (by decide)]; exact g4, by rw [q1 57 (by decide) (by decide) (by decide), p1 10 (by decide) (by decide) (by decide)]; exact g5, by rw [q1 58 (by decide) (by decide) (by decide), p1 11 (by decide) (by decide) (by decide)]; exact g6, by rw [q1 62 (by decide) (by decide) (by decide), p1 14 (by decide) (by decide) (by decide)]; exact g7, d60, fun t t0 t1 => ?_, fun t t0 t1 => ?_⟩
      · rw [p7] at t1
        rw [q4 t, p6 t, cif_c (hub t), g9 t t0 t1]
      · rw [p7] at t0
        rw [p6 t, cif_f (fun y => by have := y.1; omega)]
        exact g10 t t0 t1
    · unfold rDe at h6 ⊢
      rw [p1 5 (by decide) (by decide) (by decide), p1 36 (by decide) (by decide) (by decide), p1 37 (by decide) (by decide) (by decide), p4, q1 55 (by decide) (by decide) (by decide), q1 76 (by decide) (by decide) (by decide), q1 77 (by decide) (by decide) (by decide), q2, e78]
      exact ⟨h6.1, h6.2.1, h6.2.2.1, h6.2.2.2.1, rfl, h6.2.2.2.2.2.1, fun i hi => by rw [us_n (by omega)]; exact h6.2.2.2.2.2.2.1 i hi, h6.2.2.2.2.2.2.2⟩
  · rw [hR6.2.1, hR6.2.2.2.2.1] at ha
    omega
