/-! pairs of calls: the house, words, rules -/
theorem pr_state (a : Int) {n : Nat} {c : HP} (H : Rel n c c) : S_X8_state a c (fun r c' => S_X9_state a c' (fun r' m' => Fin n r r' m')) := by
  obtain ⟨⟨hH, hM, e0, _, _, _, _, h60, _, _⟩, _⟩ := id H
  have h10 := hH.1
  refine ⟨⟨fun _ => trivial, fun z => ⟨⟨hH.2.2.1, by omega⟩, trivial⟩⟩, hM.1, ⟨fun _ => trivial, fun z => ⟨by omega, trivial⟩⟩, Fin_u H ?_⟩
  rw [e0]
  by_cases z : 0 ≤ a ∧ a < c 1 7
  · rw [cif_f (fun y => y z), cif_f (fun y => y z), h60 a z.1 (by omega)]
  · rw [cif_t z, cif_t z]
theorem pr_why (a : Int) {n : Nat} {c : HP} (H : Rel n c c) : S_X8_why a c (fun r c' => S_X9_why a c' (fun r' m' => Fin n r r' m')) := by
  obtain ⟨⟨hH, hM, e0, _, _, _, _, _, h61, _⟩, _⟩ := id H
  have h10 := hH.1
  refine ⟨⟨fun _ => trivial, fun z => ⟨by omega, trivial⟩⟩, hM.1, ⟨fun _ => trivial, fun z => ⟨by omega, trivial⟩⟩, Fin_u H ?_⟩
  rw [e0]
  by_cases z : 0 ≤ a ∧ a < c 1 7
  · rw [cif_f (fun y => y z), cif_f (fun y => y z), h61 a z.1 z.2]
  · rw [cif_t z, cif_t z]
theorem pr_count (a : Int) {n : Nat} {c : HP} (H : Rel n c c) : S_X8_count a c (fun r c' => S_X9_count a c' (fun r' m' => Fin n r r' m')) := by
  obtain ⟨⟨_, _, e0, _⟩, ⟨_, _, e16, _⟩, ⟨_, _, e70, _⟩, ⟨_, _, e10, _⟩, _, ⟨_, e29, _⟩, ⟨_, _, e33, _⟩, ⟨L, hc, hm, _⟩, e8, e35, e38, _⟩ := id H
  have e36 : c 55 36 = c 8 6 := by rw [hc.1, hm.1]
  unfold S_X8_count S_X9_count
  refine ⟨fun z => ⟨fun _ => Fin_u H e0.symm, ?_⟩, fun z => ⟨?_, fun _ => Fin_u H e10.symm, ?_⟩, fun z => ⟨?_, ?_, fun _ => Fin_u H e16.symm, ?_⟩, fun z => ⟨?_, ?_, ?_, fun _ => Fin_u H e70.symm, ?_⟩, fun z => ⟨?_, ?_, ?_, ?_, fun _ => Fin_u H e33.symm, ?_⟩, fun z => ⟨?_, ?_, ?_, ?_, ?_, fun _ => Fin_u H e35.symm, ?_⟩, fun z => ⟨?_, ?_, ?_, ?_, ?_, ?_, fun _ => Fin_u H e29.symm, ?_⟩, fun z => ⟨?_, ?_, ?_, ?_, ?_, ?_, ?_, fun _ => Fin_u H e36.symm, ?_⟩, fun z => ⟨?_, ?_, ?_, ?_, ?_, ?_, ?_, ?_, fun _ => Fin_u H e8.symm, ?_⟩, fun z => ⟨?_, ?_, ?_, ?_, ?_, ?_, ?_, ?_, ?_, fun _ => Fin_u H e38.symm, ?_⟩, fun z => ⟨?_, ?_, ?_, ?_, ?_, ?_, ?_, ?_, ?_, ?_, fun _ => Fin_u H rfl⟩⟩ <;> (repeat' apply And.intro) <;> (intro y; exfalso; omega)
theorem pr_doubt (a b v : Int) {n : Nat} {c : HP} (H : Rel n c c) : S_X8_doubt a b v c (fun r c' => S_X9_doubt a b v c' (fun r' m' => Fin n r r' m')) := by
  refine ⟨fun z => ⟨⟨by omega, by omega⟩, ⟨by omega, by omega⟩, by omega, by omega, fun _ => ⟨⟨by omega, by omega⟩, ⟨by omega, by omega⟩, by omega, ⟨by omega, by omega⟩, ⟨by omega, by omega⟩, by omega, ?_⟩, fun y => absurd z y⟩, fun z => ⟨fun y => absurd y z, fun _ => Fin_u H rfl⟩⟩
  obtain ⟨h1, h2, h3, h4, h5, h6, h7, h8, h9⟩ := H
  have e63 := h4.2.2.2.2.2.2.2.1
  have p1 : ∀ q, q ≠ 24 → sth c 24 (a * 16 + b) v q = c q := fun q a1 => sth_ne a1
  have p2 : ∀ q, q ≠ 63 → sth (sth c 24 (a * 16 + b) v) 63 (16 * a + b) v q = sth c 24 (a * 16 + b) v q := fun q a1 => sth_ne a1
  have p3 : ∀ q, q ≠ 63 → q ≠ 24 → sth (sth c 24 (a * 16 + b) v) 63 (16 * a + b) v q = c q := fun q a1 a2 => by rw [sth_ne a1, sth_ne a2]
  refine Fin_m (c' := sth c 24 (a * 16 + b) v) ⟨rHs_c h1 (by (repeat' apply And.intro) <;> first | (apply p1 <;> decide) | (refine congrFun ?_ _; apply p1 <;> decide) | rfl) (by (repeat' apply And.intro) <;> first | (apply p3 <;> decide) | (refine congrFun ?_ _; apply p3 <;> decide) | rfl), rTx_c h2 (by (repeat' apply And.intro) <;> first | (apply p1 <;> decide) | (refine congrFun ?_ _; apply p1 <;> decide) | rfl) (by (repeat' apply And.intro) <;> first | (apply p3 <;> decide) | (refine congrFun ?_ _; apply p3 <;> decide) | rfl), rRl_c h3 (by (repeat' apply And.intro) <;> first | (apply p1 <;> decide) | (refine congrFun ?_ _; apply p1 <;> decide) | rfl) (by (repeat' apply And.intro) <;> first | (apply p3 <;> decide) | (refine congrFun ?_ _; apply p3 <;> decide) | rfl), ?_, rHe_c h5 (by (repeat' apply And.intro) <;> first | (apply p1 <;> decide) | (refine congrFun ?_ _; apply p1 <;> decide) | rfl) (by (repeat' apply And.intro) <;> first | (apply p3 <;> decide) | (refine congrFun ?_ _; apply p3 <;> decide) | rfl), rDe_c h6 (by (repeat' apply And.intro) <;> first | (apply p1 <;> decide) | (refine congrFun ?_ _; apply p1 <;> decide) | rfl) (by (repeat' apply And.intro) <;> first | (apply p3 <;> decide) | (refine congrFun ?_ _; apply p3 <;> decide) | rfl), rSt_c h7 (by (repeat' apply And.intro) <;> first | (apply p1 <;> decide) | (refine congrFun ?_ _; apply p1 <;> decide) | rfl) (by (repeat' apply And.intro) <;> first | (apply p3 <;> decide) | (refine congrFun ?_ _; apply p3 <;> decide) | rfl), rLg_c h8 (by (repeat' apply And.intro) <;> first | (apply p1 <;> decide) | (refine congrFun ?_ _; apply p1 <;> decide) | rfl) (by (repeat' apply And.intro) <;> first | (apply p3 <;> decide) | (refine congrFun ?_ _; apply p3 <;> decide) | rfl), rNm_c h9 (by (repeat' apply And.intro) <;> first | (apply p1 <;> decide) | (refine congrFun ?_ _; apply p1 <;> decide) | rfl) (by (repeat' apply And.intro) <;> first | (apply p3 <;> decide) | (refine congrFun ?_ _; apply p3 <;> decide) | rfl)⟩ ?_ (fun q a1 => sth_ne (by omega))
  · have e24 : sth c 24 (a * 16 + b) v 24 = us (c 24) (a * 16 + b) v := sth_eq
    have f63 : sth (sth c 24 (a * 16 + b) v) 63 (16 * a + b) v 63 = us (c 24) (a * 16 + b) v := by rw [sth_eq, sth_ne (by decide), e63, Int.mul_comm 16 a]
    have hd : ∀ i : Int, 0 ≤ i → i < 256 → 0 ≤ us (c 24) (a * 16 + b) v i ∧ us (c 24) (a * 16 + b) v i ≤ 9 := fun i i0 i1 => by
      by_cases e : i = a * 16 + b
      · rw [e, us_s]; omega
      · rw [us_n e]; exact h4.1.2.2.2 i i0 i1
    unfold rVo VOK mVOK
    rw [e24, f63, p1 3 (by decide), p1 20 (by decide), p1 21 (by decide), p1 22 (by decide), p1 23 (by decide), p1 25 (by decide), p1 54 (by decide), p3 55 (by decide) (by decide), p3 64 (by decide) (by decide), p3 65 (by decide) (by decide), p3 66 (by decide) (by decide), p3 67 (by decide) (by decide), p3 68 (by decide) (by decide), p3 84 (by decide) (by decide)]
    obtain ⟨g1, g2, g3, g4, g5, g6, g7, g8, g9⟩ := h4
    exact ⟨⟨g1.1, g1.2.1, g1.2.2.1, hd⟩, ⟨g2.1, g2.2.1, g2.2.2.1, hd⟩, g3, g4, g5, g6, g7, rfl, g9⟩
  · rw [p1 63 (by decide), e63, Int.mul_comm 16 a]
theorem pr_word (kd nb k v : Int) {n : Nat} {c : HP} (H : Rel n c c) : S_X8_word kd nb k v c (fun r c' => S_X9_word kd nb k v c' (fun r' m' => Fin n r r' m')) := by
  have hV := H.2.2.2.1.1.1
  have e10 := H.2.2.2.1.2.2.1
  refine ⟨fun z => ⟨⟨hV, z.2.2.1⟩, fun zf => ⟨by rw [e10]; exact hV, fun y => absurd z y, fun _ => ⟨fun _ => Fin_u H rfl, fun y => by omega⟩⟩, fun zl c' p1 p2 p3 p4 p5 p6 p7 => ?_⟩, fun z => ⟨by rw [e10]; exact hV, fun _ => Fin_u H rfl, fun y => absurd y z⟩⟩
  have HM : Rel n c c' := Rel_c H (fun _ _ => rfl) (fun q a => p1 q (by omega) (by omega) (by omega) (by omega) (by omega))
  obtain ⟨h1, h2, h3, h4, h5, h6, h7, h8, h9⟩ := HM
  have e10' := h4.2.2.1
  refine ⟨by rw [e10']; exact hV, fun y => absurd z y, fun _ => ⟨fun y => by omega, fun _ m' q1 q2 q3 q4 q5 q6 q7 => ?_⟩⟩
  rw [e10'] at q3 q4 q5 q6 q7
  refine Fin_m (c' := c') ⟨rHs_c h1 (by (repeat' apply And.intro) <;> first | (apply p1 <;> decide) | (apply p2 <;> decide) | (refine congrFun ?_ _; apply p1 <;> decide) | (refine congrFun ?_ _; apply p2 <;> decide) | rfl) (by (repeat' apply And.intro) <;> first | (apply q1 <;> decide) | (apply q2 <;> decide) | (refine congrFun ?_ _; apply q1 <;> decide) | (refine congrFun ?_ _; apply q2 <;> decide) | rfl), rTx_c h2 (by (repeat' apply And.intro) <;> first | (apply p1 <;> decide) | (apply p2 <;> decide) | (refine congrFun ?_ _; apply p1 <;> decide) | (refine congrFun ?_ _; apply p2 <;> decide) | rfl) (by (repeat' apply And.intro) <;> first | (apply q1 <;> decide) | (apply q2 <;> decide) | (refine congrFun ?_ _; apply q1 <;> decide) | (refine congrFun ?_ _; apply q2 <;> decide) | rfl), rRl_c h3 (by (repeat' apply And.intro) <;> first | (apply p1 <;> decide) | (apply p2 <;> decide) | (refine congrFun ?_ _; apply p1 <;> decide) | (refine congrFun ?_ _; apply p2 <;> decide) | rfl) (by (repeat' apply And.intro) <;> first | (apply q1 <;> decide) | (apply q2 <;> decide) | (refine congrFun ?_ _; apply q1 <;> decide) | (refine congrFun ?_ _; apply q2 <;> decide) | rfl), ?_, ?_, rDe_c h6 (by (repeat' apply And.intro) <;> first | (apply p1 <;> decide) | (apply p2 <;> decide) | (refine congrFun ?_ _; apply p1 <;> decide) | (refine congrFun ?_ _; apply p2 <;> decide) | rfl) (by (repeat' apply And.intro) <;> first | (apply q1 <;> decide) | (apply q2 <;> decide) | (refine congrFun ?_ _; apply q1 <;> decide) | (refine congrFun ?_ _; apply q2 <;> decide) | rfl), rSt_c h7 (by (repeat' apply And.intro) <;> first | (apply p1 <;> decide) | (apply p2 <;> decide) | (refine congrFun ?_ _; apply p1 <;> decide) | (refine congrFun ?_ _; apply p2 <;> decide) | rfl) (by (repeat' apply And.intro) <;> first | (apply q1 <;> decide) | (apply q2 <;> decide) | (refine congrFun ?_ _; apply q1 <;> decide) | (refine congrFun ?_ _; apply q2 <;> decide) | rfl), rLg_c h8 (by (repeat' apply And.intro) <;> first | (apply p1 <;> decide) | (apply p2 <;> decide) | (refine congrFun ?_ _; apply p1 <;> decide) | (refine congrFun ?_ _; apply p2 <;> decide) | rfl) (by (repeat' apply And.intro) <;> first | (apply q1 <;> decide) | (apply q2 <;> decide) | (refine congrFun ?_ _; apply q1 <;> decide) | (refine congrFun ?_ _; apply q2 <;> decide) | rfl), rNm_c h9 (by (repeat' apply And.intro) <;> first | (apply p1 <;> decide) | (apply p2 <;> decide) | (refine congrFun ?_ _; apply p1 <;> decide) | (refine congrFun ?_ _; apply p2 <;> decide) | rfl) (by (repeat' apply And.intro) <;> first | (apply q1 <;> decide) | (apply q2 <;> decide) | (refine congrFun ?_ _; apply q1 <;> decide) | (refine congrFun ?_ _; apply q2 <;> decide) | rfl)⟩ e10'.symm (fun q a => q1 q (by omega) (by omega) (by omega) (by omega) (by omega))
  · obtain ⟨g1, g2, g3, g4, g5, g6, g7, g8, g9⟩ := h4
    have w3 : ∀ i : Int, 0 ≤ i → i < 64 → 0 ≤ sndW (c 23) (c 3 6) k v i ∧ sndW (c 23) (c 3 6) k v i ≤ 15 := fun i i0 i1 => by
      unfold sndW
      by_cases e : 4 * c 3 6 ≤ i ∧ i < 4 * c 3 6 + k
      · rw [cif_t e]; exact nb4_b _ _
      · rw [cif_f e]; exact g1.2.2.1 i i0 i1
    have w2 : ∀ j : Int, 0 ≤ j → j < c 3 6 + 1 → (0 ≤ us (c 20) (c 3 6) kd j ∧ us (c 20) (c 3 6) kd j ≤ 3) ∧ (0 ≤ us (c 21) (c 3 6) nb j ∧ us (c 21) (c 3 6) nb j ≤ 4) ∧ (us (c 20) (c 3 6) kd j = 0 → us (c 21) (c 3 6) nb j ≤ 3) ∧ (1 ≤ us (c 22) (c 3 6) k j ∧ us (c 22) (c 3 6) k j ≤ 4) := fun j j0 j1 => by
      by_cases e : j = c 3 6
      · rw [e, us_s, us_s, us_s]
        have ht : topN kd ≤ 4 ∧ (kd = 0 → topN kd ≤ 3) := by unfold topN; constructor <;> (repeat' split) <;> omega
        exact ⟨z.1, by have := z.2.1; omega, fun y => by have := z.2.1; have := ht.2 y; omega, z.2.2.1⟩
      · rw [us_n e, us_n e, us_n e]; exact g1.2.1 j j0 (by omega)
    unfold rVo VOK mVOK
    rw [p3, p4, p5, p6, p7, q3, q4, q5, q6, q7, g4, g5, g6, g7, p1 24 (by decide) (by decide) (by decide) (by decide) (by decide), p1 25 (by decide) (by decide) (by decide) (by decide) (by decide), p1 54 (by decide) (by decide) (by decide) (by decide) (by decide), q1 63 (by decide) (by decide) (by decide) (by decide) (by decide), q1 68 (by decide) (by decide) (by decide) (by decide) (by decide), q1 84 (by decide) (by decide) (by decide) (by decide) (by decide)]
    exact ⟨⟨by omega, w2, w3, g1.2.2.2⟩, ⟨by omega, w2, w3, by rw [g8]; exact g1.2.2.2⟩, rfl, rfl, rfl, rfl, rfl, g8, g9⟩
  · obtain ⟨g1, g2, g3, g4, g5⟩ := h5
    have k20 : ∀ j : Int, j < c 3 6 → c' 20 j = c 20 j := fun j a => by rw [p4, us_n (by omega)]
    have k64 : ∀ j : Int, j < c 3 6 → m' 64 j = c' 64 j := fun j a => by rw [q4, us_n (by omega)]
    unfold rHe whM
    rw [p1 4 (by decide) (by decide) (by decide) (by decide) (by decide), p1 26 (by decide) (by decide) (by decide) (by decide) (by decide), p1 27 (by decide) (by decide) (by decide) (by decide) (by decide), p1 28 (by decide) (by decide) (by decide) (by decide) (by decide), p1 29 (by decide) (by decide) (by decide) (by decide) (by decide), p1 30 (by decide) (by decide) (by decide) (by decide) (by decide), p1 31 (by decide) (by decide) (by decide) (by decide) (by decide), p1 1 (by decide) (by decide) (by decide) (by decide) (by decide), q2 20 (by decide), q2 21 (by decide), q2 22 (by decide), q2 23 (by decide), q1 72 (by decide) (by decide) (by decide) (by decide) (by decide), q1 73 (by decide) (by decide) (by decide) (by decide) (by decide), q1 74 (by decide) (by decide) (by decide) (by decide) (by decide), q1 75 (by decide) (by decide) (by decide) (by decide) (by decide)]
    refine ⟨?_, ?_, g3, g4, g5⟩
    · unfold EOK at g1 ⊢
      rw [p1 4 (by decide) (by decide) (by decide) (by decide) (by decide), p1 27 (by decide) (by decide) (by decide) (by decide) (by decide), p1 28 (by decide) (by decide) (by decide) (by decide) (by decide), p1 29 (by decide) (by decide) (by decide) (by decide) (by decide), p1 30 (by decide) (by decide) (by decide) (by decide) (by decide), p1 31 (by decide) (by decide) (by decide) (by decide) (by decide), p3]
      refine ⟨g1.1, g1.2.1, g1.2.2.1, fun i a b => ?_⟩
      have hh := g1.2.2.2 i a b
      exact ⟨⟨hh.1.1, by have := hh.1.2.1; omega, by rw [k20 _ hh.1.2.1]; exact hh.1.2.2⟩, ⟨hh.2.1.1, by have := hh.2.1.2; omega⟩, hh.2.2.elim Or.inl (fun y => Or.inr ⟨y.1, by omega⟩)⟩
    · unfold mEOK at g2 ⊢
      rw [q2 21 (by decide), q2 23 (by decide), q3, q1 73 (by decide) (by decide) (by decide) (by decide) (by decide), q1 74 (by decide) (by decide) (by decide) (by decide) (by decide), q1 75 (by decide) (by decide) (by decide) (by decide) (by decide)]
      rw [e10'] at g2
      refine ⟨g2.1, g2.2.1, g2.2.2.1, fun i a b => ?_⟩
      have hh := g2.2.2.2 i a b
      exact ⟨hh.1, by have := hh.2.1; omega, by rw [k64 _ hh.2.1]; exact hh.2.2⟩
theorem pr_rule (a b : Int) {n : Nat} {c : HP} (H : Rel n c c) : S_X8_rule a b c (fun r c' => S_X9_rule a b c' (fun r' m' => Fin n r r' m')) := by
  have bad : ¬ okB a b → S_X9_rule a b c (fun r' m' => Fin n (-1) r' m') := fun z => by
    unfold okB topB at z
    refine ⟨fun _ => Fin_u H rfl, fun y => ⟨fun y0 => ⟨fun y1 => ⟨fun u => absurd ⟨y, by rw [if_neg y0, if_neg y1]; exact u⟩ z, fun _ => Fin_u H rfl⟩, fun y1 => ⟨fun u => absurd ⟨y, by rw [if_neg y0, if_pos y1]; exact u⟩ z, fun _ => Fin_u H rfl⟩⟩, fun y0 => ⟨fun u => absurd ⟨y, by rw [if_pos y0]; exact u⟩ z, fun _ => Fin_u H rfl⟩⟩⟩
  refine ⟨fun z => ?_, bad⟩
  have good : Fin n (c 54 a) (sth c 54 a b 68 a) (sth (sth c 54 a b) 68 a b) := by
    obtain ⟨h1, h2, h3, h4, h5, h6, h7, h8, h9⟩ := H
    have e68 := h4.2.2.2.2.2.2.2.2.1
    have p1 : ∀ q, q ≠ 54 → sth c 54 a b q = c q := fun q a1 => sth_ne a1
    have p3 : ∀ q, q ≠ 68 → q ≠ 54 → sth (sth c 54 a b) 68 a b q = c q := fun q a1 a2 => by rw [sth_ne a1, sth_ne a2]
    refine Fin_m (c' := sth c 54 a b) ⟨rHs_c h1 (by (repeat' apply And.intro) <;> first | (apply p1 <;> decide) | (refine congrFun ?_ _; apply p1 <;> decide) | rfl) (by (repeat' apply And.intro) <;> first | (apply p3 <;> decide) | (refine congrFun ?_ _; apply p3 <;> decide) | rfl), rTx_c h2 (by (repeat' apply And.intro) <;> first | (apply p1 <;> decide) | (refine congrFun ?_ _; apply p1 <;> decide) | rfl) (by (repeat' apply And.intro) <;> first | (apply p3 <;> decide) | (refine congrFun ?_ _; apply p3 <;> decide) | rfl), rRl_c h3 (by (repeat' apply And.intro) <;> first | (apply p1 <;> decide) | (refine congrFun ?_ _; apply p1 <;> decide) | rfl) (by (repeat' apply And.intro) <;> first | (apply p3 <;> decide) | (refine congrFun ?_ _; apply p3 <;> decide) | rfl), ?_, rHe_c h5 (by (repeat' apply And.intro) <;> first | (apply p1 <;> decide) | (refine congrFun ?_ _; apply p1 <;> decide) | rfl) (by (repeat' apply And.intro) <;> first | (apply p3 <;> decide) | (refine congrFun ?_ _; apply p3 <;> decide) | rfl), rDe_c h6 (by (repeat' apply And.intro) <;> first | (apply p1 <;> decide) | (refine congrFun ?_ _; apply p1 <;> decide) | rfl) (by (repeat' apply And.intro) <;> first | (apply p3 <;> decide) | (refine congrFun ?_ _; apply p3 <;> decide) | rfl), rSt_c h7 (by (repeat' apply And.intro) <;> first | (apply p1 <;> decide) | (refine congrFun ?_ _; apply p1 <;> decide) | rfl) (by (repeat' apply And.intro) <;> first | (apply p3 <;> decide) | (refine congrFun ?_ _; apply p3 <;> decide) | rfl), rLg_c h8 (by (repeat' apply And.intro) <;> first | (apply p1 <;> decide) | (refine congrFun ?_ _; apply p1 <;> decide) | rfl) (by (repeat' apply And.intro) <;> first | (apply p3 <;> decide) | (refine congrFun ?_ _; apply p3 <;> decide) | rfl), rNm_c h9 (by (repeat' apply And.intro) <;> first | (apply p1 <;> decide) | (refine congrFun ?_ _; apply p1 <;> decide) | rfl) (by (repeat' apply And.intro) <;> first | (apply p3 <;> decide) | (refine congrFun ?_ _; apply p3 <;> decide) | rfl)⟩ (by rw [p1 68 (by decide), e68]) (fun q a1 => sth_ne (by omega))
    have e54 : sth c 54 a b 54 = us (c 54) a b := sth_eq
    have f68 : sth (sth c 54 a b) 68 a b 68 = us (c 54) a b := by rw [sth_eq, sth_ne (by decide), e68]
    unfold rVo VOK mVOK
    rw [e54, f68, p1 3 (by decide), p1 20 (by decide), p1 21 (by decide), p1 22 (by decide), p1 23 (by decide), p1 24 (by decide), p1 25 (by decide), p3 55 (by decide) (by decide), p3 63 (by decide) (by decide), p3 64 (by decide) (by decide), p3 65 (by decide) (by decide), p3 66 (by decide) (by decide), p3 67 (by decide) (by decide), p3 84 (by decide) (by decide)]
    obtain ⟨g1, g2, g3, g4, g5, g6, g7, g8, g9, g10, g11⟩ := h4
    refine ⟨g1, g2, g3, g4, g5, g6, g7, g8, rfl, ?_, g11⟩
    have hz := z.2
    unfold topB at hz
    rcases (show a = 0 ∨ a = 1 ∨ a = 2 by have := z.1; omega) with rfl | rfl | rfl
    · rw [us_s, us_n (by decide), us_n (by decide)]; exact ⟨hz, g10.2⟩
    · rw [us_s, us_n (by decide), us_n (by decide)]; exact ⟨g10.1, hz, g10.2.2⟩
    · rw [us_s, us_n (by decide), us_n (by decide)]; exact ⟨g10.1, g10.2.1, hz⟩
  have hz := z.2
  have ha := z.1
  unfold topB at hz
  refine ⟨fun y => absurd ha y, fun _ => ⟨fun y0 => ⟨fun y1 => ⟨fun _ => ⟨by omega, by omega, good⟩, fun u => absurd (by rw [if_neg y0, if_neg y1] at hz; exact hz) u⟩, fun y1 => ⟨fun _ => ⟨by omega, by omega, good⟩, fun u => absurd (by rw [if_neg y0, if_pos y1] at hz; exact hz) u⟩⟩, fun y0 => ⟨fun _ => ⟨by omega, by omega, good⟩, fun u => absurd (by rw [if_pos y0] at hz; exact hz) u⟩⟩⟩
theorem pr_write (k v : Int) {n : Nat} {c : HP} (H : Rel n c c) : S_X8_write k v c (fun r c' => S_X9_write k v c' (fun r' m' => Fin n r r' m')) := by
  have e16 := H.2.1.2.2.1
  refine ⟨fun z => ⟨fun _ => Fin_u H rfl, fun y => absurd y z⟩, fun z => ⟨⟨H.2.1.1, z⟩, fun zf => ⟨fun y => absurd z y, fun _ => ⟨H.2.1.2.1, fun _ => Fin_u H rfl, fun y => by omega⟩⟩, fun zl c' p1 p2 p3 p4 => ?_⟩⟩
  have HM : Rel n c c' := Rel_c H (fun _ _ => rfl) (fun q a => p1 q (by omega) (by omega))
  obtain ⟨h1, h2, h3, h4, h5, h6, h7, h8, h9⟩ := HM
  have e16' := h2.2.2.1
  refine ⟨fun y => absurd z y, fun _ => ⟨h2.2.1, fun y => by omega, fun _ m' q1 q2 q3 q4 => ?_⟩⟩
  rw [e16'] at q3 q4
  refine Fin_m (c' := c') ⟨rHs_c h1 (by (repeat' apply And.intro) <;> first | (apply p1 <;> decide) | (apply p2 <;> decide) | (refine congrFun ?_ _; apply p1 <;> decide) | (refine congrFun ?_ _; apply p2 <;> decide) | rfl) (by (repeat' apply And.intro) <;> first | (apply q1 <;> decide) | (apply q2 <;> decide) | (refine congrFun ?_ _; apply q1 <;> decide) | (refine congrFun ?_ _; apply q2 <;> decide) | rfl), ?_, rRl_c h3 (by (repeat' apply And.intro) <;> first | (apply p1 <;> decide) | (apply p2 <;> decide) | (refine congrFun ?_ _; apply p1 <;> decide) | (refine congrFun ?_ _; apply p2 <;> decide) | rfl) (by (repeat' apply And.intro) <;> first | (apply q1 <;> decide) | (apply q2 <;> decide) | (refine congrFun ?_ _; apply q1 <;> decide) | (refine congrFun ?_ _; apply q2 <;> decide) | rfl), rVo_c h4 (by (repeat' apply And.intro) <;> first | (apply p1 <;> decide) | (apply p2 <;> decide) | (refine congrFun ?_ _; apply p1 <;> decide) | (refine congrFun ?_ _; apply p2 <;> decide) | rfl) (by (repeat' apply And.intro) <;> first | (apply q1 <;> decide) | (apply q2 <;> decide) | (refine congrFun ?_ _; apply q1 <;> decide) | (refine congrFun ?_ _; apply q2 <;> decide) | rfl), rHe_c h5 (by (repeat' apply And.intro) <;> first | (apply p1 <;> decide) | (apply p2 <;> decide) | (refine congrFun ?_ _; apply p1 <;> decide) | (refine congrFun ?_ _; apply p2 <;> decide) | rfl) (by (repeat' apply And.intro) <;> first | (apply q1 <;> decide) | (apply q2 <;> decide) | (refine congrFun ?_ _; apply q1 <;> decide) | (refine congrFun ?_ _; apply q2 <;> decide) | rfl), rDe_c h6 (by (repeat' apply And.intro) <;> first | (apply p1 <;> decide) | (apply p2 <;> decide) | (refine congrFun ?_ _; apply p1 <;> decide) | (refine congrFun ?_ _; apply p2 <;> decide) | rfl) (by (repeat' apply And.intro) <;> first | (apply q1 <;> decide) | (apply q2 <;> decide) | (refine congrFun ?_ _; apply q1 <;> decide) | (refine congrFun ?_ _; apply q2 <;> decide) | rfl), rSt_c h7 (by (repeat' apply And.intro) <;> first | (apply p1 <;> decide) | (apply p2 <;> decide) | (refine congrFun ?_ _; apply p1 <;> decide) | (refine congrFun ?_ _; apply p2 <;> decide) | rfl) (by (repeat' apply And.intro) <;> first | (apply q1 <;> decide) | (apply q2 <;> decide) | (refine congrFun ?_ _; apply q1 <;> decide) | (refine congrFun ?_ _; apply q2 <;> decide) | rfl), rLg_c h8 (by (repeat' apply And.intro) <;> first | (apply p1 <;> decide) | (apply p2 <;> decide) | (refine congrFun ?_ _; apply p1 <;> decide) | (refine congrFun ?_ _; apply p2 <;> decide) | rfl) (by (repeat' apply And.intro) <;> first | (apply q1 <;> decide) | (apply q2 <;> decide) | (refine congrFun ?_ _; apply q1 <;> decide) | (refine congrFun ?_ _; apply q2 <;> decide) | rfl), rNm_c h9 (by (repeat' apply And.intro) <;> first | (apply p1 <;> decide) | (apply p2 <;> decide) | (refine congrFun ?_ _; apply p1 <;> decide) | (refine congrFun ?_ _; apply p2 <;> decide) | rfl) (by (repeat' apply And.intro) <;> first | (apply q1 <;> decide) | (apply q2 <;> decide) | (refine congrFun ?_ _; apply q1 <;> decide) | (refine congrFun ?_ _; apply q2 <;> decide) | rfl)⟩ (by rw [e16']) (fun q a => q1 q (by omega) (by omega))
  obtain ⟨g1, g2, g3, g4⟩ := h2
  have hb : ∀ j : Int, 0 ≤ j → j < c 2 5 + k → 0 ≤ (if c 2 5 ≤ j ∧ j < c 2 5 + k then byt v (c 2 5 + k - 1 - j) else c 16 j) ∧ (if c 2 5 ≤ j ∧ j < c 2 5 + k then byt v (c 2 5 + k - 1 - j) else c 16 j) ≤ 255 := fun j j0 j1 => by
    by_cases e : c 2 5 ≤ j ∧ j < c 2 5 + k
    · rw [if_pos e]; exact byt_b _ _
    · rw [if_neg e]; exact g1.2.2 j j0 (by omega)
  unfold rTx tOK mtOK
  rw [p3, p4, q3, q4, g4]
  exact ⟨⟨by have := g1.1; omega, zl, hb⟩, ⟨by have := g1.1; omega, zl, hb⟩, rfl, rfl⟩
theorem pr_wipe {n : Nat} {c : HP} (H : Rel n c c) : S_X8_wipe c (fun r c' => S_X9_wipe c' (fun r' m' => Fin n r r' m')) := by
  obtain ⟨h1, h2, h3, h4, h5, h6, h7, h8, h9⟩ := H
  have p1 : ∀ q, q ≠ 2 → sth c 2 5 0 q = c q := fun q a1 => sth_ne a1
  have p2 : ∀ i : Int, i ≠ 5 → sth c 2 5 0 2 i = c 2 i := fun i a1 => by rw [sth_eq, us_n a1]
  have q1 : ∀ q, q ≠ 55 → q ≠ 2 → sth (sth c 2 5 0) 55 16 0 q = c q := fun q a1 a2 => by rw [sth_ne a1, sth_ne a2]
  have q2 : ∀ i : Int, i ≠ 16 → sth (sth c 2 5 0) 55 16 0 55 i = c 55 i := fun i a1 => by rw [sth_eq, us_n a1, sth_ne (by decide)]
  refine Fin_m (c' := sth c 2 5 0) ⟨rHs_c h1 (by (repeat' apply And.intro) <;> first | (apply p1 <;> decide) | (apply p2 <;> decide) | (refine congrFun ?_ _; apply p1 <;> decide) | (refine congrFun ?_ _; apply p2 <;> decide) | rfl) (by (repeat' apply And.intro) <;> first | (apply q1 <;> decide) | (apply q2 <;> decide) | (refine congrFun ?_ _; apply q1 <;> decide) | (refine congrFun ?_ _; apply q2 <;> decide) | rfl), ?_, rRl_c h3 (by (repeat' apply And.intro) <;> first | (apply p1 <;> decide) | (apply p2 <;> decide) | (refine congrFun ?_ _; apply p1 <;> decide) | (refine congrFun ?_ _; apply p2 <;> decide) | rfl) (by (repeat' apply And.intro) <;> first | (apply q1 <;> decide) | (apply q2 <;> decide) | (refine congrFun ?_ _; apply q1 <;> decide) | (refine congrFun ?_ _; apply q2 <;> decide) | rfl), rVo_c h4 (by (repeat' apply And.intro) <;> first | (apply p1 <;> decide) | (apply p2 <;> decide) | (refine congrFun ?_ _; apply p1 <;> decide) | (refine congrFun ?_ _; apply p2 <;> decide) | rfl) (by (repeat' apply And.intro) <;> first | (apply q1 <;> decide) | (apply q2 <;> decide) | (refine congrFun ?_ _; apply q1 <;> decide) | (refine congrFun ?_ _; apply q2 <;> decide) | rfl), rHe_c h5 (by (repeat' apply And.intro) <;> first | (apply p1 <;> decide) | (apply p2 <;> decide) | (refine congrFun ?_ _; apply p1 <;> decide) | (refine congrFun ?_ _; apply p2 <;> decide) | rfl) (by (repeat' apply And.intro) <;> first | (apply q1 <;> decide) | (apply q2 <;> decide) | (refine congrFun ?_ _; apply q1 <;> decide) | (refine congrFun ?_ _; apply q2 <;> decide) | rfl), rDe_c h6 (by (repeat' apply And.intro) <;> first | (apply p1 <;> decide) | (apply p2 <;> decide) | (refine congrFun ?_ _; apply p1 <;> decide) | (refine congrFun ?_ _; apply p2 <;> decide) | rfl) (by (repeat' apply And.intro) <;> first | (apply q1 <;> decide) | (apply q2 <;> decide) | (refine congrFun ?_ _; apply q1 <;> decide) | (refine congrFun ?_ _; apply q2 <;> decide) | rfl), rSt_c h7 (by (repeat' apply And.intro) <;> first | (apply p1 <;> decide) | (apply p2 <;> decide) | (refine congrFun ?_ _; apply p1 <;> decide) | (refine congrFun ?_ _; apply p2 <;> decide) | rfl) (by (repeat' apply And.intro) <;> first | (apply q1 <;> decide) | (apply q2 <;> decide) | (refine congrFun ?_ _; apply q1 <;> decide) | (refine congrFun ?_ _; apply q2 <;> decide) | rfl), rLg_c h8 (by (repeat' apply And.intro) <;> first | (apply p1 <;> decide) | (apply p2 <;> decide) | (refine congrFun ?_ _; apply p1 <;> decide) | (refine congrFun ?_ _; apply p2 <;> decide) | rfl) (by (repeat' apply And.intro) <;> first | (apply q1 <;> decide) | (apply q2 <;> decide) | (refine congrFun ?_ _; apply q1 <;> decide) | (refine congrFun ?_ _; apply q2 <;> decide) | rfl), rNm_c h9 (by (repeat' apply And.intro) <;> first | (apply p1 <;> decide) | (apply p2 <;> decide) | (refine congrFun ?_ _; apply p1 <;> decide) | (refine congrFun ?_ _; apply p2 <;> decide) | rfl) (by (repeat' apply And.intro) <;> first | (apply q1 <;> decide) | (apply q2 <;> decide) | (refine congrFun ?_ _; apply q1 <;> decide) | (refine congrFun ?_ _; apply q2 <;> decide) | rfl)⟩ (by rw [p1 55 (by decide)]; exact h2.2.2.1.symm) (fun q a => sth_ne (by omega))
  have e1 : sth c 2 5 0 2 5 = 0 := by rw [sth_eq, us_s]
  have e2 : sth (sth c 2 5 0) 55 16 0 55 16 = 0 := by rw [sth_eq, us_s]
  unfold rTx tOK mtOK
  rw [e1, e2, q1 69 (by decide) (by decide), p1 16 (by decide)]
  exact ⟨⟨by decide, by decide, fun j a b => by omega⟩, ⟨by decide, by decide, fun j a b => by omega⟩, rfl, h2.2.2.2⟩
theorem rRl_d {c m c' m' : HP} (h : rRl c m) (e : c' 2 6 = c 2 6 ∧ c' 18 = c 18 ∧ c' 19 = c 19) (f : m' 70 1 = m 70 1) (f2 : ∀ i : Int, 240 ≤ i → m' 71 i = m 71 i) : rRl c' m' := by
  obtain ⟨h1, h2, h3, h4⟩ := h
  unfold rRl
  rw [e.1, e.2.1, e.2.2, f]
  refine ⟨by unfold fOK; rw [e.1, e.2.1, e.2.2]; exact h1, ?_, h3, fun k k0 k1 => ⟨by rw [f2 _ (by omega)]; exact (h4 k k0 k1).1, fun j hj => by rw [f2 _ (by omega)]; exact (h4 k k0 k1).2 j hj⟩⟩
  unfold mfOK
  rw [f]
  refine ⟨h2.1, fun k k0 k1 => ?_⟩
  rw [f2 _ (by omega), f2 _ (by omega), f2 _ (by omega), f2 _ (by omega), f2 _ (by omega), f2 _ (by omega)]
  exact h2.2 k k0 k1
theorem pr_fault {n : Nat} {c : HP} (H : Rel n c c) : S_X8_fault c (fun r c' => S_X9_fault c' (fun r' m' => Fin n r r' m')) := by
  refine ⟨H.2.1.1, fun r c' p1 hr => ?_⟩
  have HM : Rel n c c' := Rel_c H (fun _ _ => rfl) (fun q a => p1 q (by omega))
  obtain ⟨h1, h2, h3, h4, h5, h6, h7, h8, h9⟩ := HM
  refine ⟨h2.2.1, fun r' m' q1 q2 q3 q4 hr' _ => ?_⟩
  have q70 : m' 70 1 = c' 70 1 := q3 1 (by decide)
  refine Fin_m (c' := c') ⟨rHs_c h1 (by (repeat' apply And.intro) <;> first | (apply p1 <;> decide) | (refine congrFun ?_ _; apply p1 <;> decide) | rfl) (by (repeat' apply And.intro) <;> first | (apply q1 <;> decide) | (apply q2 <;> decide) | (refine congrFun ?_ _; apply q1 <;> decide) | (refine congrFun ?_ _; apply q2 <;> decide) | rfl), rTx_c h2 (by (repeat' apply And.intro) <;> first | (apply p1 <;> decide) | (refine congrFun ?_ _; apply p1 <;> decide) | rfl) (by (repeat' apply And.intro) <;> first | (apply q1 <;> decide) | (apply q2 <;> decide) | (refine congrFun ?_ _; apply q1 <;> decide) | (refine congrFun ?_ _; apply q2 <;> decide) | rfl), rRl_d h3 (by (repeat' apply And.intro) <;> first | (apply p1 <;> decide) | (refine congrFun ?_ _; apply p1 <;> decide) | rfl) q70 q4, rVo_c h4 (by (repeat' apply And.intro) <;> first | (apply p1 <;> decide) | (refine congrFun ?_ _; apply p1 <;> decide) | rfl) (by (repeat' apply And.intro) <;> first | (apply q1 <;> decide) | (apply q2 <;> decide) | (refine congrFun ?_ _; apply q1 <;> decide) | (refine congrFun ?_ _; apply q2 <;> decide) | rfl), rHe_c h5 (by (repeat' apply And.intro) <;> first | (apply p1 <;> decide) | (refine congrFun ?_ _; apply p1 <;> decide) | rfl) (by (repeat' apply And.intro) <;> first | (apply q1 <;> decide) | (apply q2 <;> decide) | (refine congrFun ?_ _; apply q1 <;> decide) | (refine congrFun ?_ _; apply q2 <;> decide) | rfl), rDe_c h6 (by (repeat' apply And.intro) <;> first | (apply p1 <;> decide) | (refine congrFun ?_ _; apply p1 <;> decide) | rfl) (by (repeat' apply And.intro) <;> first | (apply q1 <;> decide) | (apply q2 <;> decide) | (refine congrFun ?_ _; apply q1 <;> decide) | (refine congrFun ?_ _; apply q2 <;> decide) | rfl), rSt_c h7 (by (repeat' apply And.intro) <;> first | (apply p1 <;> decide) | (refine congrFun ?_ _; apply p1 <;> decide) | rfl) (by (repeat' apply And.intro) <;> first | (apply q1 <;> decide) | (apply q2 <;> decide) | (refine congrFun ?_ _; apply q1 <;> decide) | (refine congrFun ?_ _; apply q2 <;> decide) | rfl), rLg_c h8 (by (repeat' apply And.intro) <;> first | (apply p1 <;> decide) | (refine congrFun ?_ _; apply p1 <;> decide) | rfl) (by (repeat' apply And.intro) <;> first | (apply q1 <;> decide) | (apply q2 <;> decide) | (refine congrFun ?_ _; apply q1 <;> decide) | (refine congrFun ?_ _; apply q2 <;> decide) | rfl), rNm_c h9 (by (repeat' apply And.intro) <;> first | (apply p1 <;> decide) | (refine congrFun ?_ _; apply p1 <;> decide) | rfl) (by (repeat' apply And.intro) <;> first | (apply q1 <;> decide) | (apply q2 <;> decide) | (refine congrFun ?_ _; apply q1 <;> decide) | (refine congrFun ?_ _; apply q2 <;> decide) | rfl)⟩ ?_ (fun q a => q1 q (by omega) (by omega) (by omega) (by omega))
  rw [h2.2.2.1, h2.2.2.2] at hr'
  exact ffR_u hr hr'
theorem okT_u {T : Int → Int} {L : Int} {m m' : Nat} (h : okT T L m) (h' : okT T L m') : m = m' := by
  apply Classical.byContradiction
  intro ne
  rcases Nat.lt_or_gt_of_ne ne with y | y
  · have := (h'.1 m y).1; have := h.2; omega
  · have := (h.1 m' y).1; have := h'.2; omega
theorem fOK_of {T : Int → Int} {L : Int} {m : Nat} (hL : L ≤ 200) (ho : okT T L m) {A B C D E F : Int → Int} (h0 : ∀ k : Nat, k < m → A (k : Int) = T (ps T L k)) (h1 : ∀ k : Nat, k < m → (0 : Int) < nW (T (ps T L k)) → B (k : Int) = nvl T L (np T L (ps T L k) 0)) (h2 : ∀ k : Nat, k < m → (1 : Int) < nW (T (ps T L k)) → C (k : Int) = nvl T L (np T L (ps T L k) 1)) (h3 : ∀ k : Nat, k < m → (2 : Int) < nW (T (ps T L k)) → D (k : Int) = nvl T L (np T L (ps T L k) 2)) (h4 : ∀ k : Nat, k < m → (3 : Int) < nW (T (ps T L k)) → E (k : Int) = nvl T L (np T L (ps T L k) 3)) (h5 : ∀ k : Nat, k < m → (4 : Int) < nW (T (ps T L k)) → F (k : Int) = nvl T L (np T L (ps T L k) 4)) : ∀ k : Int, 0 ≤ k → k < (m : Int) → iOK (A k) (B k) (C k) (D k) (E k) (F k) := by
  intro k k0 k1
  obtain ⟨j, rfl⟩ : ∃ j : Nat, k = (j : Int) := ⟨k.toNat, by omega⟩
  have hj : j < m := by omega
  rw [h0 j hj]
  rcases iv_OK (ho.1 j hj).2 with ⟨e, y⟩ | ⟨e, y⟩ | ⟨e, y⟩
  · have w : nW (T (ps T L j)) = 5 := by rw [e]; rfl
    rw [h1 j hj (by omega), h2 j hj (by omega), h3 j hj (by omega), h4 j hj (by omega), h5 j hj (by omega), e]
    exact y
  · have w : nW (T (ps T L j)) = 4 := by rw [e]; rfl
    rw [h1 j hj (by omega), h2 j hj (by omega), h3 j hj (by omega), h4 j hj (by omega), e]
    exact y _
  · have w : nW (T (ps T L j)) = 2 := by rw [e]; rfl
    rw [h1 j hj (by omega), h2 j hj (by omega), e]
    exact y _ _ _
theorem pr_force {n : Nat} {c : HP} (H : Rel n c c) : S_X8_force c (fun r c' => S_X9_force c' (fun r' m' => Fin n r r' m')) := by
  have hL : c 2 5 ≤ 200 := H.2.1.1.2.1
  have ffo : ∀ {T : Int → Int} {L : Int} {m : Nat}, okT T L m → ffR T L (-4) := fun {T L m} ho => ⟨m, ho.1, Or.inr ⟨ho.2, rfl⟩⟩
  refine ⟨H.2.1.1, fun c' r p1 hr hne => ?_, fun c' k p1 p2 hok p3 p4 => ?_⟩
  · have HM : Rel n c c' := Rel_c H (fun _ _ => rfl) (fun q a => p1 q (by omega))
    obtain ⟨h1, h2, h3, h4, h5, h6, h7, h8, h9⟩ := HM
    refine ⟨h2.2.1, fun m' r' q1 q2 q3 q4 hr' hne' => ?_, fun m' k' q1 q2 hok' _ _ => ?_⟩
    · have q70 : m' 70 1 = c' 70 1 := q3 1 (by decide)
      exact Fin_m (c' := c') ⟨rHs_c h1 (by (repeat' apply And.intro) <;> first | (apply p1 <;> decide) | (refine congrFun ?_ _; apply p1 <;> decide) | rfl) (by (repeat' apply And.intro) <;> first | (apply q1 <;> decide) | (apply q2 <;> decide) | (refine congrFun ?_ _; apply q1 <;> decide) | (refine congrFun ?_ _; apply q2 <;> decide) | rfl), rTx_c h2 (by (repeat' apply And.intro) <;> first | (apply p1 <;> decide) | (refine congrFun ?_ _; apply p1 <;> decide) | rfl) (by (repeat' apply And.intro) <;> first | (apply q1 <;> decide) | (apply q2 <;> decide) | (refine congrFun ?_ _; apply q1 <;> decide) | (refine congrFun ?_ _; apply q2 <;> decide) | rfl), rRl_d h3 (by (repeat' apply And.intro) <;> first | (apply p1 <;> decide) | (refine congrFun ?_ _; apply p1 <;> decide) | rfl) q70 q4, rVo_c h4 (by (repeat' apply And.intro) <;> first | (apply p1 <;> decide) | (refine congrFun ?_ _; apply p1 <;> decide) | rfl) (by (repeat' apply And.intro) <;> first | (apply q1 <;> decide) | (apply q2 <;> decide) | (refine congrFun ?_ _; apply q1 <;> decide) | (refine congrFun ?_ _; apply q2 <;> decide) | rfl), rHe_c h5 (by (repeat' apply And.intro) <;> first | (apply p1 <;> decide) | (refine congrFun ?_ _; apply p1 <;> decide) | rfl) (by (repeat' apply And.intro) <;> first | (apply q1 <;> decide) | (apply q2 <;> decide) | (refine congrFun ?_ _; apply q1 <;> decide) | (refine congrFun ?_ _; apply q2 <;> decide) | rfl), rDe_c h6 (by (repeat' apply And.intro) <;> first | (apply p1 <;> decide) | (refine congrFun ?_ _; apply p1 <;> decide) | rfl) (by (repeat' apply And.intro) <;> first | (apply q1 <;> decide) | (apply q2 <;> decide) | (refine congrFun ?_ _; apply q1 <;> decide) | (refine congrFun ?_ _; apply q2 <;> decide) | rfl), rSt_c h7 (by (repeat' apply And.intro) <;> first | (apply p1 <;> decide) | (refine congrFun ?_ _; apply p1 <;> decide) | rfl) (by (repeat' apply And.intro) <;> first | (apply q1 <;> decide) | (apply q2 <;> decide) | (refine congrFun ?_ _; apply q1 <;> decide) | (refine congrFun ?_ _; apply q2 <;> decide) | rfl), rLg_c h8 (by (repeat' apply And.intro) <;> first | (apply p1 <;> decide) | (refine congrFun ?_ _; apply p1 <;> decide) | rfl) (by (repeat' apply And.intro) <;> first | (apply q1 <;> decide) | (apply q2 <;> decide) | (refine congrFun ?_ _; apply q1 <;> decide) | (refine congrFun ?_ _; apply q2 <;> decide) | rfl), rNm_c h9 (by (repeat' apply And.intro) <;> first | (apply p1 <;> decide) | (refine congrFun ?_ _; apply p1 <;> decide) | rfl) (by (repeat' apply And.intro) <;> first | (apply q1 <;> decide) | (apply q2 <;> decide) | (refine congrFun ?_ _; apply q1 <;> decide) | (refine congrFun ?_ _; apply q2 <;> decide) | rfl)⟩ rfl (fun q a => q1 q (by omega) (by omega) (by omega) (by omega))
    · rw [h2.2.2.1, h2.2.2.2] at hok'
      exact absurd (ffR_u hr (ffo hok')) hne
  · have HM : Rel n c c' := Rel_c H (fun _ _ => rfl) (fun q a => p1 q (by omega) (by omega) (by omega) (by omega))
    obtain ⟨h1, h2, h3, h4, h5, h6, h7, h8, h9⟩ := HM
    have h40 := okT_40 hok hL
    refine ⟨h2.2.1, fun m' r' q1 q2 q3 q4 hr' hne' => ?_, fun m' k' q1 q2 hok' q3 q4 => ?_⟩
    · rw [h2.2.2.1, h2.2.2.2] at hr'
      exact absurd (ffR_u hr' (ffo hok)) hne'
    · rw [h2.2.2.1, h2.2.2.2] at hok' q4
      have ek := okT_u hok hok'
      subst ek
      refine Fin_m (c' := c') ⟨rHs_c h1 (by (repeat' apply And.intro) <;> first | (apply p1 <;> decide) | (apply p2 <;> decide) | (refine congrFun ?_ _; apply p1 <;> decide) | (refine congrFun ?_ _; apply p2 <;> decide) | rfl) (by (repeat' apply And.intro) <;> first | (apply q1 <;> decide) | (apply q2 <;> decide) | (refine congrFun ?_ _; apply q1 <;> decide) | (refine congrFun ?_ _; apply q2 <;> decide) | rfl), rTx_c h2 (by (repeat' apply And.intro) <;> first | (apply p1 <;> decide) | (apply p2 <;> decide) | (refine congrFun ?_ _; apply p1 <;> decide) | (refine congrFun ?_ _; apply p2 <;> decide) | rfl) (by (repeat' apply And.intro) <;> first | (apply q1 <;> decide) | (apply q2 <;> decide) | (refine congrFun ?_ _; apply q1 <;> decide) | (refine congrFun ?_ _; apply q2 <;> decide) | rfl), ?_, rVo_c h4 (by (repeat' apply And.intro) <;> first | (apply p1 <;> decide) | (apply p2 <;> decide) | (refine congrFun ?_ _; apply p1 <;> decide) | (refine congrFun ?_ _; apply p2 <;> decide) | rfl) (by (repeat' apply And.intro) <;> first | (apply q1 <;> decide) | (apply q2 <;> decide) | (refine congrFun ?_ _; apply q1 <;> decide) | (refine congrFun ?_ _; apply q2 <;> decide) | rfl), rHe_c h5 (by (repeat' apply And.intro) <;> first | (apply p1 <;> decide) | (apply p2 <;> decide) | (refine congrFun ?_ _; apply p1 <;> decide) | (refine congrFun ?_ _; apply p2 <;> decide) | rfl) (by (repeat' apply And.intro) <;> first | (apply q1 <;> decide) | (apply q2 <;> decide) | (refine congrFun ?_ _; apply q1 <;> decide) | (refine congrFun ?_ _; apply q2 <;> decide) | rfl), rDe_c h6 (by (repeat' apply And.intro) <;> first | (apply p1 <;> decide) | (apply p2 <;> decide) | (refine congrFun ?_ _; apply p1 <;> decide) | (refine congrFun ?_ _; apply p2 <;> decide) | rfl) (by (repeat' apply And.intro) <;> first | (apply q1 <;> decide) | (apply q2 <;> decide) | (refine congrFun ?_ _; apply q1 <;> decide) | (refine congrFun ?_ _; apply q2 <;> decide) | rfl), rSt_c h7 (by (repeat' apply And.intro) <;> first | (apply p1 <;> decide) | (apply p2 <;> decide) | (refine congrFun ?_ _; apply p1 <;> decide) | (refine congrFun ?_ _; apply p2 <;> decide) | rfl) (by (repeat' apply And.intro) <;> first | (apply q1 <;> decide) | (apply q2 <;> decide) | (refine congrFun ?_ _; apply q1 <;> decide) | (refine congrFun ?_ _; apply q2 <;> decide) | rfl), rLg_c h8 (by (repeat' apply And.intro) <;> first | (apply p1 <;> decide) | (apply p2 <;> decide) | (refine congrFun ?_ _; apply p1 <;> decide) | (refine congrFun ?_ _; apply p2 <;> decide) | rfl) (by (repeat' apply And.intro) <;> first | (apply q1 <;> decide) | (apply q2 <;> decide) | (refine congrFun ?_ _; apply q1 <;> decide) | (refine congrFun ?_ _; apply q2 <;> decide) | rfl), rNm_c h9 (by (repeat' apply And.intro) <;> first | (apply p1 <;> decide) | (apply p2 <;> decide) | (refine congrFun ?_ _; apply p1 <;> decide) | (refine congrFun ?_ _; apply p2 <;> decide) | rfl) (by (repeat' apply And.intro) <;> first | (apply q1 <;> decide) | (apply q2 <;> decide) | (refine congrFun ?_ _; apply q1 <;> decide) | (refine congrFun ?_ _; apply q2 <;> decide) | rfl)⟩ rfl (fun q a => q1 q (by omega) (by omega) (by omega) (by omega))
      unfold rRl fOK mfOK
      rw [p3, q3]
      refine ⟨⟨by omega, ?_⟩, ⟨by omega, ?_⟩, rfl, fun i i0 i1 => ?_⟩
      · exact fOK_of hL hok (A := fun i => c' 18 i) (B := fun i => c' 19 (i * 5)) (C := fun i => c' 19 (i * 5 + 1)) (D := fun i => c' 19 (i * 5 + 2)) (E := fun i => c' 19 (i * 5 + 3)) (F := fun i => c' 19 (i * 5 + 4)) (fun i hi => (p4 i hi).1) (fun i hi w => by have := (p4 i hi).2 0 w; rw [show (i : Int) * 5 + ((0 : Nat) : Int) = (i : Int) * 5 by omega] at this; exact this) (fun i hi w => (p4 i hi).2 1 w) (fun i hi w => (p4 i hi).2 2 w) (fun i hi w => (p4 i hi).2 3 w) (fun i hi w => (p4 i hi).2 4 w)
      · have z1 : ∀ i : Nat, i < k → ∀ j : Nat, (j : Int) < nW (c 16 (ps (c 16) (c 2 5) i)) → m' 71 (240 + 6 * (i : Int) + 1 + (j : Int)) = nvl (c 16) (c 2 5) (np (c 16) (c 2 5) (ps (c 16) (c 2 5) i) j) := fun i hi => (q4 i hi).2
        exact fOK_of hL hok (A := fun i => m' 71 (240 + 6 * i)) (B := fun i => m' 71 (240 + 6 * i + 1)) (C := fun i => m' 71 (240 + 6 * i + 2)) (D := fun i => m' 71 (240 + 6 * i + 3)) (E := fun i => m' 71 (240 + 6 * i + 4)) (F := fun i => m' 71 (240 + 6 * i + 5)) (fun i hi => (q4 i hi).1) (fun i hi w => by have := z1 i hi 0 w; rw [show 240 + 6 * (i : Int) + 1 + ((0 : Nat) : Int) = 240 + 6 * (i : Int) + 1 by omega] at this; exact this) (fun i hi w => by have := z1 i hi 1 w; rw [show 240 + 6 * (i : Int) + 1 + ((1 : Nat) : Int) = 240 + 6 * (i : Int) + 2 by omega] at this; exact this) (fun i hi w => by have := z1 i hi 2 w; rw [show 240 + 6 * (i : Int) + 1 + ((2 : Nat) : Int) = 240 + 6 * (i : Int) + 3 by omega] at this; exact this) (fun i hi w => by have := z1 i hi 3 w; rw [show 240 + 6 * (i : Int) + 1 + ((3 : Nat) : Int) = 240 + 6 * (i : Int) + 4 by omega] at this; exact this) (fun i hi w => by have := z1 i hi 4 w; rw [show 240 + 6 * (i : Int) + 1 + ((4 : Nat) : Int) = 240 + 6 * (i : Int) + 5 by omega] at this; exact this)
      · obtain ⟨j, rfl⟩ : ∃ j : Nat, i = (j : Int) := ⟨i.toNat, by omega⟩
        have hj : j < k := by omega
        refine ⟨by rw [(q4 j hj).1, (p4 j hj).1], fun u hu => ?_⟩
        rw [(p4 j hj).1] at hu
        rw [(q4 j hj).2 u hu, (p4 j hj).2 u hu]
theorem pr_may (a b d : Int) {n : Nat} {c : HP} (H : Rel n c c) : S_X8_may a b d c (fun r c' => S_X9_may a b d c' (fun r' m' => Fin n r r' m')) := by
  obtain ⟨h1, _, h3, _⟩ := id H
  have e0 := h1.2.2.1
  have h10 := h1.1.1
  have hm := h1.2.1.1
  refine ⟨fun z => ⟨⟨h3.1, by have := z.2.1; omega⟩, ⟨fun _ => trivial, fun _ => ⟨hm, trivial⟩⟩, fun _ => ⟨⟨h3.2.1, by have := z.2.1; omega⟩, Fin_u H (b2i_c ?_)⟩, fun y => absurd ⟨z.1, by have := z.2.1; omega, z.2.2⟩ y⟩, fun z => ⟨⟨fun _ => trivial, fun _ => ⟨hm, trivial⟩⟩, fun y => absurd ⟨y.1, by have := y.2.1; omega, y.2.2⟩ z, fun _ => Fin_u H rfl⟩⟩
  rw [h3.2.2.1]
  exact ⟨fun ⟨k, x, y, u⟩ => ⟨k, x, y, (let_eq (hr := d) h3 h1 ⟨x, y⟩).mp u⟩, fun ⟨k, x, y, u⟩ => ⟨k, x, y, (let_eq (hr := d) h3 h1 ⟨x, y⟩).mpr u⟩⟩
theorem pr_barred {n : Nat} {c : HP} (H : Rel n c c) : S_X8_barred c (fun r c' => (mfOK c' ∧ mHOK c') ∧ Fin n r (cnt (fun k => mBar c' k) (c' 70 1).toNat) c') := by
  obtain ⟨h1, _, h3, _⟩ := id H
  have h40 := h3.1.1
  refine ⟨⟨h1.1, h3.1, h1.1.2.2.1⟩, bset_b _ (n := 40), ⟨h3.2.1, h1.2.1⟩, Fin_u H ?_⟩
  rw [h3.2.2.1]
  have e1 : cnt (mem (bset (fun k => k < c 2 6 ∧ cBar c k (dgt (c 1 8))) 40)) 40 = cnt (fun k => k < c 2 6 ∧ cBar c k (dgt (c 1 8))) 40 := cnt_c (fun i i0 i1 => by rw [mem_bset i0]; exact ⟨fun y => y.2, fun y => ⟨i1, y⟩⟩)
  rw [e1, cnt_past (m := (c 2 6).toNat) (by omega) (fun i a b y => by have := y.1; omega)]
  refine cnt_c (fun k k0 k1 => ?_)
  rw [mBar_F (h := c) rfl rfl rfl]
  exact ⟨fun y => (bar_eq h3 h1 ⟨k0, y.1⟩ (fun t t0 t1 => (h1.2.2.2.2.2.2.2.1 t t0 t1).symm)).mp y.2, fun y => ⟨by omega, (bar_eq h3 h1 ⟨k0, by omega⟩ (fun t t0 t1 => (h1.2.2.2.2.2.2.2.1 t t0 t1).symm)).mpr y⟩⟩
