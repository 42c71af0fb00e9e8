/-! words, prices -/
def sr (D H : Int → Int) (so : Int) (row : Nat → Int) : Nat → Int
  | 0 => row 0 + 6
  | j + 1 => min (row j + D (so * 16 + H (j : Int))) (min (row (j + 1) + 6) (sr D H so row j + 6))
def rwF (D H : Int → Int) (s : Nat → Int) : Nat → (Nat → Int) → Nat → Int
  | 0, row => row
  | m + 1, row => sr D H (s m) (rwF D H s m row)
def rwW (D H SM SND : Int → Int) (wd : Int) (row : Nat → Int) : Nat → Int := rwF D H (fun k => SND (4 * wd + (k : Int))) (SM wd).toNat row
def row0 : Nat → Int := fun j => 6 * (j : Int)
def rowB (f : Nat → Int) (n c : Int) : Prop := ∀ j : Nat, (j : Int) ≤ n → 0 ≤ f j ∧ f j ≤ c
theorem sr_b {D H : Int → Int} {so n c : Int} {row : Nat → Int} (hr : rowB row n c) (hD : ∀ j : Nat, (j : Int) < n → 0 ≤ D (so * 16 + H (j : Int))) : rowB (sr D H so row) n (c + 6) := by
  intro j
  induction j with
  | zero =>
    intro hj
    have := hr 0 hj
    simp only [sr]
    omega
  | succ j ih =>
    intro hj
    have h1 := ih (by omega)
    have h2 := hr j (by omega)
    have h3 := hr (j + 1) hj
    have h4 := hD j (by omega)
    simp only [sr]
    omega
theorem sr_c {D H : Int → Int} {so n : Int} {row row' : Nat → Int} (h : ∀ j : Nat, (j : Int) ≤ n → row j = row' j) : ∀ j : Nat, (j : Int) ≤ n → sr D H so row j = sr D H so row' j := by
  intro j
  induction j with
  | zero => intro hj; simp only [sr]; rw [h 0 hj]
  | succ j ih => intro hj; simp only [sr]; rw [ih (by omega), h j (by omega), h (j + 1) hj]
theorem rwF_app (D H : Int → Int) (s : Nat → Int) (m : Nat) (row : Nat → Int) : ∀ k : Nat, rwF D H s (m + k) row = rwF D H (fun i => s (m + i)) k (rwF D H s m row)
  | 0 => rfl
  | k + 1 => by
    show sr D H (s (m + k)) (rwF D H s (m + k) row) = sr D H (s (m + k)) _
    rw [rwF_app D H s m row k]
theorem rwF_c {D H : Int → Int} {s s' : Nat → Int} {row : Nat → Int} : ∀ {m : Nat}, (∀ i, i < m → s i = s' i) → rwF D H s m row = rwF D H s' m row
  | 0, _ => rfl
  | m + 1, h => by
    simp only [rwF]
    rw [rwF_c (m := m) (fun i hi => h i (by omega)), h m (by omega)]
theorem rwF_b {D H : Int → Int} {s : Nat → Int} {n c : Int} {row : Nat → Int} (hr : rowB row n c) (hD : ∀ (x : Int) (j : Nat), 0 ≤ x → x ≤ 15 → (j : Int) < n → 0 ≤ D (x * 16 + H (j : Int))) : ∀ {m : Nat}, (∀ i, i < m → 0 ≤ s i ∧ s i ≤ 15) → rowB (rwF D H s m row) n (c + 6 * (m : Int))
  | 0, _ => by
    intro j hj
    have := hr j hj
    simp only [rwF]
    omega
  | m + 1, hs => by
    have h1 := rwF_b hr hD (m := m) (fun i hi => hs i (by omega))
    have h2 := hs m (by omega)
    have h3 := sr_b (so := s m) h1 (fun j hj => hD _ j h2.1 h2.2 hj)
    intro j hj
    have := h3 j hj
    simp only [rwF]
    omega
theorem rwF_rc {D H : Int → Int} {s : Nat → Int} {n : Int} {row row' : Nat → Int} (h : ∀ j : Nat, (j : Int) ≤ n → row j = row' j) : ∀ (m : Nat) (j : Nat), (j : Int) ≤ n → rwF D H s m row j = rwF D H s m row' j
  | 0, j, hj => h j hj
  | m + 1, j, hj => by
    simp only [rwF]
    exact sr_c (rwF_rc h m) j hj
/-- words, doubts, what is heard: as the class holds them -/
def VOK (h : HP) : Prop := (0 ≤ h 3 6 ∧ h 3 6 ≤ 16) ∧ (∀ k : Int, 0 ≤ k → k < h 3 6 → (0 ≤ h 20 k ∧ h 20 k ≤ 3) ∧ (0 ≤ h 21 k ∧ h 21 k ≤ 4) ∧ (h 20 k = 0 → h 21 k ≤ 3) ∧ (1 ≤ h 22 k ∧ h 22 k ≤ 4)) ∧ (∀ i : Int, 0 ≤ i → i < 64 → 0 ≤ h 23 i ∧ h 23 i ≤ 15) ∧ (∀ i : Int, 0 ≤ i → i < 256 → 0 ≤ h 24 i ∧ h 24 i ≤ 9)
def HRD (h : HP) : Prop := (0 ≤ h 3 7 ∧ h 3 7 ≤ 8) ∧ ∀ j : Int, 0 ≤ j → j < 8 → 0 ≤ h 25 j ∧ h 25 j ≤ 15
theorem doub {h : HP} (hV : VOK h) (hH : HRD h) : ∀ (x : Int) (j : Nat), 0 ≤ x → x ≤ 15 → (j : Int) < h 3 7 → 0 ≤ h 24 (x * 16 + h 25 (j : Int)) := fun x j a b d => by
  have h1 := hH.2 (j : Int) (by omega) (by have := hH.1; omega)
  exact (hV.2.2.2 _ (by omega) (by omega)).1
def S_X7_priceWithSound (q : Nat) (so : Int) (h : HP) (K : HP → Prop) : Prop := ((32 ≤ q ∧ q ≤ 35) ∧ (0 ≤ so ∧ so ≤ 15) ∧ VOK h ∧ HRD h ∧ rowB (fun j => h q (j : Int)) (h 3 7) 1000) ∧ ∀ h' : HP, (∀ q', q' ≠ q → h' q' = h q') → (∀ j : Nat, (j : Int) ≤ h 3 7 → h' q (j : Int) = sr (h 24) (h 25) so (fun j => h q (j : Int)) j) → K h'
set_option maxRecDepth 100000 in
set_option maxHeartbeats 4000000 in
theorem v_X7_priceWithSound (w : WD) (q : Nat) (so : Int) (h : HP) (K : HP → Prop) (hq_q : ly q = some (.inr (false, 9)))
    (I1 : Nat → Int → Int → HP → Prop)
    (H : ((iR ((h q 0) + 6)) ∧ (∃ m : Nat, I1 m (h q 0) 1 (sth h q 0 ((h q 0) + 6)))))
    (H1 : ∀ (n1 : Nat) (x3 : Int) (x4 : Int) (g1 : HP), I1 n1 x3 x4 g1 → (((g1 3 7) < x4 → K g1) ∧ (¬ (g1 3 7) < x4 → ((iR (so * 16)) ∧ ((iR (x4 - 1)) ∧ ((0 ≤ (x4 - 1) ∧ (x4 - 1) < 8) ∧ ((iR ((so * 16) + (g1 25 (x4 - 1)))) ∧ ((0 ≤ ((so * 16) + (g1 25 (x4 - 1))) ∧ ((so * 16) + (g1 25 (x4 - 1))) < 256) ∧ ((iR (x3 + (g1 24 ((so * 16) + (g1 25 (x4 - 1)))))) ∧ ((0 ≤ x4 ∧ x4 < 9) ∧ ((iR ((g1 q x4) + 6)) ∧ ((iR (x4 - 1)) ∧ ((0 ≤ (x4 - 1) ∧ (x4 - 1) < 9) ∧ ((iR ((g1 q (x4 - 1)) + 6)) ∧ ((0 ≤ x4 ∧ x4 < 9) ∧ ((iR (x4 + 1)) ∧ (∃ m : Nat, m < n1 ∧ I1 m (g1 q x4) (x4 + 1) (sth g1 q x4 (min (x3 + (g1 24 ((so * 16) + (g1 25 (x4 - 1))))) (min ((g1 q x4) + 6) ((g1 q (x4 - 1)) + 6))))))))))))))))))))) :
    Ev w Y_X7_priceWithSound 0 [some (vR 3), some (vR q), some (vI so), none, none, none, none] [] h (rV K) := by
  have L1 : ∀ (n1 : Nat) (x3 : Int) (x4 : Int) (g1 : HP), I1 n1 x3 x4 g1 → Ev w Y_X7_priceWithSound 14 [some (vR 3), some (vR q), some (vI so), some (vI x3), some (vI x4), none, none] [] g1 (rV K) := by
    intro n1
    induction n1 using Nat.strongRecOn with
    | ind n1 ih1 =>
      intro x3 x4 g1 H
      have H := H1 n1 x3 x4 g1 H
      refine e_iload (pc := 14) dX7_priceWithSound_14 rfl ?_
      refine e_aload_n (pc := 16) dX7_priceWithSound_16 rfl rfl ?_
      refine e_getI (q := 3) (ci := 7) (k := 7) (kz := 7) (C := RX7) (T := TX7) (N := 8) (x := (g1 3 7)) (pc := 17) dX7_priceWithSound_17 rfl rfl rfl ev_in7 rfl ul_1_126 ⟨rfl, by decide⟩ rfl ?_
      refine e_icmp_gt (pc := 20) (tgt := 86) dX7_priceWithSound_20 (by decide) (fun c1 => ?_) (fun c1 => ?_)
      · have H := H.1 c1
        exact e_ret (pc := 86) (v := none) dX7_priceWithSound_86 rfl trivial ⟨rfl, H⟩
      · have H := H.2 c1
        refine e_iload_n (pc := 23) dX7_priceWithSound_23 rfl rfl ?_
        refine e_aload_n (pc := 24) dX7_priceWithSound_24 rfl rfl ?_
        refine e_getR (q := 3) (ci := 7) (k := 4) (y := 24) (C := RX7) (T := TX7) (N := 8) (pc := 25) dX7_priceWithSound_25 rfl rfl ev_in7 rfl ul_1_121 ⟨rfl, rfl⟩ rfl ?_
        refine e_iload_n (pc := 28) dX7_priceWithSound_28 rfl rfl ?_
        refine e_bipush (pc := 29) dX7_priceWithSound_29 ⟨by decide, by decide⟩ (by decide) ?_
        refine e_imul (pc := 31) dX7_priceWithSound_31 H.1 ?_
        have H := H.2
        refine e_aload_n (pc := 32) dX7_priceWithSound_32 rfl rfl ?_
        refine e_getR (q := 3) (ci := 7) (k := 5) (y := 25) (C := RX7) (T := TX7) (N := 8) (pc := 33) dX7_priceWithSound_33 rfl rfl ev_in7 rfl ul_1_122 ⟨rfl, rfl⟩ rfl ?_
        refine e_iload (pc := 36) dX7_priceWithSound_36 rfl ?_
        refine e_iconst (pc := 38) dX7_priceWithSound_38 ⟨by decide, by decide⟩ ?_
        refine e_isub (pc := 39) dX7_priceWithSound_39 H.1 ?_
        have H := H.2
        refine e_iald (q := 25) (x := (g1 25 (x4 - 1))) (pc := 40) dX7_priceWithSound_40 rfl H.1 rfl ?_
        have H := H.2
        refine e_iadd (pc := 41) dX7_priceWithSound_41 H.1 ?_
        have H := H.2
        refine e_iald (q := 24) (x := (g1 24 ((so * 16) + (g1 25 (x4 - 1))))) (pc := 42) dX7_priceWithSound_42 rfl H.1 rfl ?_
        have H := H.2
        refine e_iadd (pc := 43) dX7_priceWithSound_43 H.1 ?_
        have H := H.2
        refine e_istore (lv' := [some (vR 3), some (vR q), some (vI so), some (vI x3), some (vI x4), some (vI (x3 + (g1 24 ((so * 16) + (g1 25 (x4 - 1)))))), none]) (pc := 44) dX7_priceWithSound_44 rfl rfl ?_
        refine e_aload_n (pc := 46) dX7_priceWithSound_46 rfl rfl ?_
        refine e_iload (pc := 47) dX7_priceWithSound_47 rfl ?_
        refine e_iald (q := q) (x := (g1 q x4)) (pc := 49) dX7_priceWithSound_49 hq_q H.1 rfl ?_
        have H := H.2
        refine e_istore_n (lv' := [some (vR 3), some (vR q), some (vI so), some (vI (g1 q x4)), some (vI x4), some (vI (x3 + (g1 24 ((so * 16) + (g1 25 (x4 - 1)))))), none]) (pc := 50) dX7_priceWithSound_50 rfl rfl rfl ?_
        refine e_iload_n (pc := 51) dX7_priceWithSound_51 rfl rfl ?_
        refine e_bipush (pc := 52) dX7_priceWithSound_52 ⟨by decide, by decide⟩ (by decide) ?_
        refine e_iadd (pc := 54) dX7_priceWithSound_54 H.1 ?_
        have H := H.2
        refine e_aload_n (pc := 55) dX7_priceWithSound_55 rfl rfl ?_
        refine e_iload (pc := 56) dX7_priceWithSound_56 rfl ?_
        refine e_iconst (pc := 58) dX7_priceWithSound_58 ⟨by decide, by decide⟩ ?_
        refine e_isub (pc := 59) dX7_priceWithSound_59 H.1 ?_
        have H := H.2
        refine e_iald (q := q) (x := (g1 q (x4 - 1))) (pc := 60) dX7_priceWithSound_60 hq_q H.1 rfl ?_
        have H := H.2
        refine e_bipush (pc := 61) dX7_priceWithSound_61 ⟨by decide, by decide⟩ (by decide) ?_
        refine e_iadd (pc := 63) dX7_priceWithSound_63 H.1 ?_
        have H := H.2
        refine e_min (pc := 64) dX7_priceWithSound_64 ul_3_66 ⟨rfl, rfl⟩ rfl ?_
        refine e_istore (lv' := [some (vR 3), some (vR q), some (vI so), some (vI (g1 q x4)), some (vI x4), some (vI (x3 + (g1 24 ((so * 16) + (g1 25 (x4 - 1)))))), some (vI (min ((g1 q x4) + 6) ((g1 q (x4 - 1)) + 6)))]) (pc := 67) dX7_priceWithSound_67 rfl rfl ?_
        refine e_aload_n (pc := 69) dX7_priceWithSound_69 rfl rfl ?_
        refine e_iload (pc := 70) dX7_priceWithSound_70 rfl ?_
        refine e_iload (pc := 72) dX7_priceWithSound_72 rfl ?_
        refine e_iload (pc := 74) dX7_priceWithSound_74 rfl ?_
        refine e_min (pc := 76) dX7_priceWithSound_76 ul_3_66 ⟨rfl, rfl⟩ rfl ?_
        refine e_iast (q := q) (pc := 79) dX7_priceWithSound_79 hq_q H.1 ?_
        have H := H.2
        refine e_iinc (lv' := [some (vR 3), some (vR q), some (vI so), some (vI (g1 q x4)), some (vI (x4 + 1)), some (vI (x3 + (g1 24 ((so * 16) + (g1 25 (x4 - 1)))))), some (vI (min ((g1 q x4) + 6) ((g1 q (x4 - 1)) + 6)))]) (pc := 80) dX7_priceWithSound_80 rfl H.1 rfl rfl ?_
        have H := H.2
        refine e_goto (pc := 83) (tgt := 14) dX7_priceWithSound_83 (by decide) ?_
        refine e_mask [true, true, true, true, true, false, false] rfl ?_
        obtain ⟨m, hm, H⟩ := H
        exact ih1 m hm _ _ _ H
  refine e_aload_n (pc := 0) dX7_priceWithSound_0 rfl rfl ?_
  refine e_iconst (pc := 1) dX7_priceWithSound_1 ⟨by decide, by decide⟩ ?_
  refine e_iald (q := q) (x := (h q 0)) (pc := 2) dX7_priceWithSound_2 hq_q ⟨by decide, by decide⟩ rfl ?_
  refine e_istore_n (lv' := [some (vR 3), some (vR q), some (vI so), some (vI (h q 0)), none, none, none]) (pc := 3) dX7_priceWithSound_3 rfl rfl rfl ?_
  refine e_aload_n (pc := 4) dX7_priceWithSound_4 rfl rfl ?_
  refine e_iconst (pc := 5) dX7_priceWithSound_5 ⟨by decide, by decide⟩ ?_
  refine e_iload_n (pc := 6) dX7_priceWithSound_6 rfl rfl ?_
  refine e_bipush (pc := 7) dX7_priceWithSound_7 ⟨by decide, by decide⟩ (by decide) ?_
  refine e_iadd (pc := 9) dX7_priceWithSound_9 H.1 ?_
  have H := H.2
  refine e_iast (q := q) (pc := 10) dX7_priceWithSound_10 hq_q ⟨by decide, by decide⟩ ?_
  refine e_iconst (pc := 11) dX7_priceWithSound_11 ⟨by decide, by decide⟩ ?_
  refine e_istore (lv' := [some (vR 3), some (vR q), some (vI so), some (vI (h q 0)), some (vI 1), none, none]) (pc := 12) dX7_priceWithSound_12 rfl rfl ?_
  obtain ⟨m, H⟩ := H
  exact L1 m _ _ _ H
set_option maxRecDepth 100000 in
set_option maxHeartbeats 4000000 in
theorem c_X7_priceWithSound (w : WD) (q : Nat) (so : Int) (h : HP) (K : HP → Prop) (hq_q : ly q = some (.inr (false, 9))) (H : S_X7_priceWithSound q so h K) : Ev w Y_X7_priceWithSound 0 [some (vR 3), some (vR q), some (vI so), none, none, none, none] [] h (rV K) := by
  obtain ⟨⟨hq, hs, hV, hH, hB⟩, HK⟩ := H
  have hn := hH.1
  have hb0 := hB 0 (by omega)
  refine v_X7_priceWithSound w q so h K hq_q (fun n x3 x4 g => ∃ j : Nat, x4 = (j : Int) + 1 ∧ (j : Int) ≤ h 3 7 ∧ n = (h 3 7 - (j : Int)).toNat ∧ x3 = h q (j : Int) ∧ (∀ q', q' ≠ q → g q' = h q') ∧ (∀ i : Nat, i ≤ j → g q (i : Int) = sr (h 24) (h 25) so (fun j => h q (j : Int)) i) ∧ (∀ i : Nat, j < i → g q (i : Int) = h q (i : Int))) ⟨?_, (h 3 7).toNat, 0, rfl, by omega, by omega, rfl, fun q' z => sth_ne z, fun i hi => ?_, fun i hi => by rw [sth_eq, us_n (by omega)]⟩ ?_
  · simp at hb0; exact ⟨by omega, by omega⟩
  · have e : i = 0 := by omega
    subst e
    rw [sth_eq]
    exact us_s
  · rintro n x3 x4 g ⟨j, rfl, hj, rfl, rfl, hg, hl, hr⟩
    have g3 : g 3 = h 3 := hg 3 (by omega)
    have g24 : g 24 = h 24 := hg 24 (by omega)
    have g25 : g 25 = h 25 := hg 25 (by omega)
    rw [g3, g24, g25, show (j : Int) + 1 - 1 = (j : Int) by omega]
    refine ⟨fun c => HK g hg (fun i hi => hl i (by omega)), fun c => ?_⟩
    have hh := hH.2 (j : Int) (by omega) (by omega)
    have hd := hV.2.2.2 (so * 16 + h 25 (j : Int)) (by omega) (by omega)
    have b1 := hB j (by omega)
    have b2 := hB (j + 1) (by omega)
    have b3 := sr_b (D := h 24) (H := h 25) (so := so) hB (fun i hi => doub hV hH so i hs.1 hs.2 hi) j (by omega)
    have e1 : g q ((j : Int) + 1) = h q ((j : Int) + 1) := by have := hr (j + 1) (by omega); simpa using this
    have e2 := hl j (by omega)
    simp only [Int.natCast_add, Int.natCast_one] at b1 b2
    rw [e1, e2]
    refine ⟨⟨by omega, by omega⟩, ⟨by omega, by omega⟩, by omega, ⟨by omega, by omega⟩, by omega, ⟨by omega, by omega⟩, by omega, ⟨by omega, by omega⟩, ⟨by omega, by omega⟩, by omega, ⟨by omega, by omega⟩, by omega, ⟨by omega, by omega⟩, (h 3 7 - ((j + 1 : Nat) : Int)).toNat, by omega, j + 1, by omega, by omega, rfl, by simp, fun q' z => by rw [sth_ne z]; exact hg q' z, fun i hi => ?_, fun i hi => ?_⟩
    · rw [sth_eq]
      by_cases e : i = j + 1
      · subst e
        rw [show ((j + 1 : Nat) : Int) = (j : Int) + 1 by omega, us_s]
        simp only [sr]
        simp
      · rw [us_n (by omega)]; exact hl i (by omega)
    · rw [sth_eq, us_n (by omega)]; exact hr i (by omega)
theorem VOK_c {h h' : HP} (h1 : h' 3 6 = h 3 6) (h2 : h' 20 = h 20) (h3 : h' 21 = h 21) (h4 : h' 22 = h 22) (h5 : h' 23 = h 23) (h6 : h' 24 = h 24) (hV : VOK h) : VOK h' := by unfold VOK; rw [h1, h2, h3, h4, h5, h6]; exact hV
theorem HRD_c {h h' : HP} (h1 : h' 3 7 = h 3 7) (h2 : h' 25 = h 25) (hV : HRD h) : HRD h' := by unfold HRD; rw [h1, h2]; exact hV
def S_X7_priceNothing (q : Nat) (h : HP) (K : HP → Prop) : Prop := ((32 ≤ q ∧ q ≤ 35) ∧ HRD h) ∧ ∀ h' : HP, (∀ q', q' ≠ q → h' q' = h q') → (∀ j : Nat, (j : Int) ≤ h 3 7 → h' q (j : Int) = row0 j) → K h'
set_option maxRecDepth 100000 in
set_option maxHeartbeats 4000000 in
theorem v_X7_priceNothing (w : WD) (q : Nat) (h : HP) (K : HP → Prop) (hq_q : ly q = some (.inr (false, 9)))
    (I1 : Nat → Int → HP → Prop)
    (H : (∃ m : Nat, I1 m 0 h))
    (H1 : ∀ (n1 : Nat) (x2 : Int) (g1 : HP), I1 n1 x2 g1 → (((g1 3 7) < x2 → K g1) ∧ (¬ (g1 3 7) < x2 → ((iR (x2 * 6)) ∧ ((0 ≤ x2 ∧ x2 < 9) ∧ ((iR (x2 + 1)) ∧ (∃ m : Nat, m < n1 ∧ I1 m (x2 + 1) (sth g1 q x2 (x2 * 6))))))))) :
    Ev w Y_X7_priceNothing 0 [some (vR 3), some (vR q), none] [] h (rV K) := by
  have L1 : ∀ (n1 : Nat) (x2 : Int) (g1 : HP), I1 n1 x2 g1 → Ev w Y_X7_priceNothing 2 [some (vR 3), some (vR q), some (vI x2)] [] g1 (rV K) := by
    intro n1
    induction n1 using Nat.strongRecOn with
    | ind n1 ih1 =>
      intro x2 g1 H
      have H := H1 n1 x2 g1 H
      refine e_iload_n (pc := 2) dX7_priceNothing_2 rfl rfl ?_
      refine e_aload_n (pc := 3) dX7_priceNothing_3 rfl rfl ?_
      refine e_getI (q := 3) (ci := 7) (k := 7) (kz := 7) (C := RX7) (T := TX7) (N := 8) (x := (g1 3 7)) (pc := 4) dX7_priceNothing_4 rfl rfl rfl ev_in7 rfl ul_1_126 ⟨rfl, by decide⟩ rfl ?_
      refine e_icmp_gt (pc := 7) (tgt := 23) dX7_priceNothing_7 (by decide) (fun c1 => ?_) (fun c1 => ?_)
      · have H := H.1 c1
        exact e_ret (pc := 23) (v := none) dX7_priceNothing_23 rfl trivial ⟨rfl, H⟩
      · have H := H.2 c1
        refine e_aload_n (pc := 10) dX7_priceNothing_10 rfl rfl ?_
        refine e_iload_n (pc := 11) dX7_priceNothing_11 rfl rfl ?_
        refine e_iload_n (pc := 12) dX7_priceNothing_12 rfl rfl ?_
        refine e_bipush (pc := 13) dX7_priceNothing_13 ⟨by decide, by decide⟩ (by decide) ?_
        refine e_imul (pc := 15) dX7_priceNothing_15 H.1 ?_
        have H := H.2
        refine e_iast (q := q) (pc := 16) dX7_priceNothing_16 hq_q H.1 ?_
        have H := H.2
        refine e_iinc (lv' := [some (vR 3), some (vR q), some (vI (x2 + 1))]) (pc := 17) dX7_priceNothing_17 rfl H.1 rfl rfl ?_
        have H := H.2
        refine e_goto (pc := 20) (tgt := 2) dX7_priceNothing_20 (by decide) ?_
        obtain ⟨m, hm, H⟩ := H
        exact ih1 m hm _ _ H
  refine e_iconst (pc := 0) dX7_priceNothing_0 ⟨by decide, by decide⟩ ?_
  refine e_istore_n (lv' := [some (vR 3), some (vR q), some (vI 0)]) (pc := 1) dX7_priceNothing_1 rfl rfl rfl ?_
  obtain ⟨m, H⟩ := H
  exact L1 m _ _ H
set_option maxRecDepth 100000 in
set_option maxHeartbeats 4000000 in
theorem c_X7_priceNothing (w : WD) (q : Nat) (h : HP) (K : HP → Prop) (hq_q : ly q = some (.inr (false, 9))) (H : S_X7_priceNothing q h K) : Ev w Y_X7_priceNothing 0 [some (vR 3), some (vR q), none] [] h (rV K) := by
  obtain ⟨⟨hq, hH⟩, HK⟩ := H
  have hn := hH.1
  refine v_X7_priceNothing w q h K hq_q (fun n x2 g => ∃ j : Nat, x2 = (j : Int) ∧ (j : Int) ≤ h 3 7 + 1 ∧ n = (h 3 7 + 1 - (j : Int)).toNat ∧ (∀ q', q' ≠ q → g q' = h q') ∧ ∀ i : Nat, i < j → g q (i : Int) = row0 i) ⟨(h 3 7 + 1).toNat, 0, rfl, by omega, by omega, fun _ _ => rfl, fun i hi => by omega⟩ ?_
  rintro n x2 g ⟨j, rfl, hj, rfl, hg, hr⟩
  rw [hg 3 (by omega)]
  refine ⟨fun c => HK g hg (fun i hi => hr i (by omega)), fun c => ⟨⟨by omega, by omega⟩, by omega, ⟨by omega, by omega⟩, (h 3 7 + 1 - ((j + 1 : Nat) : Int)).toNat, by omega, j + 1, by omega, by omega, rfl, fun q' z => by rw [sth_ne z]; exact hg q' z, fun i hi => ?_⟩⟩
  rw [sth_eq]
  by_cases e : i = j
  · subst e; rw [us_s]; unfold row0; omega
  · rw [us_n (by omega)]; exact hr i (by omega)
def S_X7_priceWithWord (q0 q1 : Nat) (wd : Int) (h : HP) (K : HP → Prop) : Prop := ((32 ≤ q0 ∧ q0 ≤ 35) ∧ (32 ≤ q1 ∧ q1 ≤ 35) ∧ q0 ≠ q1 ∧ (0 ≤ wd ∧ wd < h 3 6) ∧ VOK h ∧ HRD h ∧ rowB (fun j => h q0 (j : Int)) (h 3 7) 500) ∧ ∀ h' : HP, (∀ q', q' ≠ q1 → h' q' = h q') → (∀ j : Nat, (j : Int) ≤ h 3 7 → h' q1 (j : Int) = rwW (h 24) (h 25) (h 22) (h 23) wd (fun j => h q0 (j : Int)) j) → K h'
set_option maxRecDepth 100000 in
set_option maxHeartbeats 4000000 in
theorem v_X7_priceWithWord (w : WD) (q0 : Nat) (q1 : Nat) (wd : Int) (h : HP) (K : HP → Prop) (hq_q0 : ly q0 = some (.inr (false, 9))) (hq_q1 : ly q1 = some (.inr (false, 9)))
    (I1 : Nat → Int → HP → Prop)
    (H : ((iR ((h 3 7) + 1)) ∧ (((0 : Int) ≤ 0 ∧ (0 : Int) ≤ 0 ∧ (0 : Int) ≤ ((h 3 7) + 1) ∧ (0 : Int) + ((h 3 7) + 1) ≤ 9 ∧ (0 : Int) + ((h 3 7) + 1) ≤ 9) ∧ (∃ m : Nat, I1 m 0 (cph h q0 q1 0 0 ((h 3 7) + 1))))))
    (H1 : ∀ (n1 : Nat) (x4 : Int) (g1 : HP), I1 n1 x4 g1 → ((0 ≤ wd ∧ wd < 16) ∧ (((g1 22 wd) ≤ x4 → K g1) ∧ (¬ (g1 22 wd) ≤ x4 → ((iR (wd * 4)) ∧ ((iR ((wd * 4) + x4)) ∧ ((0 ≤ ((wd * 4) + x4) ∧ ((wd * 4) + x4) < 64) ∧ (S_X7_priceWithSound q1 (g1 23 ((wd * 4) + x4)) g1 (fun h21 => ((iR (x4 + 1)) ∧ (∃ m : Nat, m < n1 ∧ I1 m (x4 + 1) h21))))))))))) :
    Ev w Y_X7_priceWithWord 0 [some (vR 3), some (vR q0), some (vR q1), some (vI wd), none] [] h (rV K) := by
  have L1 : ∀ (n1 : Nat) (x4 : Int) (g1 : HP), I1 n1 x4 g1 → Ev w Y_X7_priceWithWord 16 [some (vR 3), none, some (vR q1), some (vI wd), some (vI x4)] [] g1 (rV K) := by
    intro n1
    induction n1 using Nat.strongRecOn with
    | ind n1 ih1 =>
      intro x4 g1 H
      have H := H1 n1 x4 g1 H
      refine e_iload (pc := 16) dX7_priceWithWord_16 rfl ?_
      refine e_aload_n (pc := 18) dX7_priceWithWord_18 rfl rfl ?_
      refine e_getR (q := 3) (ci := 7) (k := 2) (y := 22) (C := RX7) (T := TX7) (N := 8) (pc := 19) dX7_priceWithWord_19 rfl rfl ev_in7 rfl ul_1_119 ⟨rfl, rfl⟩ rfl ?_
      refine e_iload_n (pc := 22) dX7_priceWithWord_22 rfl rfl ?_
      refine e_iald (q := 22) (x := (g1 22 wd)) (pc := 23) dX7_priceWithWord_23 rfl H.1 rfl ?_
      have H := H.2
      refine e_icmp_ge (pc := 24) (tgt := 49) dX7_priceWithWord_24 (by decide) (fun c1 => ?_) (fun c1 => ?_)
      · have H := H.1 c1
        exact e_ret (pc := 49) (v := none) dX7_priceWithWord_49 rfl trivial ⟨rfl, H⟩
      · have H := H.2 c1
        refine e_aload_n (pc := 27) dX7_priceWithWord_27 rfl rfl ?_
        refine e_aload_n (pc := 28) dX7_priceWithWord_28 rfl rfl ?_
        refine e_aload_n (pc := 29) dX7_priceWithWord_29 rfl rfl ?_
        refine e_getR (q := 3) (ci := 7) (k := 3) (y := 23) (C := RX7) (T := TX7) (N := 8) (pc := 30) dX7_priceWithWord_30 rfl rfl ev_in7 rfl ul_1_120 ⟨rfl, rfl⟩ rfl ?_
        refine e_iload_n (pc := 33) dX7_priceWithWord_33 rfl rfl ?_
        refine e_iconst (pc := 34) dX7_priceWithWord_34 ⟨by decide, by decide⟩ ?_
        refine e_imul (pc := 35) dX7_priceWithWord_35 H.1 ?_
        have H := H.2
        refine e_iload (pc := 36) dX7_priceWithWord_36 rfl ?_
        refine e_iadd (pc := 38) dX7_priceWithWord_38 H.1 ?_
        have H := H.2
        refine e_iald (q := 23) (x := (g1 23 ((wd * 4) + x4))) (pc := 39) dX7_priceWithWord_39 rfl H.1 rfl ?_
        have H := H.2
        refine e_invV (pc := 40) (Y' := Y_X7_priceWithSound) (as := [vR q1, vI (g1 23 ((wd * 4) + x4))]) (st := []) (lv0 := [some (vR 3), some (vR q1), some (vI (g1 23 ((wd * 4) + x4))), none, none, none, none]) (q := 3) (ci := 7) (T := TX7) (N := 8) dX7_priceWithWord_40 m_X7_priceWithSound ul_3_62 ⟨ul_3_64, us_X7_priceWithSound⟩ ⟨rfl, rfl⟩ rfl rfl rfl rfl rfl rfl rfl (c_X7_priceWithSound w q1 (g1 23 ((wd * 4) + x4)) g1 _ hq_q1 H) ?_
        rintro _ h21 ⟨rfl, H⟩
        show Ev w Y_X7_priceWithWord 43 [some (vR 3), none, some (vR q1), some (vI wd), some (vI x4)] [] h21 (rV K)
        refine e_iinc (lv' := [some (vR 3), none, some (vR q1), some (vI wd), some (vI (x4 + 1))]) (pc := 43) dX7_priceWithWord_43 rfl H.1 rfl rfl ?_
        have H := H.2
        refine e_goto (pc := 46) (tgt := 16) dX7_priceWithWord_46 (by decide) ?_
        obtain ⟨m, hm, H⟩ := H
        exact ih1 m hm _ _ H
  refine e_aload_n (pc := 0) dX7_priceWithWord_0 rfl rfl ?_
  refine e_iconst (pc := 1) dX7_priceWithWord_1 ⟨by decide, by decide⟩ ?_
  refine e_aload_n (pc := 2) dX7_priceWithWord_2 rfl rfl ?_
  refine e_iconst (pc := 3) dX7_priceWithWord_3 ⟨by decide, by decide⟩ ?_
  refine e_aload_n (pc := 4) dX7_priceWithWord_4 rfl rfl ?_
  refine e_getI (q := 3) (ci := 7) (k := 7) (kz := 7) (C := RX7) (T := TX7) (N := 8) (x := (h 3 7)) (pc := 5) dX7_priceWithWord_5 rfl rfl rfl ev_in7 rfl ul_1_126 ⟨rfl, by decide⟩ rfl ?_
  refine e_iconst (pc := 8) dX7_priceWithWord_8 ⟨by decide, by decide⟩ ?_
  refine e_iadd (pc := 9) dX7_priceWithWord_9 H.1 ?_
  have H := H.2
  refine e_copy (pc := 10) (q0 := q0) (q1 := q1) dX7_priceWithWord_10 ul_3_61 ul_3_4 hq_q0 hq_q1 H.1 (by decide) ?_
  have H := H.2
  refine e_iconst (pc := 13) dX7_priceWithWord_13 ⟨by decide, by decide⟩ ?_
  refine e_istore (lv' := [some (vR 3), some (vR q0), some (vR q1), some (vI wd), some (vI 0)]) (pc := 14) dX7_priceWithWord_14 rfl rfl ?_
  refine e_mask [true, false, true, true, true] rfl ?_
  obtain ⟨m, H⟩ := H
  exact L1 m _ _ H
set_option maxRecDepth 100000 in
set_option maxHeartbeats 4000000 in
theorem c_X7_priceWithWord (w : WD) (q0 : Nat) (q1 : Nat) (wd : Int) (h : HP) (K : HP → Prop) (hq_q0 : ly q0 = some (.inr (false, 9))) (hq_q1 : ly q1 = some (.inr (false, 9))) (H : S_X7_priceWithWord q0 q1 wd h K) : Ev w Y_X7_priceWithWord 0 [some (vR 3), some (vR q0), some (vR q1), some (vI wd), none] [] h (rV K) := by
  obtain ⟨⟨hq0, hq1, hne, hw, hV, hH, hB⟩, HK⟩ := H
  have hn := hH.1
  have hwd := (hV.2.1 wd hw.1 hw.2).2.2.2
  have h16 := hV.1
  refine v_X7_priceWithWord w q0 q1 wd h K hq_q0 hq_q1 (fun n x4 g => ∃ j : Nat, x4 = (j : Int) ∧ (j : Int) ≤ h 22 wd ∧ n = 4 - j ∧ (∀ q', q' ≠ q1 → g q' = h q') ∧ ∀ i : Nat, (i : Int) ≤ h 3 7 → g q1 (i : Int) = rwF (h 24) (h 25) (fun k => h 23 (4 * wd + (k : Int))) j (fun j => h q0 (j : Int)) i) ⟨⟨by omega, by omega⟩, by omega, 4, 0, rfl, by omega, rfl, fun q' z => cph_ne z, fun i hi => ?_⟩ ?_
  · rw [cph_eq]
    show (if _ then _ else _) = _
    rw [if_pos (by omega), show (0 : Int) + ((i : Int) - 0) = (i : Int) by omega]
    rfl
  · rintro n x4 g ⟨j, rfl, hj, rfl, hg, hr⟩
    have g3 : g 3 = h 3 := hg 3 (by omega)
    have g24 : g 24 = h 24 := hg 24 (by omega)
    have g25 : g 25 = h 25 := hg 25 (by omega)
    have g22 : g 22 = h 22 := hg 22 (by omega)
    have g23 : g 23 = h 23 := hg 23 (by omega)
    have hsnd : ∀ i : Nat, i < 4 → 0 ≤ h 23 (4 * wd + (i : Int)) ∧ h 23 (4 * wd + (i : Int)) ≤ 15 := fun i hi => hV.2.2.1 _ (by omega) (by omega)
    rw [g22, g23]
    refine ⟨by omega, fun c => HK g hg (fun i hi => ?_), fun c => ⟨⟨by omega, by omega⟩, ⟨by omega, by omega⟩, by omega, ⟨hq1, by rw [show wd * 4 + (j : Int) = 4 * wd + (j : Int) by omega]; exact hsnd j (by omega), VOK_c (by rw [g3]) (hg _ (by omega)) (hg _ (by omega)) g22 g23 g24 hV, HRD_c (by rw [g3]) g25 hH, ?_⟩, fun h' hf hr' => ⟨⟨by omega, by omega⟩, 4 - (j + 1), by omega, j + 1, by omega, by omega, rfl, fun q' z => (hf q' z).trans (hg q' z), fun i hi => ?_⟩⟩⟩
    · rw [hr i hi]
      unfold rwW
      rw [show (h 22 wd).toNat = j by omega]
    · intro i hi
      rw [g3] at hi
      have h1 := rwF_b (s := fun k => h 23 (4 * wd + (k : Int))) hB (doub hV hH) (m := j) (fun i hi => hsnd i (by omega)) i hi
      show 0 ≤ g q1 (i : Int) ∧ g q1 (i : Int) ≤ 1000
      rw [hr i hi]
      omega
    · rw [g3, g24, g25] at hr'
      rw [hr' i hi]
      simp only [rwF]
      rw [show wd * 4 + (j : Int) = 4 * wd + (j : Int) by omega]
      exact sr_c hr i hi
set_option maxRecDepth 100000 in
set_option maxHeartbeats 4000000 in
theorem v_X7_numberOf (w : WD) (wd : Int) (h : HP) (K : Int → HP → Prop) 
    (H : ((((wd < 0 → True) ∧ (¬ wd < 0 → (((h 3 6) ≤ wd → True) ∧ (¬ (h 3 6) ≤ wd → ((0 ≤ wd ∧ wd < 16) ∧ True)))))) ∧ K (cif (wd < 0) 0 (cif ((h 3 6) ≤ wd) 0 (h 21 wd))) h)) :
    Ev w Y_X7_numberOf 0 [some (vR 3), some (vI wd)] [] h (rI K) := by
  refine e_iload_n (pc := 0) dX7_numberOf_0 rfl rfl ?_
  have J : Ev w Y_X7_numberOf 22 [some (vR 3), some (vI wd)] [vI (cif (wd < 0) 0 (cif ((h 3 6) ≤ wd) 0 (h 21 wd)))] h (rI K) := by
    have H := H.2
    exact e_ret (pc := 22) (v := some (vI (cif (wd < 0) 0 (cif ((h 3 6) ≤ wd) 0 (h 21 wd))))) dX7_numberOf_22 rfl trivial ⟨_, rfl, H⟩
  have Ho := H.1
  refine e_if_lt (pc := 1) (tgt := 21) dX7_numberOf_1 (by decide) (fun c1 => ?_) (fun c1 => ?_)
  · have Ho := Ho.1 c1
    refine e_iconst (pc := 21) dX7_numberOf_21 ⟨by decide, by decide⟩ ?_
    exact e_top (cif_t c1) J
  · have Ho := Ho.2 c1
    refine e_iload_n (pc := 4) dX7_numberOf_4 rfl rfl ?_
    refine e_aload_n (pc := 5) dX7_numberOf_5 rfl rfl ?_
    refine e_getI (q := 3) (ci := 7) (k := 6) (kz := 6) (C := RX7) (T := TX7) (N := 8) (x := (h 3 6)) (pc := 6) dX7_numberOf_6 rfl rfl rfl ev_in7 rfl ul_1_123 ⟨rfl, by decide⟩ rfl ?_
    refine e_icmp_ge (pc := 9) (tgt := 21) dX7_numberOf_9 (by decide) (fun c2 => ?_) (fun c2 => ?_)
    · have Ho := Ho.1 c2
      refine e_iconst (pc := 21) dX7_numberOf_21 ⟨by decide, by decide⟩ ?_
      exact e_top ((cif_f c1).trans (cif_t c2)) J
    · have Ho := Ho.2 c2
      refine e_aload_n (pc := 12) dX7_numberOf_12 rfl rfl ?_
      refine e_getR (q := 3) (ci := 7) (k := 1) (y := 21) (C := RX7) (T := TX7) (N := 8) (pc := 13) dX7_numberOf_13 rfl rfl ev_in7 rfl ul_1_118 ⟨rfl, rfl⟩ rfl ?_
      refine e_iload_n (pc := 16) dX7_numberOf_16 rfl rfl ?_
      refine e_iald (q := 21) (x := (h 21 wd)) (pc := 17) dX7_numberOf_17 rfl Ho.1 rfl ?_
      have Ho := Ho.2
      refine e_goto (pc := 18) (tgt := 22) dX7_numberOf_18 (by decide) ?_
      exact e_top ((cif_f c1).trans (cif_f c2)) J
set_option maxRecDepth 100000 in
set_option maxHeartbeats 4000000 in
theorem c_X7_numberOf (w : WD) (wd : Int) (h : HP) (H : h 3 6 ≤ 16) : Ev w Y_X7_numberOf 0 [some (vR 3), some (vI wd)] [] h (rI (fun r h' => r = (cif (0 ≤ wd ∧ wd < h 3 6) (h 21 wd) 0) ∧ h' = h)) := by
  refine v_X7_numberOf w wd h _ ⟨by (repeat' (first | exact trivial | (intro _) | apply And.intro | omega)), ?_, rfl⟩
  by_cases c : 0 ≤ wd ∧ wd < h 3 6
  · rw [cif_t c, cif_f (by omega), cif_f (by omega)]
  · rw [cif_f c]
    by_cases c2 : wd < 0
    · rw [cif_t c2]
    · rw [cif_f c2, cif_t (by omega)]
noncomputable def nib (v k : Int) : Int := iand (j2i (jshr v (4 * k))) 15
theorem and15 (x : Int32) : 0 ≤ (x &&& 15).toInt ∧ (x &&& 15).toInt ≤ 15 := by
  obtain ⟨j, hj, e⟩ := pk_andE x (m := 15) 4 (by decide)
  rw [e, nI_toInt (by omega)]
  omega
theorem nib_b (v k : Int) : 0 ≤ nib v k ∧ nib v k ≤ 15 := by unfold nib iand; exact and15 _
theorem nib_m (v k : Int) : j2i (jand (jshr v (4 * k)) 15) = nib v k := by
  unfold nib j2i jand iand
  rw [l_of, i_of]
  generalize Int64.ofInt (jshr v (4 * k)) = V
  congr 1
  apply Int32.toBitVec_inj.mp
  rw [Int64.toBitVec_toInt32, Int32.toBitVec_and, Int64.toBitVec_toInt32, Int64.toBitVec_and]
  apply BitVec.eq_of_getLsbD_eq
  intro i hi
  rw [BitVec.getLsbD_signExtend, BitVec.getLsbD_and, BitVec.getLsbD_and, BitVec.getLsbD_signExtend]
  show (decide (i < 32) && if i < 64 then V.toBitVec.getLsbD i && (15#64).getLsbD i else _) = ((decide (i < 32) && if i < 64 then V.toBitVec.getLsbD i else _) && (15#32).getLsbD i)
  rw [if_pos (by omega), if_pos (by omega), BitVec.getLsbD_ofNat, BitVec.getLsbD_ofNat]
  have : i < 64 := by omega
  simp [hi, this]
def S_X7_listen (n v : Int) (h : HP) (K : HP → Prop) : Prop := (1 ≤ n ∧ n ≤ 8) ∧ ∀ h' : HP, (∀ q, q ≠ 25 → q ≠ 3 → h' q = h q) → (∀ i : Int, i ≠ 7 → h' 3 i = h 3 i) → h' 3 7 = n → (∀ j : Int, 0 ≤ j → j < n → h' 25 j = nib v (n - 1 - j)) → (∀ j : Int, n ≤ j → h' 25 j = h 25 j) → K h'
set_option maxRecDepth 100000 in
set_option maxHeartbeats 4000000 in
theorem v_X7_listen (w : WD) (n : Int) (v : Int) (h : HP) (K : HP → Prop) 
    (I1 : Nat → Int → HP → Prop)
    (H : (∃ m : Nat, I1 m 0 (sth h 3 7 n)))
    (H1 : ∀ (n1 : Nat) (x4 : Int) (g1 : HP), I1 n1 x4 g1 → ((n ≤ x4 → K g1) ∧ (¬ n ≤ x4 → ((iR (n - 1)) ∧ ((iR ((n - 1) - x4)) ∧ ((iR (4 * ((n - 1) - x4))) ∧ ((0 ≤ x4 ∧ x4 < 8) ∧ ((iR (x4 + 1)) ∧ (∃ m : Nat, m < n1 ∧ I1 m (x4 + 1) (sth g1 25 x4 (iand (j2i (jshr v (4 * ((n - 1) - x4)))) 15))))))))))) :
    Ev w Y_X7_listen 0 [some (vR 3), some (vI n), some (vL v), none, none] [] h (rV K) := by
  have L1 : ∀ (n1 : Nat) (x4 : Int) (g1 : HP), I1 n1 x4 g1 → Ev w Y_X7_listen 8 [some (vR 3), some (vI n), some (vL v), none, some (vI x4)] [] g1 (rV K) := by
    intro n1
    induction n1 using Nat.strongRecOn with
    | ind n1 ih1 =>
      intro x4 g1 H
      have H := H1 n1 x4 g1 H
      refine e_iload (pc := 8) dX7_listen_8 rfl ?_
      refine e_iload_n (pc := 10) dX7_listen_10 rfl rfl ?_
      refine e_icmp_ge (pc := 11) (tgt := 41) dX7_listen_11 (by decide) (fun c1 => ?_) (fun c1 => ?_)
      · have H := H.1 c1
        exact e_ret (pc := 41) (v := none) dX7_listen_41 rfl trivial ⟨rfl, H⟩
      · have H := H.2 c1
        refine e_aload_n (pc := 14) dX7_listen_14 rfl rfl ?_
        refine e_getR (q := 3) (ci := 7) (k := 5) (y := 25) (C := RX7) (T := TX7) (N := 8) (pc := 15) dX7_listen_15 rfl rfl ev_in7 rfl ul_1_122 ⟨rfl, rfl⟩ rfl ?_
        refine e_iload (pc := 18) dX7_listen_18 rfl ?_
        refine e_lload_n (pc := 20) dX7_listen_20 rfl rfl ?_
        refine e_iconst (pc := 21) dX7_listen_21 ⟨by decide, by decide⟩ ?_
        refine e_iload_n (pc := 22) dX7_listen_22 rfl rfl ?_
        refine e_iconst (pc := 23) dX7_listen_23 ⟨by decide, by decide⟩ ?_
        refine e_isub (pc := 24) dX7_listen_24 H.1 ?_
        have H := H.2
        refine e_iload (pc := 25) dX7_listen_25 rfl ?_
        refine e_isub (pc := 27) dX7_listen_27 H.1 ?_
        have H := H.2
        refine e_imul (pc := 28) dX7_listen_28 H.1 ?_
        have H := H.2
        refine e_lshr (pc := 29) dX7_listen_29 ?_
        refine e_l2i (pc := 30) dX7_listen_30 ?_
        refine e_bipush (pc := 31) dX7_listen_31 ⟨by decide, by decide⟩ (by decide) ?_
        refine e_iand (pc := 33) dX7_listen_33 ?_
        refine e_iast (q := 25) (pc := 34) dX7_listen_34 rfl H.1 ?_
        have H := H.2
        refine e_iinc (lv' := [some (vR 3), some (vI n), some (vL v), none, some (vI (x4 + 1))]) (pc := 35) dX7_listen_35 rfl H.1 rfl rfl ?_
        have H := H.2
        refine e_goto (pc := 38) (tgt := 8) dX7_listen_38 (by decide) ?_
        obtain ⟨m, hm, H⟩ := H
        exact ih1 m hm _ _ H
  refine e_aload_n (pc := 0) dX7_listen_0 rfl rfl ?_
  refine e_iload_n (pc := 1) dX7_listen_1 rfl rfl ?_
  refine e_put (q := 3) (ci := 7) (k := 7) (kz := 7) (C := RX7) (T := TX7) (N := 8) (ty := .int) (pc := 2) dX7_listen_2 rfl rfl rfl ev_in7 tyX7 tyX7_ok nmX7 rfl ul_1_126 ⟨rfl, by decide⟩ rfl (tyX7_ok 7 (by decide)) (Or.inl rfl) ?_
  refine e_iconst (pc := 5) dX7_listen_5 ⟨by decide, by decide⟩ ?_
  refine e_istore (lv' := [some (vR 3), some (vI n), some (vL v), none, some (vI 0)]) (pc := 6) dX7_listen_6 rfl rfl ?_
  obtain ⟨m, H⟩ := H
  exact L1 m _ _ H
set_option maxRecDepth 100000 in
set_option maxHeartbeats 4000000 in
theorem c_X7_listen (w : WD) (n : Int) (v : Int) (h : HP) (K : HP → Prop)  (H : S_X7_listen n v h K) : Ev w Y_X7_listen 0 [some (vR 3), some (vI n), some (vL v), none, none] [] h (rV K) := by
  obtain ⟨hn, HK⟩ := H
  refine v_X7_listen w n v h K (fun m x4 g => (0 ≤ x4 ∧ x4 ≤ n) ∧ m = (n - x4).toNat ∧ (∀ q, q ≠ 25 → q ≠ 3 → g q = h q) ∧ (∀ i : Int, i ≠ 7 → g 3 i = h 3 i) ∧ g 3 7 = n ∧ (∀ j : Int, 0 ≤ j → j < x4 → g 25 j = nib v (n - 1 - j)) ∧ (∀ j : Int, x4 ≤ j → g 25 j = h 25 j)) ⟨n.toNat, by omega, by omega, fun q a b => sth_ne b, fun i a => by rw [sth_eq, us_n a], by rw [sth_eq, us_s], fun j a b => by omega, fun j a => by rw [sth_ne (by decide)]⟩ ?_
  rintro m x4 g ⟨h0, rfl, f1, f2, f3, f4, f5⟩
  refine ⟨fun c => HK g f1 f2 f3 (fun j a b => f4 j a (by omega)) (fun j a => f5 j (by omega)), fun c => ⟨⟨by omega, by omega⟩, ⟨by omega, by omega⟩, ⟨by omega, by omega⟩, by omega, ⟨by omega, by omega⟩, (n - (x4 + 1)).toNat, by omega, by omega, rfl, fun q a b => by rw [sth_ne a]; exact f1 q a b, fun i a => by rw [sth_ne (by decide)]; exact f2 i a, by rw [sth_ne (by decide)]; exact f3, fun j a b => ?_, fun j a => by rw [sth_eq, us_n (by omega)]; exact f5 j (by omega)⟩⟩
  rw [sth_eq]
  by_cases e : j = x4
  · subst e; rw [us_s]; rfl
  · rw [us_n e]; exact f4 j a (by omega)
def S_X7_setDoubt (a1 : Int) (a2 : Int) (a3 : Int) (h : HP) (K : Int → HP → Prop) : Prop :=
  ((iR (a1 * 16)) ∧ ((iR ((a1 * 16) + a2)) ∧ ((0 ≤ ((a1 * 16) + a2) ∧ ((a1 * 16) + a2) < 256) ∧ ((0 ≤ ((a1 * 16) + a2) ∧ ((a1 * 16) + a2) < 256) ∧ K (h 24 ((a1 * 16) + a2)) (sth h 24 ((a1 * 16) + a2) a3)))))
set_option maxRecDepth 100000 in
set_option maxHeartbeats 4000000 in
theorem v_X7_setDoubt (w : WD) (a1 : Int) (a2 : Int) (a3 : Int) (h : HP) (K : Int → HP → Prop) 
    (H : ((iR (a1 * 16)) ∧ ((iR ((a1 * 16) + a2)) ∧ ((0 ≤ ((a1 * 16) + a2) ∧ ((a1 * 16) + a2) < 256) ∧ ((0 ≤ ((a1 * 16) + a2) ∧ ((a1 * 16) + a2) < 256) ∧ K (h 24 ((a1 * 16) + a2)) (sth h 24 ((a1 * 16) + a2) a3)))))) :
    Ev w Y_X7_setDoubt 0 [some (vR 3), some (vI a1), some (vI a2), some (vI a3), none, none] [] h (rI K) := by
  refine e_iload_n (pc := 0) dX7_setDoubt_0 rfl rfl ?_
  refine e_bipush (pc := 1) dX7_setDoubt_1 ⟨by decide, by decide⟩ (by decide) ?_
  refine e_imul (pc := 3) dX7_setDoubt_3 H.1 ?_
  have H := H.2
  refine e_iload_n (pc := 4) dX7_setDoubt_4 rfl rfl ?_
  refine e_iadd (pc := 5) dX7_setDoubt_5 H.1 ?_
  have H := H.2
  refine e_istore (lv' := [some (vR 3), some (vI a1), some (vI a2), some (vI a3), some (vI ((a1 * 16) + a2)), none]) (pc := 6) dX7_setDoubt_6 rfl rfl ?_
  refine e_aload_n (pc := 8) dX7_setDoubt_8 rfl rfl ?_
  refine e_getR (q := 3) (ci := 7) (k := 4) (y := 24) (C := RX7) (T := TX7) (N := 8) (pc := 9) dX7_setDoubt_9 rfl rfl ev_in7 rfl ul_1_121 ⟨rfl, rfl⟩ rfl ?_
  refine e_iload (pc := 12) dX7_setDoubt_12 rfl ?_
  refine e_iald (q := 24) (x := (h 24 ((a1 * 16) + a2))) (pc := 14) dX7_setDoubt_14 rfl H.1 rfl ?_
  have H := H.2
  refine e_istore (lv' := [some (vR 3), some (vI a1), some (vI a2), some (vI a3), some (vI ((a1 * 16) + a2)), some (vI (h 24 ((a1 * 16) + a2)))]) (pc := 15) dX7_setDoubt_15 rfl rfl ?_
  refine e_aload_n (pc := 17) dX7_setDoubt_17 rfl rfl ?_
  refine e_getR (q := 3) (ci := 7) (k := 4) (y := 24) (C := RX7) (T := TX7) (N := 8) (pc := 18) dX7_setDoubt_18 rfl rfl ev_in7 rfl ul_1_121 ⟨rfl, rfl⟩ rfl ?_
  refine e_iload (pc := 21) dX7_setDoubt_21 rfl ?_
  refine e_iload_n (pc := 23) dX7_setDoubt_23 rfl rfl ?_
  refine e_iast (q := 24) (pc := 24) dX7_setDoubt_24 rfl H.1 ?_
  have H := H.2
  refine e_iload (pc := 25) dX7_setDoubt_25 rfl ?_
  exact e_ret (pc := 27) (v := some (vI (h 24 ((a1 * 16) + a2)))) dX7_setDoubt_27 rfl trivial ⟨_, rfl, H⟩
theorem c_X7_setDoubt (w : WD) (a1 : Int) (a2 : Int) (a3 : Int) (h : HP) (K : Int → HP → Prop)  (H : S_X7_setDoubt a1 a2 a3 h K) : Ev w Y_X7_setDoubt 0 [some (vR 3), some (vI a1), some (vI a2), some (vI a3), none, none] [] h (rI K) := v_X7_setDoubt w a1 a2 a3 h K  H
noncomputable def nb4 (v k : Int) : Int := iand (ishr v (4 * k)) 15
theorem nb4_b (v k : Int) : 0 ≤ nb4 v k ∧ nb4 v k ≤ 15 := by unfold nb4 iand; exact and15 _
/-- a row of sounds of a new word -/
noncomputable def sndW (f : Int → Int) (k n v : Int) : Int → Int := fun i => cif (4 * k ≤ i ∧ i < 4 * k + n) (nb4 v (n - 1 - (i - 4 * k))) (f i)
def S_X7_addWord (kd nb n v : Int) (h : HP) (K : Int → HP → Prop) : Prop := ((0 ≤ h 3 6 ∧ h 3 6 ≤ 16) ∧ 1 ≤ n ∧ n ≤ 4) ∧ (h 3 6 = 16 → K (-3) h) ∧ (h 3 6 < 16 → ∀ h' : HP, (∀ q, q ≠ 20 → q ≠ 21 → q ≠ 22 → q ≠ 23 → q ≠ 3 → h' q = h q) → (∀ i : Int, i ≠ 6 → h' 3 i = h 3 i) → h' 3 6 = h 3 6 + 1 → h' 20 = us (h 20) (h 3 6) kd → h' 21 = us (h 21) (h 3 6) nb → h' 22 = us (h 22) (h 3 6) n → h' 23 = sndW (h 23) (h 3 6) n v → K (h 3 6) h')
set_option maxRecDepth 100000 in
set_option maxHeartbeats 4000000 in
theorem v_X7_addWord (w : WD) (kd : Int) (nb : Int) (n : Int) (v : Int) (h : HP) (K : Int → HP → Prop) 
    (I1 : Nat → Int → HP → Prop)
    (H : (((h 3 6) < 16 → ((0 ≤ (h 3 6) ∧ (h 3 6) < 16) ∧ ((0 ≤ (h 3 6) ∧ (h 3 6) < 16) ∧ ((0 ≤ (h 3 6) ∧ (h 3 6) < 16) ∧ (∃ m : Nat, I1 m 0 (sth (sth (sth h 20 (h 3 6) kd) 21 (h 3 6) nb) 22 (h 3 6) n)))))) ∧ (¬ (h 3 6) < 16 → K (-3) h)))
    (H1 : ∀ (n1 : Nat) (x5 : Int) (g1 : HP), I1 n1 x5 g1 → ((n ≤ x5 → ((iR ((g1 3 6) + 1)) ∧ ((iR (((g1 3 6) + 1) - 1)) ∧ K (((g1 3 6) + 1) - 1) (sth g1 3 6 ((g1 3 6) + 1))))) ∧ (¬ n ≤ x5 → ((iR ((g1 3 6) * 4)) ∧ ((iR (((g1 3 6) * 4) + x5)) ∧ ((iR (n - 1)) ∧ ((iR ((n - 1) - x5)) ∧ ((iR (4 * ((n - 1) - x5))) ∧ ((0 ≤ (((g1 3 6) * 4) + x5) ∧ (((g1 3 6) * 4) + x5) < 64) ∧ ((iR (x5 + 1)) ∧ (∃ m : Nat, m < n1 ∧ I1 m (x5 + 1) (sth g1 23 (((g1 3 6) * 4) + x5) (iand (ishr v (4 * ((n - 1) - x5))) 15))))))))))))) :
    Ev w Y_X7_addWord 0 [some (vR 3), some (vI kd), some (vI nb), some (vI n), some (vI v), none] [] h (rI K) := by
  have L1 : ∀ (n1 : Nat) (x5 : Int) (g1 : HP), I1 n1 x5 g1 → Ev w Y_X7_addWord 45 [some (vR 3), none, none, some (vI n), some (vI v), some (vI x5)] [] g1 (rI K) := by
    intro n1
    induction n1 using Nat.strongRecOn with
    | ind n1 ih1 =>
      intro x5 g1 H
      have H := H1 n1 x5 g1 H
      refine e_iload (pc := 45) dX7_addWord_45 rfl ?_
      refine e_iload_n (pc := 47) dX7_addWord_47 rfl rfl ?_
      refine e_icmp_ge (pc := 48) (tgt := 85) dX7_addWord_48 (by decide) (fun c2 => ?_) (fun c2 => ?_)
      · have H := H.1 c2
        refine e_aload_n (pc := 85) dX7_addWord_85 rfl rfl ?_
        refine e_dup (pc := 86) dX7_addWord_86 rfl ?_
        refine e_getI (q := 3) (ci := 7) (k := 6) (kz := 6) (C := RX7) (T := TX7) (N := 8) (x := (g1 3 6)) (pc := 87) dX7_addWord_87 rfl rfl rfl ev_in7 rfl ul_1_123 ⟨rfl, by decide⟩ rfl ?_
        refine e_iconst (pc := 90) dX7_addWord_90 ⟨by decide, by decide⟩ ?_
        refine e_iadd (pc := 91) dX7_addWord_91 H.1 ?_
        have H := H.2
        refine e_put (q := 3) (ci := 7) (k := 6) (kz := 6) (C := RX7) (T := TX7) (N := 8) (ty := .int) (pc := 92) dX7_addWord_92 rfl rfl rfl ev_in7 tyX7 tyX7_ok nmX7 rfl ul_1_123 ⟨rfl, by decide⟩ rfl (tyX7_ok 6 (by decide)) (Or.inl rfl) ?_
        refine e_aload_n (pc := 95) dX7_addWord_95 rfl rfl ?_
        refine e_getI (q := 3) (ci := 7) (k := 6) (kz := 6) (C := RX7) (T := TX7) (N := 8) (x := ((g1 3 6) + 1)) (pc := 96) dX7_addWord_96 rfl rfl rfl ev_in7 rfl ul_1_123 ⟨rfl, by decide⟩ rfl ?_
        refine e_iconst (pc := 99) dX7_addWord_99 ⟨by decide, by decide⟩ ?_
        refine e_isub (pc := 100) dX7_addWord_100 H.1 ?_
        have H := H.2
        exact e_ret (pc := 101) (v := some (vI (((g1 3 6) + 1) - 1))) dX7_addWord_101 rfl trivial ⟨_, rfl, H⟩
      · have H := H.2 c2
        refine e_aload_n (pc := 51) dX7_addWord_51 rfl rfl ?_
        refine e_getR (q := 3) (ci := 7) (k := 3) (y := 23) (C := RX7) (T := TX7) (N := 8) (pc := 52) dX7_addWord_52 rfl rfl ev_in7 rfl ul_1_120 ⟨rfl, rfl⟩ rfl ?_
        refine e_aload_n (pc := 55) dX7_addWord_55 rfl rfl ?_
        refine e_getI (q := 3) (ci := 7) (k := 6) (kz := 6) (C := RX7) (T := TX7) (N := 8) (x := (g1 3 6)) (pc := 56) dX7_addWord_56 rfl rfl rfl ev_in7 rfl ul_1_123 ⟨rfl, by decide⟩ rfl ?_
        refine e_iconst (pc := 59) dX7_addWord_59 ⟨by decide, by decide⟩ ?_
        refine e_imul (pc := 60) dX7_addWord_60 H.1 ?_
        have H := H.2
        refine e_iload (pc := 61) dX7_addWord_61 rfl ?_
        refine e_iadd (pc := 63) dX7_addWord_63 H.1 ?_
        have H := H.2
        refine e_iload (pc := 64) dX7_addWord_64 rfl ?_
        refine e_iconst (pc := 66) dX7_addWord_66 ⟨by decide, by decide⟩ ?_
        refine e_iload_n (pc := 67) dX7_addWord_67 rfl rfl ?_
        refine e_iconst (pc := 68) dX7_addWord_68 ⟨by decide, by decide⟩ ?_
        refine e_isub (pc := 69) dX7_addWord_69 H.1 ?_
        have H := H.2
        refine e_iload (pc := 70) dX7_addWord_70 rfl ?_
        refine e_isub (pc := 72) dX7_addWord_72 H.1 ?_
        have H := H.2
        refine e_imul (pc := 73) dX7_addWord_73 H.1 ?_
        have H := H.2
        refine e_ishr (pc := 74) dX7_addWord_74 ?_
        refine e_bipush (pc := 75) dX7_addWord_75 ⟨by decide, by decide⟩ (by decide) ?_
        refine e_iand (pc := 77) dX7_addWord_77 ?_
        refine e_iast (q := 23) (pc := 78) dX7_addWord_78 rfl H.1 ?_
        have H := H.2
        refine e_iinc (lv' := [some (vR 3), none, none, some (vI n), some (vI v), some (vI (x5 + 1))]) (pc := 79) dX7_addWord_79 rfl H.1 rfl rfl ?_
        have H := H.2
        refine e_goto (pc := 82) (tgt := 45) dX7_addWord_82 (by decide) ?_
        obtain ⟨m, hm, H⟩ := H
        exact ih1 m hm _ _ H
  refine e_aload_n (pc := 0) dX7_addWord_0 rfl rfl ?_
  refine e_getI (q := 3) (ci := 7) (k := 6) (kz := 6) (C := RX7) (T := TX7) (N := 8) (x := (h 3 6)) (pc := 1) dX7_addWord_1 rfl rfl rfl ev_in7 rfl ul_1_123 ⟨rfl, by decide⟩ rfl ?_
  refine e_bipush (pc := 4) dX7_addWord_4 ⟨by decide, by decide⟩ (by decide) ?_
  refine e_icmp_lt (pc := 6) (tgt := 12) dX7_addWord_6 (by decide) (fun c1 => ?_) (fun c1 => ?_)
  · have H := H.1 c1
    refine e_aload_n (pc := 12) dX7_addWord_12 rfl rfl ?_
    refine e_getR (q := 3) (ci := 7) (k := 0) (y := 20) (C := RX7) (T := TX7) (N := 8) (pc := 13) dX7_addWord_13 rfl rfl ev_in7 rfl ul_1_116 ⟨rfl, rfl⟩ rfl ?_
    refine e_aload_n (pc := 16) dX7_addWord_16 rfl rfl ?_
    refine e_getI (q := 3) (ci := 7) (k := 6) (kz := 6) (C := RX7) (T := TX7) (N := 8) (x := (h 3 6)) (pc := 17) dX7_addWord_17 rfl rfl rfl ev_in7 rfl ul_1_123 ⟨rfl, by decide⟩ rfl ?_
    refine e_iload_n (pc := 20) dX7_addWord_20 rfl rfl ?_
    refine e_iast (q := 20) (pc := 21) dX7_addWord_21 rfl H.1 ?_
    have H := H.2
    refine e_aload_n (pc := 22) dX7_addWord_22 rfl rfl ?_
    refine e_getR (q := 3) (ci := 7) (k := 1) (y := 21) (C := RX7) (T := TX7) (N := 8) (pc := 23) dX7_addWord_23 rfl rfl ev_in7 rfl ul_1_118 ⟨rfl, rfl⟩ rfl ?_
    refine e_aload_n (pc := 26) dX7_addWord_26 rfl rfl ?_
    refine e_getI (q := 3) (ci := 7) (k := 6) (kz := 6) (C := RX7) (T := TX7) (N := 8) (x := (h 3 6)) (pc := 27) dX7_addWord_27 rfl rfl rfl ev_in7 rfl ul_1_123 ⟨rfl, by decide⟩ rfl ?_
    refine e_iload_n (pc := 30) dX7_addWord_30 rfl rfl ?_
    refine e_iast (q := 21) (pc := 31) dX7_addWord_31 rfl H.1 ?_
    have H := H.2
    refine e_aload_n (pc := 32) dX7_addWord_32 rfl rfl ?_
    refine e_getR (q := 3) (ci := 7) (k := 2) (y := 22) (C := RX7) (T := TX7) (N := 8) (pc := 33) dX7_addWord_33 rfl rfl ev_in7 rfl ul_1_119 ⟨rfl, rfl⟩ rfl ?_
    refine e_aload_n (pc := 36) dX7_addWord_36 rfl rfl ?_
    refine e_getI (q := 3) (ci := 7) (k := 6) (kz := 6) (C := RX7) (T := TX7) (N := 8) (x := (h 3 6)) (pc := 37) dX7_addWord_37 rfl rfl rfl ev_in7 rfl ul_1_123 ⟨rfl, by decide⟩ rfl ?_
    refine e_iload_n (pc := 40) dX7_addWord_40 rfl rfl ?_
    refine e_iast (q := 22) (pc := 41) dX7_addWord_41 rfl H.1 ?_
    have H := H.2
    refine e_iconst (pc := 42) dX7_addWord_42 ⟨by decide, by decide⟩ ?_
    refine e_istore (lv' := [some (vR 3), some (vI kd), some (vI nb), some (vI n), some (vI v), some (vI 0)]) (pc := 43) dX7_addWord_43 rfl rfl ?_
    refine e_mask [true, false, false, true, true, true] rfl ?_
    obtain ⟨m, H⟩ := H
    exact L1 m _ _ H
  · have H := H.2 c1
    refine e_bipush (pc := 9) dX7_addWord_9 ⟨by decide, by decide⟩ (by decide) ?_
    exact e_ret (pc := 11) (v := some (vI (-3))) dX7_addWord_11 rfl trivial ⟨_, rfl, H⟩
set_option maxRecDepth 100000 in
set_option maxHeartbeats 4000000 in
theorem c_X7_addWord (w : WD) (kd : Int) (nb : Int) (n : Int) (v : Int) (h : HP) (K : Int → HP → Prop)  (H : S_X7_addWord kd nb n v h K) : Ev w Y_X7_addWord 0 [some (vR 3), some (vI kd), some (vI nb), some (vI n), some (vI v), none] [] h (rI K) := by
  obtain ⟨⟨hs, hn⟩, HF, HK⟩ := H
  refine v_X7_addWord w kd nb n v h K (fun m x5 g => h 3 6 < 16 ∧ (0 ≤ x5 ∧ x5 ≤ n) ∧ m = (n - x5).toNat ∧ (∀ q, q ≠ 20 → q ≠ 21 → q ≠ 22 → q ≠ 23 → g q = h q) ∧ g 20 = us (h 20) (h 3 6) kd ∧ g 21 = us (h 21) (h 3 6) nb ∧ g 22 = us (h 22) (h 3 6) n ∧ g 23 = fun i => cif (4 * h 3 6 ≤ i ∧ i < 4 * h 3 6 + x5) (nb4 v (n - 1 - (i - 4 * h 3 6))) (h 23 i)) ⟨fun c => ⟨by omega, by omega, by omega, n.toNat, c, by omega, by omega, fun q a b d e => by rw [sth_ne d, sth_ne b, sth_ne a], by rw [sth_ne (by decide), sth_ne (by decide), sth_eq], by rw [sth_ne (by decide), sth_eq, sth_ne (by decide)], by rw [sth_eq, sth_ne (by decide), sth_ne (by decide)], ?_⟩, fun c => HF (by omega)⟩ ?_
  · funext i
    rw [sth_ne (by decide), sth_ne (by decide), sth_ne (by decide), cif_f (by omega)]
  · rintro m x5 g ⟨hc, h0, rfl, f1, f2, f3, f4, f5⟩
    rw [f1 3 (by decide) (by decide) (by decide) (by decide)]
    refine ⟨fun c => ⟨⟨by omega, by omega⟩, ⟨by omega, by omega⟩, ?_⟩, fun c => ⟨⟨by omega, by omega⟩, ⟨by omega, by omega⟩, ⟨by omega, by omega⟩, ⟨by omega, by omega⟩, ⟨by omega, by omega⟩, by omega, ⟨by omega, by omega⟩, (n - (x5 + 1)).toNat, by omega, hc, by omega, rfl, fun q a b d e => by rw [sth_ne e]; exact f1 q a b d e, by rw [sth_ne (by decide)]; exact f2, by rw [sth_ne (by decide)]; exact f3, by rw [sth_ne (by decide)]; exact f4, ?_⟩⟩
    · rw [show h 3 6 + 1 - 1 = h 3 6 by omega]
      refine HK hc _ (fun q a b d e f => by rw [sth_ne f]; exact f1 q a b d e) (fun i a => by rw [sth_eq, us_n a, f1 3 (by decide) (by decide) (by decide) (by decide)]) (by rw [sth_eq, us_s]) (by rw [sth_ne (by decide)]; exact f2) (by rw [sth_ne (by decide)]; exact f3) (by rw [sth_ne (by decide)]; exact f4) ?_
      rw [sth_ne (by decide), f5, show x5 = n by omega]
      rfl
    · rw [sth_eq, f5]
      funext i
      unfold us
      by_cases e : i = h 3 6 * 4 + x5
      · rw [if_pos e, cif_t (by omega), show n - 1 - (i - 4 * h 3 6) = n - 1 - x5 by omega]
        rfl
      · rw [if_neg e]
        show cif _ _ _ = _
        exact cif_c (by omega)
