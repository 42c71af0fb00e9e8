/-! pairs of calls: what is heard -/
theorem sr_H {D H H' : Int → Int} {so : Int} {row : Nat → Int} : ∀ j : Nat, (∀ i : Int, 0 ≤ i → i < (j : Int) → H i = H' i) → sr D H so row j = sr D H' so row j
  | 0, _ => rfl
  | j + 1, h => by
    simp only [sr]
    rw [sr_H j (fun i a b => h i a (by omega)), h (j : Int) (by omega) (by omega)]
theorem sr_HR {D H H' : Int → Int} {so : Int} {row row' : Nat → Int} {n : Nat} (h : ∀ i : Int, 0 ≤ i → i < (n : Int) → H i = H' i) (hr : ∀ j : Nat, j ≤ n → row j = row' j) : ∀ j : Nat, j ≤ n → sr D H so row j = sr D H' so row' j := fun j hj => by
  rw [sr_H j (fun i a b => h i a (by omega))]
  exact sr_c (n := (n : Int)) (fun k hk => hr k (by omega)) j (by omega)
theorem rwF_HR {D H H' : Int → Int} {s : Nat → Int} {row row' : Nat → Int} {n : Nat} (h : ∀ i : Int, 0 ≤ i → i < (n : Int) → H i = H' i) (hr : ∀ j : Nat, j ≤ n → row j = row' j) : ∀ (m j : Nat), j ≤ n → rwF D H s m row j = rwF D H' s m row' j
  | 0, j, hj => hr j hj
  | m + 1, j, hj => by
    simp only [rwF]
    exact sr_HR h (fun k hk => rwF_HR h hr m k hk) j hj
theorem prR_H {D H H' SM SND : Int → Int} {n : Nat} (h : ∀ i : Int, 0 ≤ i → i < (n : Int) → H i = H' i) (a b c : Int) : prR D H SM SND a b c n = prR D H' SM SND a b c n := by
  have h1 : ∀ j : Nat, j ≤ n → rwW D H SM SND a row0 j = rwW D H' SM SND a row0 j := fun j hj => rwF_HR h (fun _ _ => rfl) _ j hj
  have h2 : ∀ j : Nat, j ≤ n → rwW D H SM SND b (rwW D H SM SND a row0) j = rwW D H' SM SND b (rwW D H' SM SND a row0) j := fun j hj => rwF_HR h h1 _ j hj
  unfold prR
  by_cases e : c < 0
  · rw [if_pos e, if_pos e]; exact h2 n (Nat.le_refl _)
  · rw [if_neg e, if_neg e]; exact rwF_HR h h2 _ n (Nat.le_refl _)
theorem nib_15 (v k : Int) : 0 ≤ nib v k ∧ nib v k ≤ 15 := by unfold nib iand; exact and15 _
theorem hr_end {n : Nat} {c c5 m' : HP} {fo su k v : Int} {R : RD} (H : Rel n c c5) (hok : okH fo su k v) (hR : rok (c 20) (c 3 6) R)
    (cq : ∀ q, q ≠ 25 → q ≠ 3 → q ≠ 4 → q ≠ 26 → q ≠ 27 → q ≠ 28 → q ≠ 29 → q ≠ 30 → q ≠ 31 → q ≠ 32 → q ≠ 33 → q ≠ 34 → q ≠ 35 → c5 q = c q) (c3 : ∀ i : Int, i ≠ 7 → c5 3 i = c 3 i) (c25 : ∀ j : Int, 0 ≤ j → j < k → c5 25 j = nib v (k - 1 - j)) (c25' : ∀ j : Int, k ≤ j → c5 25 j = c 25 j) (c412 : c5 4 12 = 1) (c413 : c5 4 13 = fo) (c414 : c5 4 14 = cif (c 54 2 ≤ su) fo 6) (crp : rpC c5 R) (c30 : ∀ i : Int, 0 ≤ i → i < (R.1 : Int) → c5 30 i = mnC c5 (c 5 4) i) (c30' : ∀ i : Int, i < 0 ∨ (R.1 : Int) ≤ i → c5 30 i = c 30 i) (c31 : ∀ i : Int, 0 ≤ i → i < (R.1 : Int) → c5 31 i = b2i (opC c5 (c 54 1) i)) (c31' : ∀ i : Int, i < 0 ∨ (R.1 : Int) ≤ i → c5 31 i = c 31 i)
    (mq : ∀ q, q ≠ 55 → q ≠ 84 → q ≠ 72 → q ≠ 73 → q ≠ 83 → q ≠ 85 → q ≠ 74 → q ≠ 75 → m' q = c5 q) (m55 : ∀ i : Int, i ≠ 20 → i ≠ 21 → i ≠ 22 → i ≠ 44 → i ≠ 23 → i ≠ 42 → m' 55 i = c5 55 i) (m20 : m' 55 20 = 1) (m21 : m' 55 21 = fo) (m22 : m' 55 22 = b2i (¬ c5 68 2 ≤ su)) (m84 : ∀ j : Int, 0 ≤ j → j < k → m' 84 j = nib v (k - 1 - j)) (m84' : ∀ j : Int, k ≤ j → m' 84 j = c5 84 j) (mrp : rpM m' R) (m74 : ∀ i : Int, 0 ≤ i → i < (R.1 : Int) → m' 74 i = mnX m' i) (m74' : ∀ i : Int, i < 0 ∨ (R.1 : Int) ≤ i → m' 74 i = c5 74 i) (m75 : ∀ i : Int, 0 ≤ i → i < (R.1 : Int) → m' 75 i = b2i (opN m' (c5 68 1) i)) (m75' : ∀ i : Int, i < 0 ∨ (R.1 : Int) ≤ i → m' 75 i = c5 75 i) : Rel (n + 1) c5 m' := by
  obtain ⟨h1, h2, h3, h4, h5, h6, h7, h8, h9⟩ := H
  have hk := hok.2.2.1
  have h12 := crp.2.1
  have d17 : c5 1 = c 1 := cq 1 (by decide) (by decide) (by decide) (by decide) (by decide) (by decide) (by decide) (by decide) (by decide) (by decide) (by decide) (by decide) (by decide)
  have d9 : c5 9 = c 9 := cq 9 (by decide) (by decide) (by decide) (by decide) (by decide) (by decide) (by decide) (by decide) (by decide) (by decide) (by decide) (by decide) (by decide)
  have d10 : c5 10 = c 10 := cq 10 (by decide) (by decide) (by decide) (by decide) (by decide) (by decide) (by decide) (by decide) (by decide) (by decide) (by decide) (by decide) (by decide)
  have d14 : c5 14 = c 14 := cq 14 (by decide) (by decide) (by decide) (by decide) (by decide) (by decide) (by decide) (by decide) (by decide) (by decide) (by decide) (by decide) (by decide)
  have d20 : c5 20 = c 20 := cq 20 (by decide) (by decide) (by decide) (by decide) (by decide) (by decide) (by decide) (by decide) (by decide) (by decide) (by decide) (by decide) (by decide)
  have d21 : c5 21 = c 21 := cq 21 (by decide) (by decide) (by decide) (by decide) (by decide) (by decide) (by decide) (by decide) (by decide) (by decide) (by decide) (by decide) (by decide)
  have d36 : c5 3 6 = c 3 6 := c3 6 (by decide)
  have e0 : m' 55 0 = c 1 7 := by rw [m55 0 (by decide) (by decide) (by decide) (by decide) (by decide) (by decide)]; exact h1.2.2.1
  have e10 : m' 55 10 = c 3 6 := by rw [m55 10 (by decide) (by decide) (by decide) (by decide) (by decide) (by decide)]; exact h4.2.2.1
  have e28 : m' 55 28 = c 5 4 := by rw [m55 28 (by decide) (by decide) (by decide) (by decide) (by decide) (by decide)]; exact h6.2.2.2.2.2.2.2.1
  have e64 : m' 64 = c 20 := by rw [mq 64 (by decide) (by decide) (by decide) (by decide) (by decide) (by decide) (by decide) (by decide)]; exact h4.2.2.2.1
  have e65 : m' 65 = c 21 := by rw [mq 65 (by decide) (by decide) (by decide) (by decide) (by decide) (by decide) (by decide) (by decide)]; exact h4.2.2.2.2.1
  have e56 : m' 56 = c 9 := by rw [mq 56 (by decide) (by decide) (by decide) (by decide) (by decide) (by decide) (by decide) (by decide)]; exact h1.2.2.2.1
  have e57 : m' 57 = c 10 := by rw [mq 57 (by decide) (by decide) (by decide) (by decide) (by decide) (by decide) (by decide) (by decide)]; exact h1.2.2.2.2.1
  have e62 : m' 62 = c 14 := by rw [mq 62 (by decide) (by decide) (by decide) (by decide) (by decide) (by decide) (by decide) (by decide)]; exact h1.2.2.2.2.2.2.1
  have e68 : c5 68 = c 54 := h4.2.2.2.2.2.2.2.2.1
  have hsz : c5 4 15 = (R.1 : Int) := crp.1
  have hszM : m' 55 23 = (R.1 : Int) := mrp.1
  have hmn : ∀ i : Int, 0 ≤ i → i < (R.1 : Int) → m' 74 i = c5 30 i := fun i i0 i1 => by
    have hri := hR i i0 i1
    have pc := crp.2.2 i i0 i1
    have pm := mrp.2.2 i i0 i1
    rw [m74 i i0 i1, c30 i i0 i1]
    unfold mnX mnS mnC
    rw [pm.2.1, pm.2.2.1, pm.2.2.2, pc.2.1, pc.2.2.1, pc.2.2.2, d17, d9, d10, d14, d20, d21, c413]
    refine bset_c (fun t t0 t1 => ?_)
    unfold mnQ
    rw [e0, e28, e64, e65, e56, e57, e62, m21]
    have ec : cif (0 ≤ nc (R.2.2.2.2 i)) (c 21 (nc (R.2.2.2.2 i))) (c 14 fo) = cif (R.2.2.2.2 i = -1) (c 14 fo) (c 21 (R.2.2.2.2 i)) := by
      rcases hri.2.2.2 with q | q
      · rw [q, cif_t rfl]; exact cif_f (by decide)
      · have : nc (R.2.2.2.2 i) = R.2.2.2.2 i := by unfold nc; rw [if_neg (by omega)]
        rw [this, cif_t q.1, cif_f (by omega)]
    rw [ec]
  have hfs : fsN (fun j => ¬ m' 74 j = 0) (m' 55 23).toNat = fsN (fun j => ¬ c5 30 j = 0) (c5 4 15).toNat := by
    rw [hszM, hsz]
    exact fsN_c (fun i a b => by rw [hmn i a (by omega)])
  have hop : ∀ i : Int, 0 ≤ i → i < (R.1 : Int) → m' 75 i = c5 31 i := fun i i0 i1 => by
    rw [m75 i i0 i1, c31 i i0 i1]
    refine b2i_c ?_
    unfold opN opC
    rw [hfs, hmn i i0 i1, e68, (mrp.2.2 i i0 i1).1, (crp.2.2 i i0 i1).1]
    by_cases z : c5 30 i = 0
    · exact ⟨fun y => absurd z y.1, fun y => absurd z y.1⟩
    · obtain ⟨j, j1, j2, _⟩ := fsN_e (p := fun j => ¬ c5 30 j = 0) (n := (c5 4 15).toNat) ⟨i, i0, by rw [hsz]; omega, z⟩
      rw [j2, (mrp.2.2 (j : Int) (by omega) (by rw [hsz] at j1; omega)).1, (crp.2.2 (j : Int) (by omega) (by rw [hsz] at j1; omega)).1]
  have hmb : ∀ i : Int, 0 ≤ i → i < 12 → (0 ≤ c5 30 i ∧ c5 30 i < 1024) ∧ (c5 31 i = 0 ∨ c5 31 i = 1) := fun i i0 i1 => by
    by_cases e : i < (R.1 : Int)
    · rw [c30 i i0 e, c31 i i0 e]; exact ⟨bset_b _ (n := 10), b2i_01 _⟩
    · rw [c30' i (Or.inr (by omega)), c31' i (Or.inr (by omega))]; exact h5.1.2.2.1 i i0 i1
  have hmm : ∀ i : Int, 0 ≤ i → i < 12 → (0 ≤ m' 74 i ∧ m' 74 i < 1024) ∧ (m' 75 i = 0 ∨ m' 75 i = 1) := fun i i0 i1 => by
    by_cases e : i < (R.1 : Int)
    · rw [hmn i i0 e, hop i i0 e]; exact hmb i i0 i1
    · rw [m74' i (Or.inr (by omega)), m75' i (Or.inr (by omega))]; exact h5.2.1.2.2.1 i i0 i1
  have hfo := hok.1
  refine ⟨rHs_c h1 (by (repeat' apply And.intro) <;> first | (apply cq <;> decide) | (refine congrFun ?_ _; apply cq <;> decide) | rfl) (by (repeat' apply And.intro) <;> first | (apply mq <;> decide) | (apply m55 <;> decide) | (refine congrFun ?_ _; apply mq <;> decide) | (refine congrFun ?_ _; apply m55 <;> decide) | rfl), rTx_c h2 (by (repeat' apply And.intro) <;> first | (apply cq <;> decide) | (refine congrFun ?_ _; apply cq <;> decide) | rfl) (by (repeat' apply And.intro) <;> first | (apply mq <;> decide) | (apply m55 <;> decide) | (refine congrFun ?_ _; apply mq <;> decide) | (refine congrFun ?_ _; apply m55 <;> decide) | rfl), rRl_c h3 (by (repeat' apply And.intro) <;> first | (apply cq <;> decide) | (refine congrFun ?_ _; apply cq <;> decide) | rfl) (by (repeat' apply And.intro) <;> first | (apply mq <;> decide) | (apply m55 <;> decide) | (refine congrFun ?_ _; apply mq <;> decide) | (refine congrFun ?_ _; apply m55 <;> decide) | rfl), ?_, ⟨⟨by rw [hsz]; omega, by rw [c413]; exact hfo, hmb, fun i i0 i1 => ?_⟩, ⟨by rw [hszM]; omega, by rw [m21]; exact hfo, hmm, fun i i0 i1 => ?_⟩, Or.inr c412, by rw [m20, c412], fun _ => ⟨by rw [hszM, hsz], by rw [m21, c413], ?_, fun i i0 i1 => ?_⟩⟩, rDe_c h6 (by (repeat' apply And.intro) <;> first | (apply cq <;> decide) | (refine congrFun ?_ _; apply cq <;> decide) | rfl) (by (repeat' apply And.intro) <;> first | (apply mq <;> decide) | (apply m55 <;> decide) | (refine congrFun ?_ _; apply mq <;> decide) | (refine congrFun ?_ _; apply m55 <;> decide) | rfl), rSt_c h7 (by (repeat' apply And.intro) <;> first | (apply cq <;> decide) | (refine congrFun ?_ _; apply cq <;> decide) | rfl) (by (repeat' apply And.intro) <;> first | (apply mq <;> decide) | (apply m55 <;> decide) | (refine congrFun ?_ _; apply mq <;> decide) | (refine congrFun ?_ _; apply m55 <;> decide) | rfl), rLg_c h8 (by (repeat' apply And.intro) <;> first | (apply cq <;> decide) | (refine congrFun ?_ _; apply cq <;> decide) | rfl) (by (repeat' apply And.intro) <;> first | (apply mq <;> decide) | (apply m55 <;> decide) | (refine congrFun ?_ _; apply mq <;> decide) | (refine congrFun ?_ _; apply m55 <;> decide) | rfl), rNm_c h9 (by (repeat' apply And.intro) <;> first | (apply cq <;> decide) | (refine congrFun ?_ _; apply cq <;> decide) | rfl) (by (repeat' apply And.intro) <;> first | (apply mq <;> decide) | (apply m55 <;> decide) | (refine congrFun ?_ _; apply mq <;> decide) | (refine congrFun ?_ _; apply m55 <;> decide) | rfl)⟩
  · obtain ⟨g1, g2, g3, g4, g5, g6, g7, g8, g9, g10, g11⟩ := h4
    unfold rVo VOK mVOK
    rw [d36, d20, d21, cq 22 (by decide) (by decide) (by decide) (by decide) (by decide) (by decide) (by decide) (by decide) (by decide) (by decide) (by decide) (by decide) (by decide), cq 23 (by decide) (by decide) (by decide) (by decide) (by decide) (by decide) (by decide) (by decide) (by decide) (by decide) (by decide) (by decide) (by decide), cq 24 (by decide) (by decide) (by decide) (by decide) (by decide) (by decide) (by decide) (by decide) (by decide) (by decide) (by decide) (by decide) (by decide), cq 54 (by decide) (by decide) (by decide) (by decide) (by decide) (by decide) (by decide) (by decide) (by decide) (by decide) (by decide) (by decide) (by decide), m55 10 (by decide) (by decide) (by decide) (by decide) (by decide) (by decide), mq 63 (by decide) (by decide) (by decide) (by decide) (by decide) (by decide) (by decide) (by decide), mq 64 (by decide) (by decide) (by decide) (by decide) (by decide) (by decide) (by decide) (by decide), mq 65 (by decide) (by decide) (by decide) (by decide) (by decide) (by decide) (by decide) (by decide), mq 66 (by decide) (by decide) (by decide) (by decide) (by decide) (by decide) (by decide) (by decide), mq 67 (by decide) (by decide) (by decide) (by decide) (by decide) (by decide) (by decide) (by decide), mq 68 (by decide) (by decide) (by decide) (by decide) (by decide) (by decide) (by decide) (by decide)]
    refine ⟨g1, g2, g3, g4, g5, g6, g7, g8, g9, g10, fun j j0 j1 => ?_⟩
    by_cases e : j < k
    · rw [c25 j j0 e, m84 j j0 e]; exact ⟨nib_15 _ _, rfl⟩
    · rw [c25' j (by omega), m84' j (by omega)]; exact g11 j j0 j1
  · rw [hsz] at i1
    have hri := hR i i0 i1
    have pc := crp.2.2 i i0 i1
    rw [pc.2.1, pc.2.2.1, pc.2.2.2, d36, d20]
    exact hri.2
  · rw [hszM] at i1
    have hri := hR i i0 i1
    rw [(mrp.2.2 i i0 i1).2.1, e10, e64]
    exact hri.2.1
  · unfold whM
    rw [m21, m22, c414, e68]
    by_cases z : c 54 2 ≤ su
    · rw [cif_t (b2i_f (fun y => y z)), cif_t z]
    · rw [cif_f (by rw [b2i_t z]; decide), cif_f z]
  · rw [hsz] at i1
    have pc := crp.2.2 i i0 i1
    have pm := mrp.2.2 i i0 i1
    refine ⟨by rw [pm.1, pc.1], by rw [pm.2.1, pc.2.1], by rw [pm.2.2.1, pc.2.2.1], by rw [pm.2.2.2, pc.2.2.2], hmn i i0 i1, hop i i0 i1, fun t t0 t1 => ?_⟩
    rw [c30 i i0 i1]
    unfold mnC
    rw [mem_bset (by rw [d17] at t0; have := h1.1.1; omega)]
    exact fun y => by have := y.2.1; omega
theorem mnX_c {h g : HP} (h1 : g 55 0 = h 55 0) (h1' : g 55 21 = h 55 21) (h1'' : g 55 28 = h 55 28) (h2 : g 64 = h 64) (h3 : g 57 = h 57) (h4 : g 65 = h 65) (h5 : g 56 = h 56) (h6 : g 62 = h 62) (h7 : g 73 = h 73) (i : Int) : mnX g i = mnX h i := by
  unfold mnX mnS
  rw [h7]
  refine bset_c (fun t _ _ => ?_)
  unfold mnQ
  rw [h1, h1', h1'', h2, h3, h4, h5, h6]
theorem pr_hear (fo su k v : Int) {n : Nat} {c : HP} (H : Rel n c c) : S_X8_hear fo su k v c (fun r c' => S_X9_hear fo su k v c' (fun r' m' => Fin n r r' m')) := by
  obtain ⟨h1, h2, h3, h4, h5, h6, h7, h8, h9⟩ := id H
  have preM : ∀ m : HP, Rel n c m → (mHOK m ∧ mVOK m ∧ (0 ≤ m 55 28 ∧ m 55 28 < 1024) ∧ (0 ≤ m 68 1 ∧ m 68 1 ≤ 1000) ∧ (∀ j : Int, 0 ≤ j → j < 8 → 0 ≤ m 84 j ∧ m 84 j ≤ 15)) := fun m HM => by
    obtain ⟨g1, _, _, g4, _, g6, _⟩ := HM
    refine ⟨g1.2.1, g4.2.1, by rw [g6.2.2.2.2.2.2.2.1]; exact g6.2.2.2.2.2.2.2.2, ?_, fun j a b => by rw [(g4.2.2.2.2.2.2.2.2.2.2 j a b).2]; exact (g4.2.2.2.2.2.2.2.2.2.2 j a b).1⟩
    rw [g4.2.2.2.2.2.2.2.2.1]
    have := g4.2.2.2.2.2.2.2.2.2.1.2.1
    omega
  have hw := h1.1.2.2.2.2.1
  refine ⟨⟨fun _ => trivial, fun _ => ⟨fun _ => trivial, fun _ => ⟨fun _ => trivial, fun y => ⟨y, trivial⟩⟩⟩⟩, fun z => ⟨by omega, fun zo => ⟨z.2.2.1, fun c1 p1 p2 p3 p4 p5 => ?_⟩, fun zo => ⟨preM c H, fun y => absurd z y, fun _ => ⟨fun _ => Fin_u H rfl, fun y => ?_⟩⟩⟩, fun z => ⟨preM c H, fun _ => Fin_u H rfl, fun y => absurd y z⟩⟩
  · have hk := z.2.2.1
    show S_X3_findReadings ((sth (sth (sth (sth c1 4 12 1) 4 13 fo) 4 14 (cif (c1 54 2 ≤ su) fo 6)) 4 15 0) 54 0) (sth (sth (sth (sth c1 4 12 1) 4 13 fo) 4 14 (cif (c1 54 2 ≤ su) fo 6)) 4 15 0) _
    generalize hc2 : sth (sth (sth (sth c1 4 12 1) 4 13 fo) 4 14 (cif (c1 54 2 ≤ su) fo 6)) 4 15 0 = c2
    have q1 : ∀ q, q ≠ 4 → c2 q = c1 q := fun q a => by rw [← hc2, sth_ne a, sth_ne a, sth_ne a, sth_ne a]
    have k12 : c2 4 12 = 1 := by rw [← hc2, sth_eq, us_n (by decide), sth_eq, us_n (by decide), sth_eq, us_n (by decide), sth_eq, us_s]
    have k13 : c2 4 13 = fo := by rw [← hc2, sth_eq, us_n (by decide), sth_eq, us_n (by decide), sth_eq, us_s]
    have k14 : c2 4 14 = cif (c1 54 2 ≤ su) fo 6 := by rw [← hc2, sth_eq, us_n (by decide), sth_eq, us_s]
    have k15 : c2 4 15 = 0 := by rw [← hc2, sth_eq, us_s]
    have d2 : ∀ q, q ≠ 25 → q ≠ 3 → q ≠ 4 → c2 q = c q := fun q a b d => by rw [q1 q d, p1 q a b]
    have d36 : c2 3 6 = c 3 6 := by rw [q1 3 (by decide), p2 6 (by decide)]
    have d37 : c2 3 7 = k := by rw [q1 3 (by decide), p3]
    have hV2 : VOK c2 := by unfold VOK; rw [d36, d2 20 (by decide) (by decide) (by decide), d2 21 (by decide) (by decide) (by decide), d2 22 (by decide) (by decide) (by decide), d2 23 (by decide) (by decide) (by decide), d2 24 (by decide) (by decide) (by decide)]; exact h4.1
    have hD2 : HRD c2 := by
      refine ⟨by rw [d37]; omega, fun j j0 j1 => ?_⟩
      rw [q1 25 (by decide)]
      by_cases e : j < k
      · rw [p4 j j0 e]; exact nib_15 _ _
      · rw [p5 j (by omega)]; exact (h4.2.2.2.2.2.2.2.2.2.2 j j0 j1).1
    refine ⟨R0, ⟨hV2, hD2, ⟨k15, by decide, fun i a b => by have : (R0.1 : Int) = 0 := rfl; omega⟩⟩, fun c3 f1 f2 => ?_⟩
    have hpr := prC_g hV2 hD2
    have hN : (((c2 3 6).toNat : Nat) : Int) = c 3 6 := by rw [d36]; have := h4.1.1; omega
    have hrok : rok (c 20) (c 3 6) (rl1 (c2 20) (prC c2) (c2 54 0) (c2 3 6).toNat (c2 3 6).toNat R0) := by
      have := rl1_ok (KD := c2 20) (pr := prC c2) (lim := c2 54 0) (N := (c2 3 6).toNat) hpr (R0_ok _ _) (k := (c2 3 6).toNat) (Nat.le_refl _)
      rw [hN, d2 20 (by decide) (by decide) (by decide)] at this
      rw [d2 20 (by decide) (by decide) (by decide)]
      exact this
    generalize hRd : rl1 (c2 20) (prC c2) (c2 54 0) (c2 3 6).toNat (c2 3 6).toNat R0 = R at *
    have g3 : ∀ q, q ≠ 26 → q ≠ 27 → q ≠ 28 → q ≠ 29 → q ≠ 4 → q ≠ 32 → q ≠ 33 → q ≠ 34 → q ≠ 35 → c3 q = c2 q := f1.1
    have g34 : ∀ i : Int, i ≠ 15 → c3 4 i = c2 4 i := f1.2
    have d3 : ∀ q, q ≠ 25 → q ≠ 3 → q ≠ 4 → q ≠ 26 → q ≠ 27 → q ≠ 28 → q ≠ 29 → q ≠ 32 → q ≠ 33 → q ≠ 34 → q ≠ 35 → c3 q = c q := fun q a1 a2 a3 a4 a5 a6 a7 a8 a9 a10 a11 => by rw [g3 q a4 a5 a6 a7 a3 a8 a9 a10 a11]; exact d2 q a1 a2 a3
    have e33 : c3 3 = c2 3 := g3 3 (by decide) (by decide) (by decide) (by decide) (by decide) (by decide) (by decide) (by decide) (by decide)
    have c3_1 : c3 1 = c 1 := d3 1 (by decide) (by decide) (by decide) (by decide) (by decide) (by decide) (by decide) (by decide) (by decide) (by decide) (by decide)
    have hH3 : HOK c3 := HOK_c (h := c) (by rw [c3_1]) (by rw [c3_1]) (d3 9 (by decide) (by decide) (by decide) (by decide) (by decide) (by decide) (by decide) (by decide) (by decide) (by decide) (by decide)) (d3 10 (by decide) (by decide) (by decide) (by decide) (by decide) (by decide) (by decide) (by decide) (by decide) (by decide) (by decide)) (d3 11 (by decide) (by decide) (by decide) (by decide) (by decide) (by decide) (by decide) (by decide) (by decide) (by decide) (by decide)) (d3 14 (by decide) (by decide) (by decide) (by decide) (by decide) (by decide) (by decide) (by decide) (by decide) (by decide) (by decide)) (d3 15 (by decide) (by decide) (by decide) (by decide) (by decide) (by decide) (by decide) (by decide) (by decide) (by decide) (by decide)) h1.1
    have c3_20 : c3 20 = c 20 := d3 20 (by decide) (by decide) (by decide) (by decide) (by decide) (by decide) (by decide) (by decide) (by decide) (by decide) (by decide)
    have hV3 : VOK c3 := by unfold VOK; rw [e33, d36, c3_20, d3 21 (by decide) (by decide) (by decide) (by decide) (by decide) (by decide) (by decide) (by decide) (by decide) (by decide) (by decide), d3 22 (by decide) (by decide) (by decide) (by decide) (by decide) (by decide) (by decide) (by decide) (by decide) (by decide) (by decide), d3 23 (by decide) (by decide) (by decide) (by decide) (by decide) (by decide) (by decide) (by decide) (by decide) (by decide) (by decide), d3 24 (by decide) (by decide) (by decide) (by decide) (by decide) (by decide) (by decide) (by decide) (by decide) (by decide) (by decide)]; exact h4.1
    have c3_30 : c3 30 = c 30 := d3 30 (by decide) (by decide) (by decide) (by decide) (by decide) (by decide) (by decide) (by decide) (by decide) (by decide) (by decide)
    have c3_31 : c3 31 = c 31 := d3 31 (by decide) (by decide) (by decide) (by decide) (by decide) (by decide) (by decide) (by decide) (by decide) (by decide) (by decide)
    have c3_5 : c3 5 = c 5 := d3 5 (by decide) (by decide) (by decide) (by decide) (by decide) (by decide) (by decide) (by decide) (by decide) (by decide) (by decide)
    have h12 := f2.2.1
    have hE3 : EOK c3 := by
      refine ⟨by rw [f2.1]; omega, by rw [g34 13 (by decide), k13]; exact z.1, fun i a b => by rw [c3_30, c3_31]; exact h5.1.2.2.1 i a b, fun i i0 i1 => ?_⟩
      rw [f2.1] at i1
      have pc := f2.2.2 i i0 i1
      rw [pc.2.1, pc.2.2.1, pc.2.2.2, e33, d36, c3_20]
      exact (hrok i i0 i1).2
    refine ⟨⟨hH3, hV3, hE3, by rw [c3_5]; exact h6.2.2.2.2.2.2.2.2⟩, fun c4 r1 r2 r3 => ?_⟩
    have c4_4 : c4 4 = c3 4 := r1 4 (by decide)
    have c4_54 : c4 54 = c 54 := by rw [r1 54 (by decide)]; exact d3 54 (by decide) (by decide) (by decide) (by decide) (by decide) (by decide) (by decide) (by decide) (by decide) (by decide) (by decide)
    have hb54 := h4.2.2.2.2.2.2.2.2.2.1
    refine ⟨⟨by rw [c4_4, f2.1]; omega, by rw [c4_54]; omega, fun i i0 i1 => ?_⟩, fun c5 s1 s2 s3 => ?_⟩
    · rw [c4_4, f2.1] at i1
      rw [r1 26 (by decide), (f2.2.2 i i0 i1).1]
      exact (hrok i i0 i1).1
    · rw [c4_4, f2.1] at s2 s3
      rw [f2.1, c3_5] at r2
      rw [f2.1] at r3
      have c5_4 : c5 4 = c3 4 := by rw [s1 4 (by decide), c4_4]
      have cq : ∀ q, q ≠ 25 → q ≠ 3 → q ≠ 4 → q ≠ 26 → q ≠ 27 → q ≠ 28 → q ≠ 29 → q ≠ 30 → q ≠ 31 → q ≠ 32 → q ≠ 33 → q ≠ 34 → q ≠ 35 → c5 q = c q := fun q a1 a2 a3 a4 a5 a6 a7 a8 a9 a10 a11 a12 a13 => by rw [s1 q a9, r1 q a8]; exact d3 q a1 a2 a3 a4 a5 a6 a7 a10 a11 a12 a13
      have c5s : ∀ q, q ≠ 30 → q ≠ 31 → c5 q = c3 q := fun q a1 a2 => by rw [s1 q a2, r1 q a1]
      have HM : Rel n c c5 := Rel_c H (fun _ _ => rfl) (fun q a => cq q (by omega) (by omega) (by omega) (by omega) (by omega) (by omega) (by omega) (by omega) (by omega) (by omega) (by omega) (by omega) (by omega))
      refine ⟨preM c5 HM, fun y => absurd z y, fun _ => ⟨fun y => absurd (by rw [HM.1.2.2.2.2.2.2.1]; have := hw fo z.1.1 (by have := z.1.2; omega); omega) y, fun _ m1 m' hl t1 t2 t3 t4 t5 => ?_⟩⟩
      obtain ⟨g, ⟨u1, u2, u3, u4, u5, u6, u7, u8⟩, v1, v2⟩ := hl
      have eg64 : g 64 = c2 20 := by rw [u1 64 (by decide) (by decide), HM.2.2.2.1.2.2.2.1, d2 20 (by decide) (by decide) (by decide)]
      have eg68 : g 68 0 = c2 54 0 := by rw [u1 68 (by decide) (by decide), HM.2.2.2.1.2.2.2.2.2.2.2.2.1, d2 54 (by decide) (by decide) (by decide)]
      have eg10 : g 55 10 = c2 3 6 := by rw [u2 10 (by decide) (by decide) (by decide) (by decide), HM.2.2.2.1.2.2.1, d36]
      have epr : prM g = prC c2 := by
        funext x y w
        unfold prM prC
        rw [u1 63 (by decide) (by decide), u1 66 (by decide) (by decide), u1 67 (by decide) (by decide), HM.2.2.2.1.2.2.2.2.2.2.2.1, HM.2.2.2.1.2.2.2.2.2.1, HM.2.2.2.1.2.2.2.2.2.2.1, u6, d37, d2 22 (by decide) (by decide) (by decide), d2 23 (by decide) (by decide) (by decide), d2 24 (by decide) (by decide) (by decide)]
        refine prR_H (fun i i0 i1 => ?_) x y w
        rw [u7 i i0 (by omega), q1 25 (by decide), p4 i i0 (by omega)]
      rw [eg64, epr, eg68, eg10, hRd] at v2
      have m55' : ∀ i : Int, m' 55 i = m1 55 i := fun i => by rw [t1 55 (by decide) (by decide)]
      have hm23 : m1 55 23 = (R.1 : Int) := v2.1
      rw [hm23] at t2 t3 t4 t5
      have mq' : ∀ q, q ≠ 55 → q ≠ 84 → q ≠ 72 → q ≠ 73 → q ≠ 83 → q ≠ 85 → q ≠ 74 → q ≠ 75 → m' q = c5 q := fun q a1 a2 a3 a4 a5 a6 a7 a8 => by rw [t1 q a7 a8, v1.1 q a3 a4 a5 a6 a1, u1 q a1 a2]
      have m155 : ∀ i : Int, i ≠ 23 → i ≠ 42 → m' 55 i = g 55 i := fun i a1 a2 => by rw [m55' i, v1.2 i a1 a2]
      have mrp : rpM m' R := rpM_c (m55' 23) (t1 72 (by decide) (by decide)) (t1 73 (by decide) (by decide)) v2
      have m84e : m' 84 = g 84 := by rw [t1 84 (by decide) (by decide), v1.1 84 (by decide) (by decide) (by decide) (by decide) (by decide)]
      refine Fin_m (c' := c5) (hr_end HM z hrok cq (fun i a => by rw [c5s 3 (by decide) (by decide), e33, q1 3 (by decide), p2 i a]) (fun j j0 j1 => by rw [c5s 25 (by decide) (by decide), g3 25 (by decide) (by decide) (by decide) (by decide) (by decide) (by decide) (by decide) (by decide) (by decide), q1 25 (by decide), p4 j j0 j1]) (fun j j0 => by rw [c5s 25 (by decide) (by decide), g3 25 (by decide) (by decide) (by decide) (by decide) (by decide) (by decide) (by decide) (by decide) (by decide), q1 25 (by decide), p5 j j0]) (by rw [c5_4, g34 12 (by decide), k12]) (by rw [c5_4, g34 13 (by decide), k13]) (by rw [c5_4, g34 14 (by decide), k14, p1 54 (by decide) (by decide)]) (rpC_c (by rw [c5_4]) (c5s 26 (by decide) (by decide)) (c5s 27 (by decide) (by decide)) (c5s 28 (by decide) (by decide)) (c5s 29 (by decide) (by decide)) f2) (fun i i0 i1 => ?_) (fun i i0 => by rw [s1 30 (by decide), r3 i i0, c3_30]) (fun i i0 i1 => ?_) (fun i i0 => by rw [s3 i i0, r1 31 (by decide), c3_31]) mq' (fun i a1 a2 a3 a4 a5 a6 => by rw [m155 i a5 a6, u2 i a1 a2 a3 a4]) (by rw [m155 20 (by decide) (by decide), u3]) (by rw [m155 21 (by decide) (by decide), u4]) (by rw [m155 22 (by decide) (by decide), u5]) (fun j j0 j1 => by rw [m84e, u7 j j0 j1]) (fun j j0 => by rw [m84e, u8 j j0]) mrp (fun i i0 i1 => ?_) (fun i i0 => ?_) (fun i i0 i1 => ?_) (fun i i0 => ?_)) ?_ (fun q a => mq' q (by omega) (by omega) (by omega) (by omega) (by omega) (by omega) (by omega) (by omega))
      · rw [s1 30 (by decide), r2 i i0 i1]
        unfold mnC
        rw [c5s 1 (by decide) (by decide), c5s 9 (by decide) (by decide), c5s 10 (by decide) (by decide), c5s 14 (by decide) (by decide), c5s 20 (by decide) (by decide), c5s 21 (by decide) (by decide), c5s 27 (by decide) (by decide), c5s 28 (by decide) (by decide), c5s 29 (by decide) (by decide), c5_4]
      · rw [s2 i i0 i1]
        refine b2i_c ?_
        unfold opC
        rw [s1 30 (by decide), s1 26 (by decide), s1 4 (by decide), c4_54]
      · rw [t2 i i0 i1]
        exact (mnX_c (m55' 0) (m55' 21) (m55' 28) (t1 _ (by decide) (by decide)) (t1 _ (by decide) (by decide)) (t1 _ (by decide) (by decide)) (t1 _ (by decide) (by decide)) (t1 _ (by decide) (by decide)) (t1 _ (by decide) (by decide)) i).symm
      · rw [t3 i i0, v1.1 74 (by decide) (by decide) (by decide) (by decide) (by decide), u1 74 (by decide) (by decide)]
      · exact t4 i i0 i1
      · rw [t5 i i0, v1.1 75 (by decide) (by decide) (by decide) (by decide) (by decide), u1 75 (by decide) (by decide)]
      · rw [hm23, c5_4]; exact f2.1
  · rw [h1.2.2.2.2.2.2.1, zo] at y
    exact absurd y (by decide)
