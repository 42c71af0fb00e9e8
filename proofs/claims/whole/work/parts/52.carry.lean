/-! a wish is carried out by the class -/
noncomputable def rwL (wk : Int → Int → List Int) (CH v : Int) : Nat → List Int
  | 0 => []
  | k + 1 => @ite _ (mem CH (k : Int)) (Classical.propDecidable _) (rwL wk CH v k ++ wk (k : Int) v) (rwL wk CH v k)
theorem rwL_t {wk : Int → Int → List Int} {CH v : Int} {k : Nat} (h : mem CH (k : Int)) : rwL wk CH v (k + 1) = rwL wk CH v k ++ wk (k : Int) v := if_pos h
theorem rwL_f {wk : Int → Int → List Int} {CH v : Int} {k : Nat} (h : ¬ mem CH (k : Int)) : rwL wk CH v (k + 1) = rwL wk CH v k := if_neg h
theorem rwL_l {wk : Int → Int → List Int} {CH v : Int} (hw : ∀ t v, (wk t v).length ≤ 8) : ∀ k : Nat, ((rwL wk CH v k).length : Int) ≤ 8 * cnt (mem CH) k
  | 0 => by show (0 : Int) ≤ 8 * 0; omega
  | k + 1 => by
    have ih := rwL_l (CH := CH) (v := v) hw k
    simp only [cnt]
    by_cases c : mem CH (k : Int)
    · rw [rwL_t c, List.length_append, b2i_t c]
      have := hw (k : Int) v
      omega
    · rw [rwL_f c, b2i_f c]; omega
theorem rwL_m {wk : Int → Int → List Int} {CH v N : Int} (hw : ∀ t v s, s ∈ wk t v → 0 ≤ s ∧ s < N) : ∀ (k : Nat) (s : Int), s ∈ rwL wk CH v k → 0 ≤ s ∧ s < N
  | 0, s, h => absurd h (by simp [rwL])
  | k + 1, s, h => by
    by_cases c : mem CH (k : Int)
    · rw [rwL_t c, List.mem_append] at h
      rcases h with h | h
      · exact rwL_m hw k s h
      · exact hw _ _ s h
    · rw [rwL_f c] at h
      exact rwL_m hw k s h
noncomputable def lgF (fo hr mt v : Int) (L : List LE) : Nat → List LE
  | 0 => L
  | k + 1 => @ite _ (mem mt (k : Int)) (Classical.propDecidable _) (adL (lgF fo hr mt v L k) (fo, hr / 24, hr % 24, (k : Int), v)) (lgF fo hr mt v L k)
theorem lgF_t {fo hr mt v : Int} {L : List LE} {k : Nat} (h : mem mt (k : Int)) : lgF fo hr mt v L (k + 1) = adL (lgF fo hr mt v L k) (fo, hr / 24, hr % 24, (k : Int), v) := if_pos h
theorem lgF_f {fo hr mt v : Int} {L : List LE} {k : Nat} (h : ¬ mem mt (k : Int)) : lgF fo hr mt v L (k + 1) = lgF fo hr mt v L k := if_neg h
theorem HOK_w {h g : HP} {t v : Int} (hH : HOK h) (ht : 0 ≤ t ∧ t < h 1 7) (hv : 0 ≤ v ∧ v ≤ 3) (h1 : ∀ i : Int, i ≠ 8 → g 1 i = h 1 i) (h8 : g 1 8 = wth (h 1 8) t v) (h9 : g 9 = h 9) (h10 : g 10 = h 10) (h11 : g 11 = h 11) (h14 : g 14 = h 14) (h15 : g 15 = h 15) : HOK g := by
  unfold HOK
  rw [h1 7 (by decide), h8, h9, h10, h11, h14, h15]
  refine ⟨hH.1, hH.2.1, inS_wth hv, fun u a b => ?_, hH.2.2.2.2⟩
  rw [dgt_wth hv (by have := hH.1; omega) b, if_neg (by omega)]
  exact hH.2.2.2.1 u a b
noncomputable def chC (h : HP) (mt v : Int) : Int := bset (fun t => t < h 1 7 ∧ mem mt t ∧ ¬ dgt (h 1 8) t = v) 10
theorem chC_m {h : HP} {mt v t : Int} (ht : 0 ≤ t) (h10 : h 1 7 ≤ 10) : mem (chC h mt v) t ↔ t < h 1 7 ∧ mem mt t ∧ ¬ dgt (h 1 8) t = v := by
  unfold chC
  rw [mem_bset ht]
  exact ⟨fun y => y.2, fun y => ⟨by have := y.1; omega, y⟩⟩
def mdC (mt v : Int) (L : List LE) (h g : HP) (k : Nat) : Prop :=
  (∀ q, q ≠ 1 → q ≠ 13 → q ≠ 36 → q ≠ 37 → q ≠ 5 → q ≠ 6 → q ≠ 43 → q ≠ 8 → q ≠ 48 → q ≠ 49 → q ≠ 50 → q ≠ 51 → q ≠ 52 → g q = h q) ∧ (∀ i : Int, i ≠ 8 → g 1 i = h 1 i) ∧ HOK g ∧ (∀ t : Int, 0 ≤ t → t < 10 → dgt (g 1 8) t = cif (t < (k : Int) ∧ mem (chC h mt v) t) v (dgt (h 1 8) t)) ∧ (∀ t : Int, 0 ≤ t → g 13 t = cif (t < (k : Int) ∧ mem (chC h mt v) t) (1000 + h 5 3) (h 13 t)) ∧ g 36 = us (h 36) (h 5 3) (chC h mt v) ∧ g 37 = us (h 37) (h 5 3) (h 1 8) ∧ g 5 3 = h 5 3 + 1 ∧ g 5 4 = mt ∧ (∀ i : Int, i ≠ 9 → g 6 i = h 6 i) ∧ g 6 9 = ((rwL (wkC h) (chC h mt v) v k).length : Int) ∧ rwH (g 43) (rwL (wkC h) (chC h mt v) v k) ∧ (∀ i : Int, i ≠ 6 → g 8 i = h 8 i) ∧ lgC g (lgF (h 4 13) (h 1 9) mt v L k)
theorem wkC_l {h : HP} (hS : 0 ≤ h 6 7 ∧ h 6 7 ≤ 8) (t v : Int) : (wkC h t v).length ≤ 8 := by
  have := wkP_l (fun s => h 39 s = t ∧ h 40 s = v) (h 6 7).toNat
  unfold wkC
  omega
theorem wkC_m {h : HP} (hS : 0 ≤ h 6 7 ∧ h 6 7 ≤ 8) (t v s : Int) (hs : s ∈ wkC h t v) : 0 ≤ s ∧ s < h 6 7 := by
  have := (wkP_m _ _ _ hs).1
  omega
/-- a step of the loop: change and rouse -/
theorem md_step {mt v : Int} {L : List LE} {h g : HP} {k : Nat} {K : HP → Prop} (hS : SOK h) (hv : 0 ≤ v ∧ v ≤ 3) (hk : k < 10) (ch : mem (chC h mt v) (k : Int)) (h10 : h 1 7 ≤ 10)
    (p1 : ∀ q, q ≠ 1 → q ≠ 13 → q ≠ 36 → q ≠ 37 → q ≠ 5 → q ≠ 6 → q ≠ 43 → q ≠ 8 → q ≠ 48 → q ≠ 49 → q ≠ 50 → q ≠ 51 → q ≠ 52 → g q = h q) (p2 : ∀ i : Int, i ≠ 8 → g 1 i = h 1 i) (p3 : HOK g) (p4 : ∀ t : Int, 0 ≤ t → t < 10 → dgt (g 1 8) t = cif (t < (k : Int) ∧ mem (chC h mt v) t) v (dgt (h 1 8) t)) (p5 : ∀ t : Int, 0 ≤ t → g 13 t = cif (t < (k : Int) ∧ mem (chC h mt v) t) (1000 + h 5 3) (h 13 t)) (p6 : g 36 = us (h 36) (h 5 3) (chC h mt v)) (p7 : g 37 = us (h 37) (h 5 3) (h 1 8)) (p8 : g 5 3 = h 5 3 + 1) (p9 : g 5 4 = mt) (p10 : ∀ i : Int, i ≠ 9 → g 6 i = h 6 i) (p11 : g 6 9 = ((rwL (wkC h) (chC h mt v) v k).length : Int)) (p12 : rwH (g 43) (rwL (wkC h) (chC h mt v) v k)) (p13 : ∀ i : Int, i ≠ 6 → g 8 i = h 8 i) (p14 : lgC g (lgF (h 4 13) (h 1 9) mt v L (k + 1)))
    (HK : ∀ g' : HP, mdC mt v L h g' (k + 1) → K g') : S_X4_change (k : Int) v (1000 + h 5 3) g (fun h1 => S_X6_rouse (k : Int) v h1 (fun h2 => K h2)) := by
  have hcm := (chC_m (h := h) (mt := mt) (v := v) (t := (k : Int)) (by omega) h10).mp ch
  have hS1 := hS.1
  have hrl := rwL_l (CH := chC h mt v) (v := v) (wkC_l hS1) k
  have hcb := cnt_b (mem (chC h mt v)) k
  refine ⟨⟨p3.2.2.1, by omega, hv⟩, by omega, ?_⟩
  have n6 : sth (sth g 1 8 (wth (g 1 8) (k : Int) v)) 13 (k : Int) (1000 + h 5 3) 6 = g 6 := by rw [sth_ne (by decide), sth_ne (by decide)]
  have n43 : sth (sth g 1 8 (wth (g 1 8) (k : Int) v)) 13 (k : Int) (1000 + h 5 3) 43 = g 43 := by rw [sth_ne (by decide), sth_ne (by decide)]
  have n39 : sth (sth g 1 8 (wth (g 1 8) (k : Int) v)) 13 (k : Int) (1000 + h 5 3) 39 = h 39 := by rw [sth_ne (by decide), sth_ne (by decide)]; exact p1 _ (by decide) (by decide) (by decide) (by decide) (by decide) (by decide) (by decide) (by decide) (by decide) (by decide) (by decide) (by decide) (by decide)
  have n40 : sth (sth g 1 8 (wth (g 1 8) (k : Int) v)) 13 (k : Int) (1000 + h 5 3) 40 = h 40 := by rw [sth_ne (by decide), sth_ne (by decide)]; exact p1 _ (by decide) (by decide) (by decide) (by decide) (by decide) (by decide) (by decide) (by decide) (by decide) (by decide) (by decide) (by decide) (by decide)
  refine ⟨rwL (wkC h) (chC h mt v) v k, ⟨by rw [n6, p10 7 (by decide)]; exact hS1, by rw [n6]; exact p11, by rw [n43]; exact p12, by omega⟩, fun h2 q1 q2 q3 q4 => HK h2 ?_⟩
  rw [n6, n39, n40, p10 7 (by decide)] at q3 q4
  have m1 : h2 1 = us (g 1) 8 (wth (g 1 8) (k : Int) v) := by rw [q1 1 (by decide) (by decide), sth_ne (by decide), sth_eq]
  have m13 : h2 13 = us (g 13) (k : Int) (1000 + h 5 3) := by rw [q1 13 (by decide) (by decide), sth_eq, sth_ne (by decide)]
  have mq : ∀ q, q ≠ 1 → q ≠ 13 → q ≠ 43 → q ≠ 6 → h2 q = g q := fun q a b c d => by rw [q1 q c d, sth_ne b, sth_ne a]
  have m18 : h2 1 8 = wth (g 1 8) (k : Int) v := by rw [m1, us_s]
  have m1i : ∀ i : Int, i ≠ 8 → h2 1 i = g 1 i := fun i a => by rw [m1, us_n a]
  refine ⟨fun q a1 a2 a3 a4 a5 a6 a7 a8 a9 a10 a11 a12 a13 => by rw [mq q a1 a2 a7 a6]; exact p1 q a1 a2 a3 a4 a5 a6 a7 a8 a9 a10 a11 a12 a13, fun i a => by rw [m1i i a]; exact p2 i a, HOK_w p3 (by rw [p2 7 (by decide)]; omega) hv m1i m18 (mq _ (by decide) (by decide) (by decide) (by decide)) (mq _ (by decide) (by decide) (by decide) (by decide)) (mq _ (by decide) (by decide) (by decide) (by decide)) (mq _ (by decide) (by decide) (by decide) (by decide)) (mq _ (by decide) (by decide) (by decide) (by decide)), fun t t0 t1 => ?_, fun t t0 => ?_, by rw [mq 36 (by decide) (by decide) (by decide) (by decide)]; exact p6, by rw [mq 37 (by decide) (by decide) (by decide) (by decide)]; exact p7, by rw [mq 5 (by decide) (by decide) (by decide) (by decide)]; exact p8, by rw [mq 5 (by decide) (by decide) (by decide) (by decide)]; exact p9, fun i a => by rw [q2 i a, n6]; exact p10 i a, ?_, ?_, fun i a => by rw [mq 8 (by decide) (by decide) (by decide) (by decide)]; exact p13 i a, ?_⟩
  · rw [m18, dgt_wth hv t0 t1]
    by_cases e : t = (k : Int)
    · subst e; rw [if_pos rfl, cif_t ⟨by omega, ch⟩]
    · rw [if_neg e, p4 t t0 t1]
      exact cif_c ⟨fun y => ⟨by omega, y.2⟩, fun y => ⟨by omega, y.2⟩⟩
  · rw [m13]
    by_cases e : t = (k : Int)
    · subst e; rw [us_s, cif_t ⟨by omega, ch⟩]
    · rw [us_n e, p5 t t0]
      exact cif_c ⟨fun y => ⟨by omega, y.2⟩, fun y => ⟨by omega, y.2⟩⟩
  · rw [rwL_t ch]; exact q3
  · rw [rwL_t ch]; exact q4
  · refine ⟨by rw [mq 8 (by decide) (by decide) (by decide) (by decide)]; exact p14.1, p14.2.1, fun i hi => ?_⟩
    rw [leC_c (h := g) (mq _ (by decide) (by decide) (by decide) (by decide)) (mq _ (by decide) (by decide) (by decide) (by decide)) (mq _ (by decide) (by decide) (by decide) (by decide)) (mq _ (by decide) (by decide) (by decide) (by decide)) (mq _ (by decide) (by decide) (by decide) (by decide))]
    exact p14.2.2 i hi
theorem cif_step {p : Int → Prop} {t a b : Int} {k : Nat} (h : ¬ p (k : Int)) : cif (t < ((k + 1 : Nat) : Int) ∧ p t) a b = cif (t < (k : Int) ∧ p t) a b :=
  cif_c ⟨fun y => ⟨by
    have h1 := y.1
    by_cases e : t = (k : Int)
    · subst e; exact absurd y.2 h
    · omega, y.2⟩, fun y => ⟨by have := y.1; omega, y.2⟩⟩
def S_X8_carryOut (mt v : Int) (h : HP) (K : Int → HP → Prop) : Prop := ∃ L : List LE, (HOK h ∧ SOK h ∧ (0 ≤ mt ∧ mt < 1024) ∧ (0 ≤ v ∧ v ≤ 3) ∧ (0 ≤ h 5 3 ∧ h 5 3 < 200) ∧ 0 ≤ h 1 9 ∧ lgC h L) ∧ ∀ g : HP, mdC mt v L h g 10 → S_X6_runRow (cnt (mem (chC h mt v)) 16) g (fun h' => K (chC h mt v) h')
set_option maxRecDepth 100000 in
set_option maxHeartbeats 4000000 in
theorem v_X8_carryOut (w : WD) (mt : Int) (v : Int) (h : HP) (K : Int → HP → Prop) 
    (I1 : Nat → Int → Int → Int → HP → Prop)
    (H : ((HOK h ∧ (0 ≤ mt ∧ mt < 1024)) ∧ (S_X0_add mt (bset (fun t => t < h 1 7 ∧ mem mt t ∧ ¬ dgt (h 1 8) t = v) 10) (h 1 8) h (fun r21 h21 => (S_X6_clearRow  h21 (fun h22 => (∃ m : Nat, I1 m (bset (fun t => t < h 1 7 ∧ mem mt t ∧ ¬ dgt (h 1 8) t = v) 10) r21 0 h22)))))))
    (H1 : ∀ (n1 : Nat) (x3 : Int) (x4 : Int) (x5 : Int) (g1 : HP), I1 n1 x3 x4 x5 g1 → ((10 ≤ x5 → ((0 ≤ x3 ∧ x3 < 65536) ∧ (S_X6_runRow (cnt (mem x3) 16) g1 (fun h23 => K x3 h23)))) ∧ (¬ 10 ≤ x5 → ((inB mt x5) ∧ ((¬ (mem mt x5) → ((inB x3 x5) ∧ ((¬ (mem x3 x5) → ((iR (x5 + 1)) ∧ (∃ m : Nat, m < n1 ∧ I1 m x3 x4 (x5 + 1) g1))) ∧ ((mem x3 x5) → ((iR (1000 + x4)) ∧ (S_X4_change x5 v (1000 + x4) g1 (fun h24 => (S_X6_rouse x5 v h24 (fun h25 => ((iR (x5 + 1)) ∧ (∃ m : Nat, m < n1 ∧ I1 m x3 x4 (x5 + 1) h25))))))))))) ∧ ((mem mt x5) → ((0 ≤ g1 1 9) ∧ ((0 ≤ g1 1 9) ∧ (S_X1_add (g1 4 13) (g1 1 9 / 24) (g1 1 9 % 24) x5 v g1 (fun h26 => ((inB x3 x5) ∧ ((¬ (mem x3 x5) → ((iR (x5 + 1)) ∧ (∃ m : Nat, m < n1 ∧ I1 m x3 x4 (x5 + 1) h26))) ∧ ((mem x3 x5) → ((iR (1000 + x4)) ∧ (S_X4_change x5 v (1000 + x4) h26 (fun h27 => (S_X6_rouse x5 v h27 (fun h28 => ((iR (x5 + 1)) ∧ (∃ m : Nat, m < n1 ∧ I1 m x3 x4 (x5 + 1) h28)))))))))))))))))))) :
    Ev w Y_X8_carryOut 0 [some (vR 0), some (vI mt), some (vI v), none, none, none] [] h (rI K) := by
  have L1 : ∀ (n1 : Nat) (x3 : Int) (x4 : Int) (x5 : Int) (g1 : HP), I1 n1 x3 x4 x5 g1 → Ev w Y_X8_carryOut 38 [some (vR 0), some (vI mt), some (vI v), some (vI x3), some (vI x4), some (vI x5)] [] g1 (rI K) := by
    intro n1
    induction n1 using Nat.strongRecOn with
    | ind n1 ih1 =>
      intro x3 x4 x5 g1 H
      have H := H1 n1 x3 x4 x5 g1 H
      refine e_iload (pc := 38) dX8_carryOut_38 rfl ?_
      refine e_bipush (pc := 40) dX8_carryOut_40 ⟨by decide, by decide⟩ (by decide) ?_
      refine e_icmp_ge (pc := 42) (tgt := 126) dX8_carryOut_42 (by decide) (fun c1 => ?_) (fun c1 => ?_)
      · have H := H.1 c1
        refine e_aload_n (pc := 126) dX8_carryOut_126 rfl rfl ?_
        refine e_getR (q := 0) (ci := 8) (k := 5) (y := 6) (C := RX8) (T := TX8) (N := 9) (pc := 127) dX8_carryOut_127 rfl rfl ev_in8 rfl ul_2_103 ⟨rfl, rfl⟩ rfl ?_
        refine e_iload_n (pc := 130) dX8_carryOut_130 rfl rfl ?_
        refine e_invS (pc := 131) (Y' := Y_J6_bitCount_0f7a4) (as := [vI x3]) (st := [vR 6]) (lv0 := [some (vI x3)]) dX8_carryOut_131 m_J6_bitCount_0f7a4 ul_4_14 ul_4_15 ⟨rfl, rfl⟩ rfl rfl rfl rfl rfl (c_J6_bitCount_0f7a4 w x3 g1 H.1) ?_
        rintro _ hz ⟨_, rfl, rfl, hh⟩
        rw [hh]
        show Ev w Y_X8_carryOut 134 [some (vR 0), some (vI mt), some (vI v), some (vI x3), some (vI x4), some (vI x5)] [vI (cnt (mem x3) 16), vR 6] g1 (rI K)
        have H := H.2
        refine e_invV (pc := 134) (Y' := Y_X6_runRow) (as := [vI (cnt (mem x3) 16)]) (st := []) (lv0 := [some (vR 6), some (vI (cnt (mem x3) 16)), none, none, none, none]) (q := 6) (ci := 6) (T := TX6) (N := 10) dX8_carryOut_134 m_X6_runRow ul_4_20 ⟨ul_4_21, ul_4_22⟩ ⟨rfl, rfl⟩ rfl rfl rfl rfl rfl rfl rfl (c_X6_runRow w (cnt (mem x3) 16) g1 _ H) ?_
        rintro _ h23 ⟨rfl, H⟩
        show Ev w Y_X8_carryOut 137 [some (vR 0), some (vI mt), some (vI v), some (vI x3), some (vI x4), some (vI x5)] [] h23 (rI K)
        refine e_iload_n (pc := 137) dX8_carryOut_137 rfl rfl ?_
        exact e_ret (pc := 138) (v := some (vI x3)) dX8_carryOut_138 rfl trivial ⟨_, rfl, H⟩
      · have H := H.2 c1
        refine e_iload_n (pc := 45) dX8_carryOut_45 rfl rfl ?_
        refine e_iload (pc := 46) dX8_carryOut_46 rfl ?_
        refine e_invS (pc := 48) (Y' := Y_X8_isIn) (as := [vI mt, vI x5]) (st := []) (lv0 := [some (vI mt), some (vI x5)]) dX8_carryOut_48 m_X8_isIn ul_3_142 ul_3_102 ⟨rfl, rfl⟩ rfl rfl rfl rfl rfl (c_X8_isIn w mt x5 g1 H.1) ?_
        rintro _ hz ⟨_, rfl, rfl, hh⟩
        rw [hh]
        show Ev w Y_X8_carryOut 51 [some (vR 0), some (vI mt), some (vI v), some (vI x3), some (vI x4), some (vI x5)] [vI (b2i (mem mt x5))] g1 (rI K)
        have H := H.2
        refine e_ifb_eq (pc := 51) (tgt := 85) dX8_carryOut_51 (by decide) (fun c2 => ?_) (fun c2 => ?_)
        · have H := H.1 c2
          refine e_iload_n (pc := 85) dX8_carryOut_85 rfl rfl ?_
          refine e_iload (pc := 86) dX8_carryOut_86 rfl ?_
          refine e_invS (pc := 88) (Y' := Y_X8_isIn) (as := [vI x3, vI x5]) (st := []) (lv0 := [some (vI x3), some (vI x5)]) dX8_carryOut_88 m_X8_isIn ul_3_142 ul_3_102 ⟨rfl, rfl⟩ rfl rfl rfl rfl rfl (c_X8_isIn w x3 x5 g1 H.1) ?_
          rintro _ hz ⟨_, rfl, rfl, hh⟩
          rw [hh]
          show Ev w Y_X8_carryOut 91 [some (vR 0), some (vI mt), some (vI v), some (vI x3), some (vI x4), some (vI x5)] [vI (b2i (mem x3 x5))] g1 (rI K)
          have H := H.2
          refine e_ifb_eq (pc := 91) (tgt := 120) dX8_carryOut_91 (by decide) (fun c3 => ?_) (fun c3 => ?_)
          · have H := H.1 c3
            refine e_iinc (lv' := [some (vR 0), some (vI mt), some (vI v), some (vI x3), some (vI x4), some (vI (x5 + 1))]) (pc := 120) dX8_carryOut_120 rfl H.1 rfl rfl ?_
            have H := H.2
            refine e_goto (pc := 123) (tgt := 38) dX8_carryOut_123 (by decide) ?_
            obtain ⟨m, hm, H⟩ := H
            exact ih1 m hm _ _ _ _ H
          · have H := H.2 c3
            refine e_aload_n (pc := 94) dX8_carryOut_94 rfl rfl ?_
            refine e_getR (q := 0) (ci := 8) (k := 0) (y := 1) (C := RX8) (T := TX8) (N := 9) (pc := 95) dX8_carryOut_95 rfl rfl ev_in8 rfl ul_2_98 ⟨rfl, rfl⟩ rfl ?_
            refine e_iload (pc := 98) dX8_carryOut_98 rfl ?_
            refine e_iload_n (pc := 100) dX8_carryOut_100 rfl rfl ?_
            refine e_sipush (pc := 101) dX8_carryOut_101 ⟨by decide, by decide⟩ (by decide) ?_
            refine e_iload (pc := 104) dX8_carryOut_104 rfl ?_
            refine e_iadd (pc := 106) dX8_carryOut_106 H.1 ?_
            have H := H.2
            refine e_invV (pc := 107) (Y' := Y_X4_change) (as := [vI x5, vI v, vI (1000 + x4)]) (st := []) (lv0 := [some (vR 1), some (vI x5), some (vI v), some (vI (1000 + x4))]) (q := 1) (ci := 4) (T := TX4) (N := 10) dX8_carryOut_107 m_X4_change ul_4_1 ⟨ul_4_2, ul_4_3⟩ ⟨rfl, rfl⟩ rfl rfl rfl rfl rfl rfl rfl (c_X4_change w x5 v (1000 + x4) g1 _ H) ?_
            rintro _ h24 ⟨rfl, H⟩
            show Ev w Y_X8_carryOut 110 [some (vR 0), some (vI mt), some (vI v), some (vI x3), some (vI x4), some (vI x5)] [] h24 (rI K)
            refine e_aload_n (pc := 110) dX8_carryOut_110 rfl rfl ?_
            refine e_getR (q := 0) (ci := 8) (k := 5) (y := 6) (C := RX8) (T := TX8) (N := 9) (pc := 111) dX8_carryOut_111 rfl rfl ev_in8 rfl ul_2_103 ⟨rfl, rfl⟩ rfl ?_
            refine e_iload (pc := 114) dX8_carryOut_114 rfl ?_
            refine e_iload_n (pc := 116) dX8_carryOut_116 rfl rfl ?_
            refine e_invV (pc := 117) (Y' := Y_X6_rouse) (as := [vI x5, vI v]) (st := []) (lv0 := [some (vR 6), some (vI x5), some (vI v), none]) (q := 6) (ci := 6) (T := TX6) (N := 10) dX8_carryOut_117 m_X6_rouse ul_4_6 ⟨ul_4_7, ul_4_8⟩ ⟨rfl, rfl⟩ rfl rfl rfl rfl rfl rfl rfl (c_X6_rouse w x5 v h24 _ H) ?_
            rintro _ h25 ⟨rfl, H⟩
            show Ev w Y_X8_carryOut 120 [some (vR 0), some (vI mt), some (vI v), some (vI x3), some (vI x4), some (vI x5)] [] h25 (rI K)
            refine e_iinc (lv' := [some (vR 0), some (vI mt), some (vI v), some (vI x3), some (vI x4), some (vI (x5 + 1))]) (pc := 120) dX8_carryOut_120 rfl H.1 rfl rfl ?_
            have H := H.2
            refine e_goto (pc := 123) (tgt := 38) dX8_carryOut_123 (by decide) ?_
            obtain ⟨m, hm, H⟩ := H
            exact ih1 m hm _ _ _ _ H
        · have H := H.2 c2
          refine e_aload_n (pc := 54) dX8_carryOut_54 rfl rfl ?_
          refine e_getR (q := 0) (ci := 8) (k := 7) (y := 8) (C := RX8) (T := TX8) (N := 9) (pc := 55) dX8_carryOut_55 rfl rfl ev_in8 rfl ul_2_105 ⟨rfl, rfl⟩ rfl ?_
          refine e_aload_n (pc := 58) dX8_carryOut_58 rfl rfl ?_
          refine e_getR (q := 0) (ci := 8) (k := 3) (y := 4) (C := RX8) (T := TX8) (N := 9) (pc := 59) dX8_carryOut_59 rfl rfl ev_in8 rfl ul_2_101 ⟨rfl, rfl⟩ rfl ?_
          refine e_getI (q := 4) (ci := 3) (k := 13) (kz := 13) (C := RX3) (T := TX3) (N := 16) (x := (g1 4 13)) (pc := 62) dX8_carryOut_62 rfl rfl rfl ev_in3 rfl ul_1_168 ⟨rfl, by decide⟩ rfl ?_
          refine e_aload_n (pc := 65) dX8_carryOut_65 rfl rfl ?_
          refine e_getR (q := 0) (ci := 8) (k := 0) (y := 1) (C := RX8) (T := TX8) (N := 9) (pc := 66) dX8_carryOut_66 rfl rfl ev_in8 rfl ul_2_98 ⟨rfl, rfl⟩ rfl ?_
          refine e_invV (pc := 69) (Y' := Y_X4_day) (as := []) (st := [vI (g1 4 13), vR 8]) (lv0 := [some (vR 1)]) (q := 1) (ci := 4) (T := TX4) (N := 10) dX8_carryOut_69 m_X4_day ul_3_222 ⟨ul_3_223, ul_3_224⟩ ⟨rfl, rfl⟩ rfl rfl rfl rfl rfl rfl rfl (c_X4_day w g1 H.1) ?_
          rintro _ hz ⟨_, rfl, rfl, hh⟩
          rw [hh]
          show Ev w Y_X8_carryOut 72 [some (vR 0), some (vI mt), some (vI v), some (vI x3), some (vI x4), some (vI x5)] [vI (g1 1 9 / 24), vI (g1 4 13), vR 8] g1 (rI K)
          have H := H.2
          refine e_aload_n (pc := 72) dX8_carryOut_72 rfl rfl ?_
          refine e_getR (q := 0) (ci := 8) (k := 0) (y := 1) (C := RX8) (T := TX8) (N := 9) (pc := 73) dX8_carryOut_73 rfl rfl ev_in8 rfl ul_2_98 ⟨rfl, rfl⟩ rfl ?_
          refine e_invV (pc := 76) (Y' := Y_X4_hourOfDay) (as := []) (st := [vI (g1 1 9 / 24), vI (g1 4 13), vR 8]) (lv0 := [some (vR 1)]) (q := 1) (ci := 4) (T := TX4) (N := 10) dX8_carryOut_76 m_X4_hourOfDay ul_3_190 ⟨ul_3_191, ul_3_192⟩ ⟨rfl, rfl⟩ rfl rfl rfl rfl rfl rfl rfl (c_X4_hourOfDay w g1 H.1) ?_
          rintro _ hz ⟨_, rfl, rfl, hh⟩
          rw [hh]
          show Ev w Y_X8_carryOut 79 [some (vR 0), some (vI mt), some (vI v), some (vI x3), some (vI x4), some (vI x5)] [vI (g1 1 9 % 24), vI (g1 1 9 / 24), vI (g1 4 13), vR 8] g1 (rI K)
          have H := H.2
          refine e_iload (pc := 79) dX8_carryOut_79 rfl ?_
          refine e_iload_n (pc := 81) dX8_carryOut_81 rfl rfl ?_
          refine e_invV (pc := 82) (Y' := Y_X1_add) (as := [vI (g1 4 13), vI (g1 1 9 / 24), vI (g1 1 9 % 24), vI x5, vI v]) (st := []) (lv0 := [some (vR 8), some (vI (g1 4 13)), some (vI (g1 1 9 / 24)), some (vI (g1 1 9 % 24)), some (vI x5), some (vI v)]) (q := 8) (ci := 1) (T := TX1) (N := 8) dX8_carryOut_82 m_X1_add ul_3_229 ⟨ul_3_230, ul_3_231⟩ ⟨rfl, rfl⟩ rfl rfl rfl rfl rfl rfl rfl (c_X1_add w (g1 4 13) (g1 1 9 / 24) (g1 1 9 % 24) x5 v g1 _ H) ?_
          rintro _ h26 ⟨rfl, H⟩
          show Ev w Y_X8_carryOut 85 [some (vR 0), some (vI mt), some (vI v), some (vI x3), some (vI x4), some (vI x5)] [] h26 (rI K)
          refine e_iload_n (pc := 85) dX8_carryOut_85 rfl rfl ?_
          refine e_iload (pc := 86) dX8_carryOut_86 rfl ?_
          refine e_invS (pc := 88) (Y' := Y_X8_isIn) (as := [vI x3, vI x5]) (st := []) (lv0 := [some (vI x3), some (vI x5)]) dX8_carryOut_88 m_X8_isIn ul_3_142 ul_3_102 ⟨rfl, rfl⟩ rfl rfl rfl rfl rfl (c_X8_isIn w x3 x5 h26 H.1) ?_
          rintro _ hz ⟨_, rfl, rfl, hh⟩
          rw [hh]
          show Ev w Y_X8_carryOut 91 [some (vR 0), some (vI mt), some (vI v), some (vI x3), some (vI x4), some (vI x5)] [vI (b2i (mem x3 x5))] h26 (rI K)
          have H := H.2
          refine e_ifb_eq (pc := 91) (tgt := 120) dX8_carryOut_91 (by decide) (fun c4 => ?_) (fun c4 => ?_)
          · have H := H.1 c4
            refine e_iinc (lv' := [some (vR 0), some (vI mt), some (vI v), some (vI x3), some (vI x4), some (vI (x5 + 1))]) (pc := 120) dX8_carryOut_120 rfl H.1 rfl rfl ?_
            have H := H.2
            refine e_goto (pc := 123) (tgt := 38) dX8_carryOut_123 (by decide) ?_
            obtain ⟨m, hm, H⟩ := H
            exact ih1 m hm _ _ _ _ H
          · have H := H.2 c4
            refine e_aload_n (pc := 94) dX8_carryOut_94 rfl rfl ?_
            refine e_getR (q := 0) (ci := 8) (k := 0) (y := 1) (C := RX8) (T := TX8) (N := 9) (pc := 95) dX8_carryOut_95 rfl rfl ev_in8 rfl ul_2_98 ⟨rfl, rfl⟩ rfl ?_
            refine e_iload (pc := 98) dX8_carryOut_98 rfl ?_
            refine e_iload_n (pc := 100) dX8_carryOut_100 rfl rfl ?_
            refine e_sipush (pc := 101) dX8_carryOut_101 ⟨by decide, by decide⟩ (by decide) ?_
            refine e_iload (pc := 104) dX8_carryOut_104 rfl ?_
            refine e_iadd (pc := 106) dX8_carryOut_106 H.1 ?_
            have H := H.2
            refine e_invV (pc := 107) (Y' := Y_X4_change) (as := [vI x5, vI v, vI (1000 + x4)]) (st := []) (lv0 := [some (vR 1), some (vI x5), some (vI v), some (vI (1000 + x4))]) (q := 1) (ci := 4) (T := TX4) (N := 10) dX8_carryOut_107 m_X4_change ul_4_1 ⟨ul_4_2, ul_4_3⟩ ⟨rfl, rfl⟩ rfl rfl rfl rfl rfl rfl rfl (c_X4_change w x5 v (1000 + x4) h26 _ H) ?_
            rintro _ h27 ⟨rfl, H⟩
            show Ev w Y_X8_carryOut 110 [some (vR 0), some (vI mt), some (vI v), some (vI x3), some (vI x4), some (vI x5)] [] h27 (rI K)
            refine e_aload_n (pc := 110) dX8_carryOut_110 rfl rfl ?_
            refine e_getR (q := 0) (ci := 8) (k := 5) (y := 6) (C := RX8) (T := TX8) (N := 9) (pc := 111) dX8_carryOut_111 rfl rfl ev_in8 rfl ul_2_103 ⟨rfl, rfl⟩ rfl ?_
            refine e_iload (pc := 114) dX8_carryOut_114 rfl ?_
            refine e_iload_n (pc := 116) dX8_carryOut_116 rfl rfl ?_
            refine e_invV (pc := 117) (Y' := Y_X6_rouse) (as := [vI x5, vI v]) (st := []) (lv0 := [some (vR 6), some (vI x5), some (vI v), none]) (q := 6) (ci := 6) (T := TX6) (N := 10) dX8_carryOut_117 m_X6_rouse ul_4_6 ⟨ul_4_7, ul_4_8⟩ ⟨rfl, rfl⟩ rfl rfl rfl rfl rfl rfl rfl (c_X6_rouse w x5 v h27 _ H) ?_
            rintro _ h28 ⟨rfl, H⟩
            show Ev w Y_X8_carryOut 120 [some (vR 0), some (vI mt), some (vI v), some (vI x3), some (vI x4), some (vI x5)] [] h28 (rI K)
            refine e_iinc (lv' := [some (vR 0), some (vI mt), some (vI v), some (vI x3), some (vI x4), some (vI (x5 + 1))]) (pc := 120) dX8_carryOut_120 rfl H.1 rfl rfl ?_
            have H := H.2
            refine e_goto (pc := 123) (tgt := 38) dX8_carryOut_123 (by decide) ?_
            obtain ⟨m, hm, H⟩ := H
            exact ih1 m hm _ _ _ _ H
  refine e_aload_n (pc := 0) dX8_carryOut_0 rfl rfl ?_
  refine e_getR (q := 0) (ci := 8) (k := 0) (y := 1) (C := RX8) (T := TX8) (N := 9) (pc := 1) dX8_carryOut_1 rfl rfl ev_in8 rfl ul_2_98 ⟨rfl, rfl⟩ rfl ?_
  refine e_iload_n (pc := 4) dX8_carryOut_4 rfl rfl ?_
  refine e_iload_n (pc := 5) dX8_carryOut_5 rfl rfl ?_
  refine e_invV (pc := 6) (Y' := Y_X4_thingsUnlike) (as := [vI mt, vI v]) (st := []) (lv0 := [some (vR 1), some (vI mt), some (vI v), none, none]) (q := 1) (ci := 4) (T := TX4) (N := 10) dX8_carryOut_6 m_X4_thingsUnlike ul_3_209 ⟨ul_3_210, ul_3_211⟩ ⟨rfl, rfl⟩ rfl rfl rfl rfl rfl rfl rfl (c_X4_thingsUnlike w mt v h H.1) ?_
  rintro _ hz ⟨_, rfl, rfl, hh⟩
  rw [hh]
  show Ev w Y_X8_carryOut 9 [some (vR 0), some (vI mt), some (vI v), none, none, none] [vI (bset (fun t => t < h 1 7 ∧ mem mt t ∧ ¬ dgt (h 1 8) t = v) 10)] h (rI K)
  have H := H.2
  refine e_istore_n (lv' := [some (vR 0), some (vI mt), some (vI v), some (vI (bset (fun t => t < h 1 7 ∧ mem mt t ∧ ¬ dgt (h 1 8) t = v) 10)), none, none]) (pc := 9) dX8_carryOut_9 rfl rfl rfl ?_
  refine e_aload_n (pc := 10) dX8_carryOut_10 rfl rfl ?_
  refine e_getR (q := 0) (ci := 8) (k := 4) (y := 5) (C := RX8) (T := TX8) (N := 9) (pc := 11) dX8_carryOut_11 rfl rfl ev_in8 rfl ul_2_102 ⟨rfl, rfl⟩ rfl ?_
  refine e_iload_n (pc := 14) dX8_carryOut_14 rfl rfl ?_
  refine e_iload_n (pc := 15) dX8_carryOut_15 rfl rfl ?_
  refine e_aload_n (pc := 16) dX8_carryOut_16 rfl rfl ?_
  refine e_getR (q := 0) (ci := 8) (k := 0) (y := 1) (C := RX8) (T := TX8) (N := 9) (pc := 17) dX8_carryOut_17 rfl rfl ev_in8 rfl ul_2_98 ⟨rfl, rfl⟩ rfl ?_
  refine e_getI (q := 1) (ci := 4) (k := 8) (kz := 8) (C := RX4) (T := TX4) (N := 10) (x := (h 1 8)) (pc := 20) dX8_carryOut_20 rfl rfl rfl ev_in4 rfl ul_1_50 ⟨rfl, by decide⟩ rfl ?_
  refine e_invV (pc := 23) (Y' := Y_X0_add) (as := [vI mt, vI (bset (fun t => t < h 1 7 ∧ mem mt t ∧ ¬ dgt (h 1 8) t = v) 10), vI (h 1 8)]) (st := []) (lv0 := [some (vR 5), some (vI mt), some (vI (bset (fun t => t < h 1 7 ∧ mem mt t ∧ ¬ dgt (h 1 8) t = v) 10)), some (vI (h 1 8))]) (q := 5) (ci := 0) (T := TX0) (N := 5) dX8_carryOut_23 m_X0_add ul_3_214 ⟨ul_3_215, ul_3_216⟩ ⟨rfl, rfl⟩ rfl rfl rfl rfl rfl rfl rfl (c_X0_add w mt (bset (fun t => t < h 1 7 ∧ mem mt t ∧ ¬ dgt (h 1 8) t = v) 10) (h 1 8) h _ H) ?_
  rintro _ h21 ⟨r21, rfl, H⟩
  show Ev w Y_X8_carryOut 26 [some (vR 0), some (vI mt), some (vI v), some (vI (bset (fun t => t < h 1 7 ∧ mem mt t ∧ ¬ dgt (h 1 8) t = v) 10)), none, none] [vI r21] h21 (rI K)
  refine e_istore (lv' := [some (vR 0), some (vI mt), some (vI v), some (vI (bset (fun t => t < h 1 7 ∧ mem mt t ∧ ¬ dgt (h 1 8) t = v) 10)), some (vI r21), none]) (pc := 26) dX8_carryOut_26 rfl rfl ?_
  refine e_aload_n (pc := 28) dX8_carryOut_28 rfl rfl ?_
  refine e_getR (q := 0) (ci := 8) (k := 5) (y := 6) (C := RX8) (T := TX8) (N := 9) (pc := 29) dX8_carryOut_29 rfl rfl ev_in8 rfl ul_2_103 ⟨rfl, rfl⟩ rfl ?_
  refine e_invV (pc := 32) (Y' := Y_X6_clearRow) (as := []) (st := []) (lv0 := [some (vR 6)]) (q := 6) (ci := 6) (T := TX6) (N := 10) dX8_carryOut_32 m_X6_clearRow ul_3_218 ⟨ul_3_219, ul_3_220⟩ ⟨rfl, rfl⟩ rfl rfl rfl rfl rfl rfl rfl (c_X6_clearRow w h21 _ H) ?_
  rintro _ h22 ⟨rfl, H⟩
  show Ev w Y_X8_carryOut 35 [some (vR 0), some (vI mt), some (vI v), some (vI (bset (fun t => t < h 1 7 ∧ mem mt t ∧ ¬ dgt (h 1 8) t = v) 10)), some (vI r21), none] [] h22 (rI K)
  refine e_iconst (pc := 35) dX8_carryOut_35 ⟨by decide, by decide⟩ ?_
  refine e_istore (lv' := [some (vR 0), some (vI mt), some (vI v), some (vI (bset (fun t => t < h 1 7 ∧ mem mt t ∧ ¬ dgt (h 1 8) t = v) 10)), some (vI r21), some (vI 0)]) (pc := 36) dX8_carryOut_36 rfl rfl ?_
  obtain ⟨m, H⟩ := H
  exact L1 m _ _ _ _ H
set_option maxRecDepth 100000 in
set_option maxHeartbeats 4000000 in
theorem c_X8_carryOut (w : WD) (mt : Int) (v : Int) (h : HP) (K : Int → HP → Prop)  (H : S_X8_carryOut mt v h K) : Ev w Y_X8_carryOut 0 [some (vR 0), some (vI mt), some (vI v), none, none, none] [] h (rI K) := by
  obtain ⟨L, ⟨hH, hS, hmt, hv, h5, h9, hL⟩, HK⟩ := H
  have h10 := hH.1
  have hcb : 0 ≤ chC h mt v ∧ chC h mt v < 1024 := bset_b _ (n := 10)
  refine v_X8_carryOut w mt v h K (fun n x3 x4 x5 g => x3 = chC h mt v ∧ x4 = h 5 3 ∧ ∃ k : Nat, x5 = (k : Int) ∧ k ≤ 10 ∧ n = 10 - k ∧ mdC mt v L h g k) ⟨⟨hH, hmt⟩, h5, h5, ⟨by omega, by omega⟩, ⟨by omega, by omega⟩, 10, rfl, by omega, 0, rfl, by omega, rfl, ?_⟩ ?_
  · have eq : ∀ q, q ≠ 36 → q ≠ 37 → q ≠ 5 → q ≠ 6 → sth (sth (sth (sth (sth h 36 (h 5 3) (chC h mt v)) 37 (h 5 3) (h 1 8)) 5 4 mt) 5 3 (h 5 3 + 1)) 6 9 0 q = h q := fun q a b c d => by rw [sth_ne d, sth_ne c, sth_ne c, sth_ne b, sth_ne a]
    show mdC mt v L h (sth (sth (sth (sth (sth h 36 (h 5 3) (chC h mt v)) 37 (h 5 3) (h 1 8)) 5 4 mt) 5 3 (h 5 3 + 1)) 6 9 0) 0
    refine ⟨fun q a1 a2 a3 a4 a5 a6 a7 a8 a9 a10 a11 a12 a13 => eq q a3 a4 a5 a6, fun i a => by rw [eq 1 (by decide) (by decide) (by decide) (by decide)], HOK_c (by rw [eq 1 (by decide) (by decide) (by decide) (by decide)]) (by rw [eq 1 (by decide) (by decide) (by decide) (by decide)]) (eq _ (by decide) (by decide) (by decide) (by decide)) (eq _ (by decide) (by decide) (by decide) (by decide)) (eq _ (by decide) (by decide) (by decide) (by decide)) (eq _ (by decide) (by decide) (by decide) (by decide)) (eq _ (by decide) (by decide) (by decide) (by decide)) hH, fun t t0 t1 => ?_, fun t t0 => ?_, ?_, ?_, ?_, ?_, fun i a => ?_, ?_, fun i a => absurd a (by simp [rwL]), fun i a => by rw [eq 8 (by decide) (by decide) (by decide) (by decide)], ?_⟩
    · rw [eq 1 (by decide) (by decide) (by decide) (by decide), cif_f (by omega)]
    · rw [eq 13 (by decide) (by decide) (by decide) (by decide), cif_f (by omega)]
    · rw [sth_ne (by decide), sth_ne (by decide), sth_ne (by decide), sth_ne (by decide), sth_eq]
    · rw [sth_ne (by decide), sth_ne (by decide), sth_ne (by decide), sth_eq, sth_ne (by decide)]
    · rw [sth_ne (by decide), sth_eq, us_s]
    · rw [sth_ne (by decide), sth_eq, us_n (by decide), sth_eq, us_s]
    · rw [sth_eq, us_n a, sth_ne (by decide), sth_ne (by decide), sth_ne (by decide), sth_ne (by decide)]
    · rw [sth_eq, us_s]; rfl
    · refine ⟨by rw [eq 8 (by decide) (by decide) (by decide) (by decide)]; exact hL.1, hL.2.1, fun i hi => ?_⟩
      rw [leC_c (h := h) (eq _ (by decide) (by decide) (by decide) (by decide)) (eq _ (by decide) (by decide) (by decide) (by decide)) (eq _ (by decide) (by decide) (by decide) (by decide)) (eq _ (by decide) (by decide) (by decide) (by decide)) (eq _ (by decide) (by decide) (by decide) (by decide))]
      exact hL.2.2 i hi
  · rintro n x3 x4 x5 g ⟨rfl, rfl, k, rfl, hk, rfl, hmd⟩
    refine ⟨fun c => ⟨⟨hcb.1, by omega⟩, ?_⟩, fun c => ⟨⟨⟨hmt.1, by omega⟩, by omega, by omega⟩, fun z => ?_, fun z => ?_⟩⟩
    · have e : k = 10 := by omega
      subst e
      exact HK g hmd
    · have zc : ¬ mem (chC h mt v) (k : Int) := fun y => z ((chC_m (by omega) (by omega)).mp y).2.1
      refine ⟨⟨⟨hcb.1, by omega⟩, by omega, by omega⟩, fun _ => ⟨⟨by omega, by omega⟩, 10 - (k + 1), by omega, rfl, rfl, k + 1, by omega, by omega, rfl, ?_⟩, fun y => absurd y zc⟩
      obtain ⟨p1, p2, p3, p4, p5, p6, p7, p8, p9, p10, p11, p12, p13, p14⟩ := hmd
      exact ⟨p1, p2, p3, fun t t0 t1 => by rw [p4 t t0 t1, cif_step zc], fun t t0 => by rw [p5 t t0, cif_step zc], p6, p7, p8, p9, p10, by rw [rwL_f zc]; exact p11, by rw [rwL_f zc]; exact p12, p13, by rw [lgF_f z]; exact p14⟩
    · obtain ⟨p1, p2, p3, p4, p5, p6, p7, p8, p9, p10, p11, p12, p13, p14⟩ := hmd
      have e4 : g 4 = h 4 := p1 _ (by decide) (by decide) (by decide) (by decide) (by decide) (by decide) (by decide) (by decide) (by decide) (by decide) (by decide) (by decide) (by decide)
      have g9 : 0 ≤ g 1 9 := by rw [p2 9 (by decide)]; exact h9
      refine ⟨g9, g9, add_c p14 (fun g2 f1 f2 f3 => ?_)⟩
      rw [e4, p2 9 (by decide), ← lgF_t z] at f3
      have fq : ∀ q, q ≠ 48 → q ≠ 49 → q ≠ 50 → q ≠ 51 → q ≠ 52 → q ≠ 8 → g2 q = g q := f1
      have e1 : g2 1 = g 1 := fq _ (by decide) (by decide) (by decide) (by decide) (by decide) (by decide)
      have e13 : g2 13 = g 13 := fq _ (by decide) (by decide) (by decide) (by decide) (by decide) (by decide)
      have e5 : g2 5 = g 5 := fq _ (by decide) (by decide) (by decide) (by decide) (by decide) (by decide)
      have e6 : g2 6 = g 6 := fq _ (by decide) (by decide) (by decide) (by decide) (by decide) (by decide)
      have e43 : g2 43 = g 43 := fq _ (by decide) (by decide) (by decide) (by decide) (by decide) (by decide)
      have e36 : g2 36 = g 36 := fq _ (by decide) (by decide) (by decide) (by decide) (by decide) (by decide)
      have e37 : g2 37 = g 37 := fq _ (by decide) (by decide) (by decide) (by decide) (by decide) (by decide)
      have r1 : ∀ q, q ≠ 1 → q ≠ 13 → q ≠ 36 → q ≠ 37 → q ≠ 5 → q ≠ 6 → q ≠ 43 → q ≠ 8 → q ≠ 48 → q ≠ 49 → q ≠ 50 → q ≠ 51 → q ≠ 52 → g2 q = h q := fun q a1 a2 a3 a4 a5 a6 a7 a8 a9 a10 a11 a12 a13 => by rw [fq q a9 a10 a11 a12 a13 a8]; exact p1 q a1 a2 a3 a4 a5 a6 a7 a8 a9 a10 a11 a12 a13
      have r3 : HOK g2 := HOK_c (by rw [e1]) (by rw [e1]) (fq _ (by decide) (by decide) (by decide) (by decide) (by decide) (by decide)) (fq _ (by decide) (by decide) (by decide) (by decide) (by decide) (by decide)) (fq _ (by decide) (by decide) (by decide) (by decide) (by decide) (by decide)) (fq _ (by decide) (by decide) (by decide) (by decide) (by decide) (by decide)) (fq _ (by decide) (by decide) (by decide) (by decide) (by decide) (by decide)) p3
      rw [← e1] at p2 p4
      rw [← e13] at p5
      rw [← e36] at p6
      rw [← e37] at p7
      rw [← e5] at p8 p9
      rw [← e6] at p10 p11
      rw [← e43] at p12
      have r13 : ∀ i : Int, i ≠ 6 → g2 8 i = h 8 i := fun i a => by rw [f2 i a]; exact p13 i a
      refine ⟨⟨⟨hcb.1, by omega⟩, by omega, by omega⟩, fun zc => ⟨⟨by omega, by omega⟩, 10 - (k + 1), by omega, rfl, rfl, k + 1, by omega, by omega, rfl, ?_⟩, fun zc => ⟨⟨by omega, by omega⟩, md_step hS hv (by omega) zc (by omega) r1 p2 r3 p4 p5 p6 p7 p8 p9 p10 p11 p12 r13 f3 (fun g' hg' => ⟨⟨by omega, by omega⟩, 10 - (k + 1), by omega, rfl, rfl, k + 1, by omega, by omega, rfl, hg'⟩)⟩⟩
      exact ⟨r1, p2, r3, fun t t0 t1 => by rw [p4 t t0 t1, cif_step zc], fun t t0 => by rw [p5 t t0, cif_step zc], p6, p7, p8, p9, p10, by rw [rwL_f zc]; exact p11, by rw [rwL_f zc]; exact p12, r13, f3⟩
def S_X8_done  (h : HP) (K : Int → HP → Prop) : Prop :=
  ((HOK h ∧ VOK h ∧ EOK h) ∧ ((0 ≤ (tkn h) → ((0 ≤ (tkn h) ∧ (tkn h) < 12) ∧ ((HOK h ∧ fOK h ∧ (0 ≤ (h 30 (tkn h)) ∧ (h 30 (tkn h)) < 1024) ∧ 0 ≤ h 1 9) ∧ (((∀ t : Int, 0 ≤ t → t < h 1 7 → mem (h 30 (tkn h)) t → ∃ k : Int, 0 ≤ k ∧ k < h 2 6 ∧ cLet h k (h 4 14) t (h 1 9 % 24)) → (((h 5 3) < 200 → ((0 ≤ (tkn h) ∧ (tkn h) < 12) ∧ ((h 3 6 ≤ 16) ∧ ((inS (h 1 8) ∧ (0 ≤ (h 30 (tkn h)) ∧ (h 30 (tkn h)) < 1024) ∧ (0 ≤ (cif (0 ≤ (h 27 (tkn h)) ∧ (h 27 (tkn h)) < h 3 6) (h 21 (h 27 (tkn h))) 0) ∧ (cif (0 ≤ (h 27 (tkn h)) ∧ (h 27 (tkn h)) < h 3 6) (h 21 (h 27 (tkn h))) 0) ≤ 3)) ∧ ((HOK h ∧ fOK h ∧ inS (h 1 8) ∧ inS (wAll (h 1 8) (h 30 (tkn h)) (cif (0 ≤ (h 27 (tkn h)) ∧ (h 27 (tkn h)) < h 3 6) (h 21 (h 27 (tkn h))) 0))) ∧ ((¬ (∃ k : Int, 0 ≤ k ∧ k < h 2 6 ∧ cBar h k (dgt (wAll (h 1 8) (h 30 (tkn h)) (cif (0 ≤ (h 27 (tkn h)) ∧ (h 27 (tkn h)) < h 3 6) (h 21 (h 27 (tkn h))) 0))) ∧ ¬ cBar h k (dgt (h 1 8))) → (S_X8_carryOut (h 30 (tkn h)) (cif (0 ≤ (h 27 (tkn h)) ∧ (h 27 (tkn h)) < h 3 6) (h 21 (h 27 (tkn h))) 0) h (fun r21 h21 => (S_X3_end  h21 (fun h22 => K r21 h22))))) ∧ ((∃ k : Int, 0 ≤ k ∧ k < h 2 6 ∧ cBar h k (dgt (wAll (h 1 8) (h 30 (tkn h)) (cif (0 ≤ (h 27 (tkn h)) ∧ (h 27 (tkn h)) < h 3 6) (h 21 (h 27 (tkn h))) 0))) ∧ ¬ cBar h k (dgt (h 1 8))) → K (-5) h))))))) ∧ (¬ (h 5 3) < 200 → K (-3) h))) ∧ (¬ (∀ t : Int, 0 ≤ t → t < h 1 7 → mem (h 30 (tkn h)) t → ∃ k : Int, 0 ≤ k ∧ k < h 2 6 ∧ cLet h k (h 4 14) t (h 1 9 % 24)) → K (-2) h))))) ∧ (¬ 0 ≤ (tkn h) → K (-2) h)))
set_option maxRecDepth 100000 in
set_option maxHeartbeats 4000000 in
theorem v_X8_done (w : WD)  (h : HP) (K : Int → HP → Prop) 
    (H : ((HOK h ∧ VOK h ∧ EOK h) ∧ ((0 ≤ (tkn h) → ((0 ≤ (tkn h) ∧ (tkn h) < 12) ∧ ((HOK h ∧ fOK h ∧ (0 ≤ (h 30 (tkn h)) ∧ (h 30 (tkn h)) < 1024) ∧ 0 ≤ h 1 9) ∧ (((∀ t : Int, 0 ≤ t → t < h 1 7 → mem (h 30 (tkn h)) t → ∃ k : Int, 0 ≤ k ∧ k < h 2 6 ∧ cLet h k (h 4 14) t (h 1 9 % 24)) → (((h 5 3) < 200 → ((0 ≤ (tkn h) ∧ (tkn h) < 12) ∧ ((h 3 6 ≤ 16) ∧ ((inS (h 1 8) ∧ (0 ≤ (h 30 (tkn h)) ∧ (h 30 (tkn h)) < 1024) ∧ (0 ≤ (cif (0 ≤ (h 27 (tkn h)) ∧ (h 27 (tkn h)) < h 3 6) (h 21 (h 27 (tkn h))) 0) ∧ (cif (0 ≤ (h 27 (tkn h)) ∧ (h 27 (tkn h)) < h 3 6) (h 21 (h 27 (tkn h))) 0) ≤ 3)) ∧ ((HOK h ∧ fOK h ∧ inS (h 1 8) ∧ inS (wAll (h 1 8) (h 30 (tkn h)) (cif (0 ≤ (h 27 (tkn h)) ∧ (h 27 (tkn h)) < h 3 6) (h 21 (h 27 (tkn h))) 0))) ∧ ((¬ (∃ k : Int, 0 ≤ k ∧ k < h 2 6 ∧ cBar h k (dgt (wAll (h 1 8) (h 30 (tkn h)) (cif (0 ≤ (h 27 (tkn h)) ∧ (h 27 (tkn h)) < h 3 6) (h 21 (h 27 (tkn h))) 0))) ∧ ¬ cBar h k (dgt (h 1 8))) → (S_X8_carryOut (h 30 (tkn h)) (cif (0 ≤ (h 27 (tkn h)) ∧ (h 27 (tkn h)) < h 3 6) (h 21 (h 27 (tkn h))) 0) h (fun r21 h21 => (S_X3_end  h21 (fun h22 => K r21 h22))))) ∧ ((∃ k : Int, 0 ≤ k ∧ k < h 2 6 ∧ cBar h k (dgt (wAll (h 1 8) (h 30 (tkn h)) (cif (0 ≤ (h 27 (tkn h)) ∧ (h 27 (tkn h)) < h 3 6) (h 21 (h 27 (tkn h))) 0))) ∧ ¬ cBar h k (dgt (h 1 8))) → K (-5) h))))))) ∧ (¬ (h 5 3) < 200 → K (-3) h))) ∧ (¬ (∀ t : Int, 0 ≤ t → t < h 1 7 → mem (h 30 (tkn h)) t → ∃ k : Int, 0 ≤ k ∧ k < h 2 6 ∧ cLet h k (h 4 14) t (h 1 9 % 24)) → K (-2) h))))) ∧ (¬ 0 ≤ (tkn h) → K (-2) h)))) :
    Ev w Y_X8_done 0 [some (vR 0), none, none, none, none] [] h (rI K) := by
  refine e_aload_n (pc := 0) dX8_done_0 rfl rfl ?_
  refine e_getR (q := 0) (ci := 8) (k := 3) (y := 4) (C := RX8) (T := TX8) (N := 9) (pc := 1) dX8_done_1 rfl rfl ev_in8 rfl ul_2_101 ⟨rfl, rfl⟩ rfl ?_
  refine e_invV (pc := 4) (Y' := Y_X3_taken) (as := []) (st := []) (lv0 := [some (vR 4), none]) (q := 4) (ci := 3) (T := TX3) (N := 16) dX8_done_4 m_X3_taken ul_3_181 ⟨ul_3_182, ul_3_183⟩ ⟨rfl, rfl⟩ rfl rfl rfl rfl rfl rfl rfl (c_X3_taken w h H.1) ?_
  rintro _ hz ⟨_, rfl, rfl, hh⟩
  rw [hh]
  show Ev w Y_X8_done 7 [some (vR 0), none, none, none, none] [vI (tkn h)] h (rI K)
  have H := H.2
  refine e_istore_n (lv' := [some (vR 0), some (vI (tkn h)), none, none, none]) (pc := 7) dX8_done_7 rfl rfl rfl ?_
  refine e_iload_n (pc := 8) dX8_done_8 rfl rfl ?_
  refine e_if_ge (pc := 9) (tgt := 15) dX8_done_9 (by decide) (fun c1 => ?_) (fun c1 => ?_)
  · have H := H.1 c1
    refine e_aload_n (pc := 15) dX8_done_15 rfl rfl ?_
    refine e_getR (q := 0) (ci := 8) (k := 3) (y := 4) (C := RX8) (T := TX8) (N := 9) (pc := 16) dX8_done_16 rfl rfl ev_in8 rfl ul_2_101 ⟨rfl, rfl⟩ rfl ?_
    refine e_getR (q := 4) (ci := 3) (k := 6) (y := 30) (C := RX3) (T := TX3) (N := 16) (pc := 19) dX8_done_19 rfl rfl ev_in3 rfl ul_1_159 ⟨rfl, rfl⟩ rfl ?_
    refine e_iload_n (pc := 22) dX8_done_22 rfl rfl ?_
    refine e_iald (q := 30) (x := (h 30 (tkn h))) (pc := 23) dX8_done_23 rfl H.1 rfl ?_
    have H := H.2
    refine e_istore_n (lv' := [some (vR 0), some (vI (tkn h)), some (vI (h 30 (tkn h))), none, none]) (pc := 24) dX8_done_24 rfl rfl rfl ?_
    refine e_aload_n (pc := 25) dX8_done_25 rfl rfl ?_
    refine e_aload_n (pc := 26) dX8_done_26 rfl rfl ?_
    refine e_getR (q := 0) (ci := 8) (k := 3) (y := 4) (C := RX8) (T := TX8) (N := 9) (pc := 27) dX8_done_27 rfl rfl ev_in8 rfl ul_2_101 ⟨rfl, rfl⟩ rfl ?_
    refine e_getI (q := 4) (ci := 3) (k := 14) (kz := 14) (C := RX3) (T := TX3) (N := 16) (x := (h 4 14)) (pc := 30) dX8_done_30 rfl rfl rfl ev_in3 rfl ul_1_170 ⟨rfl, by decide⟩ rfl ?_
    refine e_iload_n (pc := 33) dX8_done_33 rfl rfl ?_
    refine e_invV (pc := 34) (Y' := Y_X8_mayTurnAll) (as := [vI (h 4 14), vI (h 30 (tkn h))]) (st := []) (lv0 := [some (vR 0), some (vI (h 4 14)), some (vI (h 30 (tkn h))), none]) (q := 0) (ci := 8) (T := TX8) (N := 9) dX8_done_34 m_X8_mayTurnAll ul_3_186 ⟨ul_3_188, us_X8_mayTurnAll⟩ ⟨rfl, rfl⟩ rfl rfl rfl rfl rfl rfl rfl (c_X8_mayTurnAll w (h 4 14) (h 30 (tkn h)) h H.1) ?_
    rintro _ hz ⟨_, rfl, rfl, hh⟩
    rw [hh]
    show Ev w Y_X8_done 37 [some (vR 0), some (vI (tkn h)), some (vI (h 30 (tkn h))), none, none] [vI (b2i (∀ t : Int, 0 ≤ t → t < h 1 7 → mem (h 30 (tkn h)) t → ∃ k : Int, 0 ≤ k ∧ k < h 2 6 ∧ cLet h k (h 4 14) t (h 1 9 % 24)))] h (rI K)
    have H := H.2
    refine e_ifb_ne (pc := 37) (tgt := 43) dX8_done_37 (by decide) (fun c2 => ?_) (fun c2 => ?_)
    · have H := H.1 c2
      refine e_aload_n (pc := 43) dX8_done_43 rfl rfl ?_
      refine e_getR (q := 0) (ci := 8) (k := 4) (y := 5) (C := RX8) (T := TX8) (N := 9) (pc := 44) dX8_done_44 rfl rfl ev_in8 rfl ul_2_102 ⟨rfl, rfl⟩ rfl ?_
      refine e_getI (q := 5) (ci := 0) (k := 3) (kz := 3) (C := RX0) (T := TX0) (N := 5) (x := (h 5 3)) (pc := 47) dX8_done_47 rfl rfl rfl ev_in0 rfl ul_1_220 ⟨rfl, by decide⟩ rfl ?_
      refine e_sipush (pc := 50) dX8_done_50 ⟨by decide, by decide⟩ (by decide) ?_
      refine e_icmp_lt (pc := 53) (tgt := 59) dX8_done_53 (by decide) (fun c3 => ?_) (fun c3 => ?_)
      · have H := H.1 c3
        refine e_aload_n (pc := 59) dX8_done_59 rfl rfl ?_
        refine e_getR (q := 0) (ci := 8) (k := 2) (y := 3) (C := RX8) (T := TX8) (N := 9) (pc := 60) dX8_done_60 rfl rfl ev_in8 rfl ul_2_100 ⟨rfl, rfl⟩ rfl ?_
        refine e_aload_n (pc := 63) dX8_done_63 rfl rfl ?_
        refine e_getR (q := 0) (ci := 8) (k := 3) (y := 4) (C := RX8) (T := TX8) (N := 9) (pc := 64) dX8_done_64 rfl rfl ev_in8 rfl ul_2_101 ⟨rfl, rfl⟩ rfl ?_
        refine e_getR (q := 4) (ci := 3) (k := 3) (y := 27) (C := RX3) (T := TX3) (N := 16) (pc := 67) dX8_done_67 rfl rfl ev_in3 rfl ul_1_155 ⟨rfl, rfl⟩ rfl ?_
        refine e_iload_n (pc := 70) dX8_done_70 rfl rfl ?_
        refine e_iald (q := 27) (x := (h 27 (tkn h))) (pc := 71) dX8_done_71 rfl H.1 rfl ?_
        have H := H.2
        refine e_invV (pc := 72) (Y' := Y_X7_numberOf) (as := [vI (h 27 (tkn h))]) (st := []) (lv0 := [some (vR 3), some (vI (h 27 (tkn h)))]) (q := 3) (ci := 7) (T := TX7) (N := 8) dX8_done_72 m_X7_numberOf ul_3_197 ⟨ul_3_90, ul_3_91⟩ ⟨rfl, rfl⟩ rfl rfl rfl rfl rfl rfl rfl (c_X7_numberOf w (h 27 (tkn h)) h H.1) ?_
        rintro _ hz ⟨_, rfl, rfl, hh⟩
        rw [hh]
        show Ev w Y_X8_done 75 [some (vR 0), some (vI (tkn h)), some (vI (h 30 (tkn h))), none, none] [vI (cif (0 ≤ (h 27 (tkn h)) ∧ (h 27 (tkn h)) < h 3 6) (h 21 (h 27 (tkn h))) 0)] h (rI K)
        have H := H.2
        refine e_istore_n (lv' := [some (vR 0), some (vI (tkn h)), some (vI (h 30 (tkn h))), some (vI (cif (0 ≤ (h 27 (tkn h)) ∧ (h 27 (tkn h)) < h 3 6) (h 21 (h 27 (tkn h))) 0)), none]) (pc := 75) dX8_done_75 rfl rfl rfl ?_
        refine e_aload_n (pc := 76) dX8_done_76 rfl rfl ?_
        refine e_getR (q := 0) (ci := 8) (k := 1) (y := 2) (C := RX8) (T := TX8) (N := 9) (pc := 77) dX8_done_77 rfl rfl ev_in8 rfl ul_2_99 ⟨rfl, rfl⟩ rfl ?_
        refine e_aload_n (pc := 80) dX8_done_80 rfl rfl ?_
        refine e_getR (q := 0) (ci := 8) (k := 0) (y := 1) (C := RX8) (T := TX8) (N := 9) (pc := 81) dX8_done_81 rfl rfl ev_in8 rfl ul_2_98 ⟨rfl, rfl⟩ rfl ?_
        refine e_getI (q := 1) (ci := 4) (k := 8) (kz := 8) (C := RX4) (T := TX4) (N := 10) (x := (h 1 8)) (pc := 84) dX8_done_84 rfl rfl rfl ev_in4 rfl ul_1_50 ⟨rfl, by decide⟩ rfl ?_
        refine e_aload_n (pc := 87) dX8_done_87 rfl rfl ?_
        refine e_getR (q := 0) (ci := 8) (k := 0) (y := 1) (C := RX8) (T := TX8) (N := 9) (pc := 88) dX8_done_88 rfl rfl ev_in8 rfl ul_2_98 ⟨rfl, rfl⟩ rfl ?_
        refine e_getI (q := 1) (ci := 4) (k := 8) (kz := 8) (C := RX4) (T := TX4) (N := 10) (x := (h 1 8)) (pc := 91) dX8_done_91 rfl rfl rfl ev_in4 rfl ul_1_50 ⟨rfl, by decide⟩ rfl ?_
        refine e_iload_n (pc := 94) dX8_done_94 rfl rfl ?_
        refine e_iload_n (pc := 95) dX8_done_95 rfl rfl ?_
        refine e_invS (pc := 96) (Y' := Y_X8_withAll) (as := [vI (h 1 8), vI (h 30 (tkn h)), vI (cif (0 ≤ (h 27 (tkn h)) ∧ (h 27 (tkn h)) < h 3 6) (h 21 (h 27 (tkn h))) 0)]) (st := [vI (h 1 8), vR 2]) (lv0 := [some (vI (h 1 8)), some (vI (h 30 (tkn h))), some (vI (cif (0 ≤ (h 27 (tkn h)) ∧ (h 27 (tkn h)) < h 3 6) (h 21 (h 27 (tkn h))) 0)), none, none]) dX8_done_96 m_X8_withAll ul_3_198 ul_3_140 ⟨rfl, rfl⟩ rfl rfl rfl rfl rfl (c_X8_withAll w (h 1 8) (h 30 (tkn h)) (cif (0 ≤ (h 27 (tkn h)) ∧ (h 27 (tkn h)) < h 3 6) (h 21 (h 27 (tkn h))) 0) h H.1) ?_
        rintro _ hz ⟨_, rfl, rfl, hh⟩
        rw [hh]
        show Ev w Y_X8_done 99 [some (vR 0), some (vI (tkn h)), some (vI (h 30 (tkn h))), some (vI (cif (0 ≤ (h 27 (tkn h)) ∧ (h 27 (tkn h)) < h 3 6) (h 21 (h 27 (tkn h))) 0)), none] [vI (wAll (h 1 8) (h 30 (tkn h)) (cif (0 ≤ (h 27 (tkn h)) ∧ (h 27 (tkn h)) < h 3 6) (h 21 (h 27 (tkn h))) 0)), vI (h 1 8), vR 2] h (rI K)
        have H := H.2
        refine e_invV (pc := 99) (Y' := Y_X5_barsNewly) (as := [vI (h 1 8), vI (wAll (h 1 8) (h 30 (tkn h)) (cif (0 ≤ (h 27 (tkn h)) ∧ (h 27 (tkn h)) < h 3 6) (h 21 (h 27 (tkn h))) 0))]) (st := []) (lv0 := [some (vR 2), some (vI (h 1 8)), some (vI (wAll (h 1 8) (h 30 (tkn h)) (cif (0 ≤ (h 27 (tkn h)) ∧ (h 27 (tkn h)) < h 3 6) (h 21 (h 27 (tkn h))) 0)))]) (q := 2) (ci := 5) (T := TX5) (N := 7) dX8_done_99 m_X5_barsNewly ul_3_199 ⟨ul_3_200, ul_3_201⟩ ⟨rfl, rfl⟩ rfl rfl rfl rfl rfl rfl rfl (c_X5_barsNewly w (h 1 8) (wAll (h 1 8) (h 30 (tkn h)) (cif (0 ≤ (h 27 (tkn h)) ∧ (h 27 (tkn h)) < h 3 6) (h 21 (h 27 (tkn h))) 0)) h H.1) ?_
        rintro _ hz ⟨_, rfl, rfl, hh⟩
        rw [hh]
        show Ev w Y_X8_done 102 [some (vR 0), some (vI (tkn h)), some (vI (h 30 (tkn h))), some (vI (cif (0 ≤ (h 27 (tkn h)) ∧ (h 27 (tkn h)) < h 3 6) (h 21 (h 27 (tkn h))) 0)), none] [vI (b2i (∃ k : Int, 0 ≤ k ∧ k < h 2 6 ∧ cBar h k (dgt (wAll (h 1 8) (h 30 (tkn h)) (cif (0 ≤ (h 27 (tkn h)) ∧ (h 27 (tkn h)) < h 3 6) (h 21 (h 27 (tkn h))) 0))) ∧ ¬ cBar h k (dgt (h 1 8))))] h (rI K)
        have H := H.2
        refine e_ifb_eq (pc := 102) (tgt := 108) dX8_done_102 (by decide) (fun c4 => ?_) (fun c4 => ?_)
        · have H := H.1 c4
          refine e_aload_n (pc := 108) dX8_done_108 rfl rfl ?_
          refine e_iload_n (pc := 109) dX8_done_109 rfl rfl ?_
          refine e_iload_n (pc := 110) dX8_done_110 rfl rfl ?_
          refine e_invV (pc := 111) (Y' := Y_X8_carryOut) (as := [vI (h 30 (tkn h)), vI (cif (0 ≤ (h 27 (tkn h)) ∧ (h 27 (tkn h)) < h 3 6) (h 21 (h 27 (tkn h))) 0)]) (st := []) (lv0 := [some (vR 0), some (vI (h 30 (tkn h))), some (vI (cif (0 ≤ (h 27 (tkn h)) ∧ (h 27 (tkn h)) < h 3 6) (h 21 (h 27 (tkn h))) 0)), none, none, none]) (q := 0) (ci := 8) (T := TX8) (N := 9) dX8_done_111 m_X8_carryOut ul_3_205 ⟨ul_3_207, us_X8_carryOut⟩ ⟨rfl, rfl⟩ rfl rfl rfl rfl rfl rfl rfl (c_X8_carryOut w (h 30 (tkn h)) (cif (0 ≤ (h 27 (tkn h)) ∧ (h 27 (tkn h)) < h 3 6) (h 21 (h 27 (tkn h))) 0) h _ H) ?_
          rintro _ h21 ⟨r21, rfl, H⟩
          show Ev w Y_X8_done 114 [some (vR 0), some (vI (tkn h)), some (vI (h 30 (tkn h))), some (vI (cif (0 ≤ (h 27 (tkn h)) ∧ (h 27 (tkn h)) < h 3 6) (h 21 (h 27 (tkn h))) 0)), none] [vI r21] h21 (rI K)
          refine e_istore (lv' := [some (vR 0), some (vI (tkn h)), some (vI (h 30 (tkn h))), some (vI (cif (0 ≤ (h 27 (tkn h)) ∧ (h 27 (tkn h)) < h 3 6) (h 21 (h 27 (tkn h))) 0)), some (vI r21)]) (pc := 114) dX8_done_114 rfl rfl ?_
          refine e_aload_n (pc := 116) dX8_done_116 rfl rfl ?_
          refine e_getR (q := 0) (ci := 8) (k := 3) (y := 4) (C := RX8) (T := TX8) (N := 9) (pc := 117) dX8_done_117 rfl rfl ev_in8 rfl ul_2_101 ⟨rfl, rfl⟩ rfl ?_
          refine e_invV (pc := 120) (Y' := Y_X3_end) (as := []) (st := []) (lv0 := [some (vR 4)]) (q := 4) (ci := 3) (T := TX3) (N := 16) dX8_done_120 m_X3_end ul_4_28 ⟨ul_4_29, ul_4_30⟩ ⟨rfl, rfl⟩ rfl rfl rfl rfl rfl rfl rfl (c_X3_end w h21 _ H) ?_
          rintro _ h22 ⟨rfl, H⟩
          show Ev w Y_X8_done 123 [some (vR 0), some (vI (tkn h)), some (vI (h 30 (tkn h))), some (vI (cif (0 ≤ (h 27 (tkn h)) ∧ (h 27 (tkn h)) < h 3 6) (h 21 (h 27 (tkn h))) 0)), some (vI r21)] [] h22 (rI K)
          refine e_iload (pc := 123) dX8_done_123 rfl ?_
          exact e_ret (pc := 125) (v := some (vI r21)) dX8_done_125 rfl trivial ⟨_, rfl, H⟩
        · have H := H.2 c4
          refine e_bipush (pc := 105) dX8_done_105 ⟨by decide, by decide⟩ (by decide) ?_
          exact e_ret (pc := 107) (v := some (vI (-5))) dX8_done_107 rfl trivial ⟨_, rfl, H⟩
      · have H := H.2 c3
        refine e_bipush (pc := 56) dX8_done_56 ⟨by decide, by decide⟩ (by decide) ?_
        exact e_ret (pc := 58) (v := some (vI (-3))) dX8_done_58 rfl trivial ⟨_, rfl, H⟩
    · have H := H.2 c2
      refine e_bipush (pc := 40) dX8_done_40 ⟨by decide, by decide⟩ (by decide) ?_
      exact e_ret (pc := 42) (v := some (vI (-2))) dX8_done_42 rfl trivial ⟨_, rfl, H⟩
  · have H := H.2 c1
    refine e_bipush (pc := 12) dX8_done_12 ⟨by decide, by decide⟩ (by decide) ?_
    exact e_ret (pc := 14) (v := some (vI (-2))) dX8_done_14 rfl trivial ⟨_, rfl, H⟩
theorem c_X8_done (w : WD)  (h : HP) (K : Int → HP → Prop)  (H : S_X8_done  h K) : Ev w Y_X8_done 0 [some (vR 0), none, none, none, none] [] h (rI K) := v_X8_done w  h K  H
