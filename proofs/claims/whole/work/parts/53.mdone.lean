/-! a wish is carried out by the reference -/
theorem cnt_ex {p : Int → Prop} : ∀ {n : Nat}, 1 ≤ cnt p n → ∃ i : Int, 0 ≤ i ∧ i < (n : Int) ∧ p i
  | 0, h => by simp only [cnt] at h; omega
  | n + 1, h => by
    by_cases c : p (n : Int)
    · exact ⟨n, by omega, by omega, c⟩
    · simp only [cnt] at h
      rw [b2i_f c] at h
      obtain ⟨i, a, b, d⟩ := cnt_ex (p := p) (n := n) (by omega)
      exact ⟨i, a, by omega, d⟩
noncomputable def whM (h : HP) : Int := cif (h 55 22 = 0) (h 55 21) 6
def rtM (h : HP) (a : Int) : Prop := ∀ t : Int, 0 ≤ t → t < h 55 0 → mem (h 74 a) t → ∃ k : Int, 0 ≤ k ∧ k < h 70 1 ∧ mLet h k (whM h) t (h 55 8 % 24)
def vM (h : HP) (a : Int) : Int := h 65 (h 73 (3 * a))
def chP (h : HP) (a t : Int) : Prop := t < h 55 0 ∧ mem (h 74 a) t ∧ ¬ h 60 t = vM h a
noncomputable def chM (h : HP) (a : Int) : Int := bset (chP h a) 10
theorem chM_m {h : HP} {a t : Int} (ht : 0 ≤ t) (h10 : h 55 0 ≤ 10) : mem (chM h a) t ↔ chP h a t := by
  unfold chM
  rw [mem_bset ht]
  exact ⟨fun y => y.2, fun y => ⟨by have := y.1; omega, y⟩⟩
noncomputable def stK (h : HP) (a k : Int) : Int → Int := fun t => cif (0 ≤ t ∧ t < k ∧ chP h a t) (vM h a) (h 60 t)
noncomputable def stM (h : HP) (a : Int) : Int → Int := stK h a 10
theorem stK_10 {h : HP} {a k : Int} (h10 : h 55 0 ≤ 10) (hk : h 55 0 ≤ k) : stK h a k = stM h a := by
  funext t
  unfold stM stK
  exact cif_c ⟨fun y => ⟨y.1, by have := y.2.2.1; omega, y.2.2⟩, fun y => ⟨y.1, by have := y.2.2.1; omega, y.2.2⟩⟩
theorem vM_b {h : HP} {a : Int} (hV : mVOK h) (hE : mEOK h) (ha : 0 ≤ a ∧ a < h 55 23) : 0 ≤ vM h a ∧ vM h a ≤ 3 := by
  have hw := hE.2.2.2 a ha.1 ha.2
  have hn := hV.2.1 _ hw.1 hw.2.1
  exact ⟨hn.2.1.1, hn.2.2.1 hw.2.2⟩
theorem mHOK_st {h g : HP} {a k : Int} (hH : mHOK h) (hv : 0 ≤ vM h a ∧ vM h a ≤ 3) (h0 : g 55 0 = h 55 0) (h1 : g 56 = h 56) (h2 : g 57 = h 57) (h3 : g 58 = h 58) (h5 : g 62 = h 62) (h4 : g 60 = stK h a k) : mHOK g := by
  unfold mHOK
  rw [h0, h1, h2, h3, h4, h5]
  refine ⟨hH.1, fun u x y => ⟨(hH.2.1 u x y).1, (hH.2.1 u x y).2.1, (hH.2.1 u x y).2.2.1, ?_⟩, fun u x y => ?_, hH.2.2.2⟩
  · unfold stK
    by_cases e : 0 ≤ u ∧ u < k ∧ chP h a u
    · rw [cif_t e]; exact hv
    · rw [cif_f e]; exact (hH.2.1 u x y).2.2.2
  · unfold stK
    rw [cif_f (fun e => by have := e.2.2.1; omega)]
    exact hH.2.2.1 u x y
theorem wkM_l {h : HP} (hS : 0 ≤ h 55 33 ∧ h 55 33 ≤ 8) (t v : Int) : (wkM h t v).length ≤ 8 := by
  have := wkP_l (fun s => h 79 (5 * s) = 1 ∧ h 79 (5 * s + 1) = t ∧ h 79 (5 * s + 2) = v) (h 55 33).toNat
  unfold wkM
  omega
theorem wkM_m {h : HP} (hS : 0 ≤ h 55 33 ∧ h 55 33 ≤ 8) (t v s : Int) (hs : s ∈ wkM h t v) : 0 ≤ s ∧ s < h 55 33 := by
  have := (wkP_m _ _ _ hs).1
  omega
def mdM (a : Int) (L : List LE) (h g : HP) (k : Nat) : Prop :=
  (∀ q, q ≠ 55 → q ≠ 60 → q ≠ 61 → q ≠ 76 → q ≠ 77 → q ≠ 78 → q ≠ 80 → q ≠ 82 → q ≠ 86 → g q = h q) ∧ (∀ i : Int, i ≠ 36 → i ≠ 47 → g 55 i = h 55 i) ∧ g 60 = stM h a ∧ (∀ t : Int, 0 ≤ t → g 61 t = cif (t < (k : Int) ∧ mem (chM h a) t) (1000 + h 55 29) (h 61 t)) ∧ g 76 = us (h 76) (h 55 29) (chM h a) ∧ g 77 = us (h 77) (h 55 29) (pack (h 60) (h 55 0).toNat) ∧ g 78 = us (h 78) (h 55 29) 0 ∧ g 55 47 = ((rwL (wkM h) (chM h a) (vM h a) k).length : Int) ∧ rwH (g 86) (rwL (wkM h) (chM h a) (vM h a) k) ∧ lgM g (lgF (h 55 21) (h 55 8) (h 74 a) (vM h a) L k)
theorem mm_step {a : Int} {L : List LE} {h g : HP} {k : Nat} {K : HP → Prop} (hS : MSOK h) (hk : (k : Int) < h 55 0) (h10 : h 55 0 ≤ 10) (ch : mem (chM h a) (k : Int))
    (p1 : ∀ q, q ≠ 55 → q ≠ 60 → q ≠ 61 → q ≠ 76 → q ≠ 77 → q ≠ 78 → q ≠ 80 → q ≠ 82 → q ≠ 86 → g q = h q) (p2 : ∀ i : Int, i ≠ 36 → i ≠ 47 → g 55 i = h 55 i) (p3 : g 60 = stM h a) (p4 : ∀ t : Int, 0 ≤ t → g 61 t = cif (t < (k : Int) ∧ mem (chM h a) t) (1000 + h 55 29) (h 61 t)) (p5 : g 76 = us (h 76) (h 55 29) (chM h a)) (p6 : g 77 = us (h 77) (h 55 29) (pack (h 60) (h 55 0).toNat)) (p7 : g 78 = us (h 78) (h 55 29) 0) (p8 : g 55 47 = ((rwL (wkM h) (chM h a) (vM h a) k).length : Int)) (p9 : rwH (g 86) (rwL (wkM h) (chM h a) (vM h a) k)) (p10 : lgM g (lgF (h 55 21) (h 55 8) (h 74 a) (vM h a) L (k + 1)))
    (HK : ∀ g' : HP, mdM a L h g' (k + 1) → K g') : S_X9_wakeBy (k : Int) (sth g 61 (k : Int) (1000 + h 55 29)) (fun h2 => K h2) := by
  have hcm := (chM_m (h := h) (a := a) (t := (k : Int)) (by omega) h10).mp ch
  have hS1 := hS.1
  have hrl := rwL_l (CH := chM h a) (v := vM h a) (wkM_l hS1) k
  have hcb := cnt_b (mem (chM h a)) k
  have n55 : sth g 61 (k : Int) (1000 + h 55 29) 55 = g 55 := sth_ne (by decide)
  have n86 : sth g 61 (k : Int) (1000 + h 55 29) 86 = g 86 := sth_ne (by decide)
  have n79 : sth g 61 (k : Int) (1000 + h 55 29) 79 = h 79 := by rw [sth_ne (by decide)]; exact p1 _ (by decide) (by decide) (by decide) (by decide) (by decide) (by decide) (by decide) (by decide) (by decide)
  have n60 : sth g 61 (k : Int) (1000 + h 55 29) 60 = stM h a := by rw [sth_ne (by decide)]; exact p3
  have e33 : g 55 33 = h 55 33 := p2 33 (by decide) (by decide)
  refine ⟨rwL (wkM h) (chM h a) (vM h a) k, ⟨by rw [n55, e33]; exact hS1, by omega, by rw [n55]; exact p8, by rw [n86]; exact p9, by omega⟩, fun h2 q1 q2 q3 q4 => HK h2 ?_⟩
  have ew : wkP (mwk (sth g 61 (k : Int) (1000 + h 55 29)) (k : Int)) (sth g 61 (k : Int) (1000 + h 55 29) 55 33).toNat = wkM h (k : Int) (vM h a) := by
    unfold wkM
    rw [n55, e33]
    refine wkP_c (fun i _ _ => ?_)
    unfold mwk
    have e : stM h a (k : Int) = vM h a := by unfold stM stK; exact cif_t ⟨by omega, by omega, hcm⟩
    rw [n79, n60, e]
  rw [ew, ← rwL_t ch] at q3 q4
  have mq : ∀ q, q ≠ 61 → q ≠ 86 → q ≠ 55 → h2 q = g q := fun q a1 a2 a3 => by rw [q1 q a2 a3, sth_ne a1]
  have m55 : ∀ i : Int, i ≠ 47 → h2 55 i = g 55 i := fun i a1 => by rw [q2 i a1, n55]
  refine ⟨fun q a1 a2 a3 a4 a5 a6 a7 a8 a9 => by rw [mq q a3 a9 a1]; exact p1 q a1 a2 a3 a4 a5 a6 a7 a8 a9, fun i a1 a2 => by rw [m55 i a2]; exact p2 i a1 a2, by rw [mq 60 (by decide) (by decide) (by decide)]; exact p3, fun t t0 => ?_, by rw [mq 76 (by decide) (by decide) (by decide)]; exact p5, by rw [mq 77 (by decide) (by decide) (by decide)]; exact p6, by rw [mq 78 (by decide) (by decide) (by decide)]; exact p7, q3, q4, ?_⟩
  · rw [q1 61 (by decide) (by decide), sth_eq]
    by_cases e : t = (k : Int)
    · subst e; rw [us_s, cif_t ⟨by omega, ch⟩]
    · rw [us_n e, p4 t t0]
      exact cif_c ⟨fun y => ⟨by omega, y.2⟩, fun y => ⟨by omega, y.2⟩⟩
  · refine ⟨by rw [m55 36 (by decide)]; exact p10.1, p10.2.1, fun i hi => ?_⟩
    rw [leM_c (h := g) (mq _ (by decide) (by decide) (by decide))]
    exact p10.2.2 i hi
def S_X9_done (h : HP) (K : Int → HP → Prop) : Prop := ∃ L : List LE, (mHOK h ∧ mVOK h ∧ mEOK h ∧ mfOK h ∧ MSOK h ∧ (0 ≤ h 55 8 ∧ h 55 8 ≤ 1000000000) ∧ (0 ≤ h 55 29 ∧ h 55 29 ≤ 200) ∧ lgM h L) ∧ ((h 55 20 = 0 ∨ ¬ unM h = 1) → K (-2) h) ∧ (¬ (h 55 20 = 0 ∨ ¬ unM h = 1) → ∀ a : Int, a = fsN (fun i => h 75 i = 1) (h 55 23).toNat → (0 ≤ a ∧ a < h 55 23) → (¬ rtM h a → K (-2) h) ∧ (rtM h a → (h 55 29 = 200 → K (-3) h) ∧ (¬ h 55 29 = 200 → (mNB h (h 60) (stM h a) → ∀ h' : HP, (∀ q, q ≠ 82 → h' q = h q) → K (-5) h') ∧ (¬ mNB h (h 60) (stM h a) → ∀ g : HP, mdM a L h g (h 55 0).toNat → S_X9_fire (cnt (mem (chM h a)) 10) (sth (sth (sth g 55 29 (g 55 29 + 1)) 55 28 (g 74 a)) 55 20 0) (fun h' => K (chM h a) h')))))
set_option maxRecDepth 100000 in
set_option maxHeartbeats 4000000 in
theorem v_X9_done (w : WD)  (h : HP) (K : Int → HP → Prop) 
    (I1 : Nat → Int → HP → Prop)
    (I2 : Nat → Int → Int → Int → HP → Prop)
    (I3 : Nat → Int → Int → Int → Int → Int → HP → Prop)
    (I4 : Nat → Int → Int → HP → Prop)
    (I5 : Nat → Int → Int → Int → Int → HP → Prop)
    (H : (((((h 55 20) = 0 → True) ∧ (¬ (h 55 20) = 0 → ((mHOK h ∧ mVOK h ∧ mEOK h) ∧ True)))) ∧ (((((h 55 20) = 0) ∨ (¬ (unM h) = 1)) → K (-2) h) ∧ (¬ (((h 55 20) = 0) ∨ (¬ (unM h) = 1)) → (∃ m : Nat, I1 m 0 h)))))
    (H1 : ∀ (n1 : Nat) (x1 : Int) (g1 : HP), I1 n1 x1 g1 → ((0 ≤ x1 ∧ x1 < 12) ∧ ((¬ (g1 75 x1) = 0 → (∃ m : Nat, I2 m x1 (cif ((g1 55 22) = 0) (g1 55 21) 6) 0 g1)) ∧ ((g1 75 x1) = 0 → ((iR (x1 + 1)) ∧ (∃ m : Nat, m < n1 ∧ I1 m (x1 + 1) g1))))))
    (H2 : ∀ (n2 : Nat) (x1 : Int) (x2 : Int) (x3 : Int) (g2 : HP), I2 n2 x1 x2 x3 g2 → (((g2 55 0) ≤ x3 → ((¬ (g2 55 29) = 200 → ((iR (3 * x1)) ∧ ((0 ≤ (3 * x1) ∧ (3 * x1) < 36) ∧ ((0 ≤ (g2 73 (3 * x1)) ∧ (g2 73 (3 * x1)) < 16) ∧ (S_X9_layBars g2 (fun h25 => (∃ m : Nat, I3 m x1 (g2 65 (g2 73 (3 * x1))) 0 0 0 h25))))))) ∧ ((g2 55 29) = 200 → K (-3) g2))) ∧ (¬ (g2 55 0) ≤ x3 → ((0 ≤ x1 ∧ x1 < 12) ∧ ((inB (g2 74 x1) x3) ∧ ((((¬ (mem (g2 74 x1) x3) → True) ∧ ((mem (g2 74 x1) x3) → ((0 ≤ (g2 55 8)) ∧ ((mfOK g2 ∧ 0 ≤ x3 ∧ x3 < 10) ∧ True))))) ∧ ((((¬ (mem (g2 74 x1) x3)) ∨ ((∃ k : Int, 0 ≤ k ∧ k < g2 70 1 ∧ mLet g2 k x2 x3 ((g2 55 8) % 24)))) → ((iR (x3 + 1)) ∧ (∃ m : Nat, m < n2 ∧ I2 m x1 x2 (x3 + 1) g2))) ∧ (¬ ((¬ (mem (g2 74 x1) x3)) ∨ ((∃ k : Int, 0 ≤ k ∧ k < g2 70 1 ∧ mLet g2 k x2 x3 ((g2 55 8) % 24)))) → K (-2) g2))))))))
    (H3 : ∀ (n3 : Nat) (x1 : Int) (x3 : Int) (x4 : Int) (x5 : Int) (x6 : Int) (g3 : HP), I3 n3 x1 x3 x4 x5 x6 g3 → (((g3 55 0) ≤ x6 → ((mfOK g3 ∧ mHOK g3) ∧ ((¬ (∃ k : Int, 0 ≤ k ∧ k < g3 70 1 ∧ g3 82 k = 0 ∧ mBar g3 k) → ((0 ≤ (g3 55 29) ∧ (g3 55 29) < 200) ∧ ((0 ≤ (g3 55 29) ∧ (g3 55 29) < 200) ∧ ((0 ≤ (g3 55 29) ∧ (g3 55 29) < 200) ∧ (∃ m : Nat, I5 m x1 x3 x5 0 (sth (sth (sth (sth g3 76 (g3 55 29) x5) 77 (g3 55 29) x4) 78 (g3 55 29) 0) 55 47 0)))))) ∧ ((∃ k : Int, 0 ≤ k ∧ k < g3 70 1 ∧ g3 82 k = 0 ∧ mBar g3 k) → (∃ m : Nat, I4 m x4 0 g3))))) ∧ (¬ (g3 55 0) ≤ x6 → ((0 ≤ x6 ∧ x6 < 10) ∧ ((iR (2 * x6)) ∧ ((0 ≤ x1 ∧ x1 < 12) ∧ ((inB (g3 74 x1) x6) ∧ ((((¬ (mem (g3 74 x1) x6) → True) ∧ ((mem (g3 74 x1) x6) → ((0 ≤ x6 ∧ x6 < 10) ∧ True)))) ∧ ((((¬ (mem (g3 74 x1) x6)) ∨ ((g3 60 x6) = x3)) → ((iR (x6 + 1)) ∧ (∃ m : Nat, m < n3 ∧ I3 m x1 x3 (ior x4 (ishl (g3 60 x6) (2 * x6))) x5 (x6 + 1) g3))) ∧ (¬ ((¬ (mem (g3 74 x1) x6)) ∨ ((g3 60 x6) = x3)) → ((0 ≤ x6 ∧ x6 < 10) ∧ ((iR (x6 + 1)) ∧ (∃ m : Nat, m < n3 ∧ I3 m x1 x3 (ior x4 (ishl (g3 60 x6) (2 * x6))) (ior x5 (ishl 1 x6)) (x6 + 1) (sth g3 60 x6 x3))))))))))))))
    (H4 : ∀ (n4 : Nat) (x4 : Int) (x6 : Int) (g4 : HP), I4 n4 x4 x6 g4 → (((g4 55 0) ≤ x6 → K (-5) g4) ∧ (¬ (g4 55 0) ≤ x6 → ((iR (2 * x6)) ∧ ((0 ≤ x6 ∧ x6 < 10) ∧ ((iR (x6 + 1)) ∧ (∃ m : Nat, m < n4 ∧ I4 m x4 (x6 + 1) (sth g4 60 x6 (iand (ishr x4 (2 * x6)) 3)))))))))
    (H5 : ∀ (n5 : Nat) (x1 : Int) (x3 : Int) (x5 : Int) (x6 : Int) (g5 : HP), I5 n5 x1 x3 x5 x6 g5 → (((g5 55 0) ≤ x6 → ((iR ((g5 55 29) + 1)) ∧ ((0 ≤ x1 ∧ x1 < 12) ∧ ((0 ≤ x5 ∧ x5 < 1024) ∧ (S_X9_fire (cnt (mem x5) 10) (sth (sth (sth g5 55 29 ((g5 55 29) + 1)) 55 28 (g5 74 x1)) 55 20 0) (fun h21 => K x5 h21)))))) ∧ (¬ (g5 55 0) ≤ x6 → ((0 ≤ x1 ∧ x1 < 12) ∧ ((inB (g5 74 x1) x6) ∧ ((¬ (mem (g5 74 x1) x6) → ((inB x5 x6) ∧ ((¬ (mem x5 x6) → ((iR (x6 + 1)) ∧ (∃ m : Nat, m < n5 ∧ I5 m x1 x3 x5 (x6 + 1) g5))) ∧ ((mem x5 x6) → ((iR (1000 + (g5 55 29))) ∧ ((0 ≤ x6 ∧ x6 < 10) ∧ (S_X9_wakeBy x6 (sth g5 61 x6 (1000 + (g5 55 29))) (fun h22 => ((iR (x6 + 1)) ∧ (∃ m : Nat, m < n5 ∧ I5 m x1 x3 x5 (x6 + 1) h22)))))))))) ∧ ((mem (g5 74 x1) x6) → (S_X9_log x6 x3 g5 (fun h23 => ((inB x5 x6) ∧ ((¬ (mem x5 x6) → ((iR (x6 + 1)) ∧ (∃ m : Nat, m < n5 ∧ I5 m x1 x3 x5 (x6 + 1) h23))) ∧ ((mem x5 x6) → ((iR (1000 + (h23 55 29))) ∧ ((0 ≤ x6 ∧ x6 < 10) ∧ (S_X9_wakeBy x6 (sth h23 61 x6 (1000 + (h23 55 29))) (fun h24 => ((iR (x6 + 1)) ∧ (∃ m : Nat, m < n5 ∧ I5 m x1 x3 x5 (x6 + 1) h24)))))))))))))))))) :
    Ev w Y_X9_done 0 [some (vR 55), none, none, none, none, none, none] [] h (rI K) := by
  have L5 : ∀ (n5 : Nat) (x1 : Int) (x3 : Int) (x5 : Int) (x6 : Int) (g5 : HP), I5 n5 x1 x3 x5 x6 g5 → Ev w Y_X9_done 298 [some (vR 55), some (vI x1), none, some (vI x3), none, some (vI x5), some (vI x6)] [] g5 (rI K) := by
    intro n5
    induction n5 using Nat.strongRecOn with
    | ind n5 ih5 =>
      intro x1 x3 x5 x6 g5 H
      have H := H5 n5 x1 x3 x5 x6 g5 H
      refine e_iload (pc := 298) dX9_done_298 rfl ?_
      refine e_aload_n (pc := 300) dX9_done_300 rfl rfl ?_
      refine e_getI (q := 55) (ci := 9) (k := 0) (kz := 0) (C := RX9) (T := TX9) (N := 52) (x := (g5 55 0)) (pc := 301) dX9_done_301 rfl rfl rfl ev_in9 rfl ul_4_182 ⟨rfl, by decide⟩ rfl ?_
      refine e_icmp_ge (pc := 304) (tgt := 365) dX9_done_304 (by decide) (fun c3 => ?_) (fun c3 => ?_)
      · have H := H.1 c3
        refine e_aload_n (pc := 365) dX9_done_365 rfl rfl ?_
        refine e_dup (pc := 366) dX9_done_366 rfl ?_
        refine e_getI (q := 55) (ci := 9) (k := 29) (kz := 29) (C := RX9) (T := TX9) (N := 52) (x := (g5 55 29)) (pc := 367) dX9_done_367 rfl rfl rfl ev_in9 rfl ul_4_211 ⟨rfl, by decide⟩ rfl ?_
        refine e_iconst (pc := 370) dX9_done_370 ⟨by decide, by decide⟩ ?_
        refine e_iadd (pc := 371) dX9_done_371 H.1 ?_
        have H := H.2
        refine e_put (q := 55) (ci := 9) (k := 29) (kz := 29) (C := RX9) (T := TX9) (N := 52) (ty := .int) (pc := 372) dX9_done_372 rfl rfl rfl ev_in9 tyX9 tyX9_ok nmX9 rfl ul_4_211 ⟨rfl, by decide⟩ rfl (tyX9_ok 29 (by decide)) (Or.inl rfl) ?_
        refine e_aload_n (pc := 375) dX9_done_375 rfl rfl ?_
        refine e_aload_n (pc := 376) dX9_done_376 rfl rfl ?_
        refine e_getR (q := 55) (ci := 9) (k := 26) (y := 74) (C := RX9) (T := TX9) (N := 52) (pc := 377) dX9_done_377 rfl rfl ev_in9 rfl ul_4_208 ⟨rfl, rfl⟩ rfl ?_
        refine e_iload_n (pc := 380) dX9_done_380 rfl rfl ?_
        refine e_iald (q := 74) (x := (g5 74 x1)) (pc := 381) dX9_done_381 rfl H.1 rfl ?_
        have H := H.2
        refine e_put (q := 55) (ci := 9) (k := 28) (kz := 28) (C := RX9) (T := TX9) (N := 52) (ty := .int) (pc := 382) dX9_done_382 rfl rfl rfl ev_in9 tyX9 tyX9_ok nmX9 rfl ul_4_210 ⟨rfl, by decide⟩ rfl (tyX9_ok 28 (by decide)) (Or.inl rfl) ?_
        refine e_aload_n (pc := 385) dX9_done_385 rfl rfl ?_
        refine e_iconst (pc := 386) dX9_done_386 ⟨by decide, by decide⟩ ?_
        refine e_put (q := 55) (ci := 9) (k := 20) (kz := 20) (C := RX9) (T := TX9) (N := 52) (ty := .boolean) (pc := 387) dX9_done_387 rfl rfl rfl ev_in9 tyX9 tyX9_ok nmX9 rfl ul_4_202 ⟨rfl, by decide⟩ rfl (tyX9_ok 20 (by decide)) (Or.inr ⟨rfl, (Or.inl rfl)⟩) ?_
        refine e_aload_n (pc := 390) dX9_done_390 rfl rfl ?_
        refine e_iload (pc := 391) dX9_done_391 rfl ?_
        refine e_invS (pc := 393) (Y' := Y_X9_bitsOf) (as := [vI x5]) (st := [vR 55]) (lv0 := [some (vI x5), none, none]) dX9_done_393 m_X9_bitsOf ul_6_31 ul_6_32 ⟨rfl, rfl⟩ rfl rfl rfl rfl rfl (c_X9_bitsOf w x5 (sth (sth (sth g5 55 29 ((g5 55 29) + 1)) 55 28 (g5 74 x1)) 55 20 0) H.1) ?_
        rintro _ hz ⟨_, rfl, rfl, hh⟩
        rw [hh]
        show Ev w Y_X9_done 396 [some (vR 55), some (vI x1), none, some (vI x3), none, some (vI x5), some (vI x6)] [vI (cnt (mem x5) 10), vR 55] (sth (sth (sth g5 55 29 ((g5 55 29) + 1)) 55 28 (g5 74 x1)) 55 20 0) (rI K)
        have H := H.2
        refine e_invV (pc := 396) (Y' := Y_X9_fire) (as := [vI (cnt (mem x5) 10)]) (st := []) (lv0 := [some (vR 55), some (vI (cnt (mem x5) 10)), none, none, none, none, none, none]) (q := 55) (ci := 9) (T := TX9) (N := 52) dX9_done_396 m_X9_fire ul_6_34 ⟨ul_6_36, us_X9_fire⟩ ⟨rfl, rfl⟩ rfl rfl rfl rfl rfl rfl rfl (c_X9_fire w (cnt (mem x5) 10) (sth (sth (sth g5 55 29 ((g5 55 29) + 1)) 55 28 (g5 74 x1)) 55 20 0) _ H) ?_
        rintro _ h21 ⟨rfl, H⟩
        show Ev w Y_X9_done 399 [some (vR 55), some (vI x1), none, some (vI x3), none, some (vI x5), some (vI x6)] [] h21 (rI K)
        refine e_iload (pc := 399) dX9_done_399 rfl ?_
        exact e_ret (pc := 401) (v := some (vI x5)) dX9_done_401 rfl trivial ⟨_, rfl, H⟩
      · have H := H.2 c3
        refine e_aload_n (pc := 307) dX9_done_307 rfl rfl ?_
        refine e_getR (q := 55) (ci := 9) (k := 26) (y := 74) (C := RX9) (T := TX9) (N := 52) (pc := 308) dX9_done_308 rfl rfl ev_in9 rfl ul_4_208 ⟨rfl, rfl⟩ rfl ?_
        refine e_iload_n (pc := 311) dX9_done_311 rfl rfl ?_
        refine e_iald (q := 74) (x := (g5 74 x1)) (pc := 312) dX9_done_312 rfl H.1 rfl ?_
        have H := H.2
        refine e_iload (pc := 313) dX9_done_313 rfl ?_
        refine e_invS (pc := 315) (Y' := Y_X9_has) (as := [vI (g5 74 x1), vI x6]) (st := []) (lv0 := [some (vI (g5 74 x1)), some (vI x6)]) dX9_done_315 m_X9_has ul_5_221 ul_5_222 ⟨rfl, rfl⟩ rfl rfl rfl rfl rfl (c_X9_has w (g5 74 x1) x6 g5 H.1) ?_
        rintro _ hz ⟨_, rfl, rfl, hh⟩
        rw [hh]
        show Ev w Y_X9_done 318 [some (vR 55), some (vI x1), none, some (vI x3), none, some (vI x5), some (vI x6)] [vI (b2i (mem (g5 74 x1) x6))] g5 (rI K)
        have H := H.2
        refine e_ifb_eq (pc := 318) (tgt := 328) dX9_done_318 (by decide) (fun c4 => ?_) (fun c4 => ?_)
        · have H := H.1 c4
          refine e_iload (pc := 328) dX9_done_328 rfl ?_
          refine e_iload (pc := 330) dX9_done_330 rfl ?_
          refine e_invS (pc := 332) (Y' := Y_X9_has) (as := [vI x5, vI x6]) (st := []) (lv0 := [some (vI x5), some (vI x6)]) dX9_done_332 m_X9_has ul_5_221 ul_5_222 ⟨rfl, rfl⟩ rfl rfl rfl rfl rfl (c_X9_has w x5 x6 g5 H.1) ?_
          rintro _ hz ⟨_, rfl, rfl, hh⟩
          rw [hh]
          show Ev w Y_X9_done 335 [some (vR 55), some (vI x1), none, some (vI x3), none, some (vI x5), some (vI x6)] [vI (b2i (mem x5 x6))] g5 (rI K)
          have H := H.2
          refine e_ifb_eq (pc := 335) (tgt := 359) dX9_done_335 (by decide) (fun c5 => ?_) (fun c5 => ?_)
          · have H := H.1 c5
            refine e_iinc (lv' := [some (vR 55), some (vI x1), none, some (vI x3), none, some (vI x5), some (vI (x6 + 1))]) (pc := 359) dX9_done_359 rfl H.1 rfl rfl ?_
            have H := H.2
            refine e_goto (pc := 362) (tgt := 298) dX9_done_362 (by decide) ?_
            obtain ⟨m, hm, H⟩ := H
            exact ih5 m hm _ _ _ _ _ H
          · have H := H.2 c5
            refine e_aload_n (pc := 338) dX9_done_338 rfl rfl ?_
            refine e_getR (q := 55) (ci := 9) (k := 6) (y := 61) (C := RX9) (T := TX9) (N := 52) (pc := 339) dX9_done_339 rfl rfl ev_in9 rfl ul_4_188 ⟨rfl, rfl⟩ rfl ?_
            refine e_iload (pc := 342) dX9_done_342 rfl ?_
            refine e_sipush (pc := 344) dX9_done_344 ⟨by decide, by decide⟩ (by decide) ?_
            refine e_aload_n (pc := 347) dX9_done_347 rfl rfl ?_
            refine e_getI (q := 55) (ci := 9) (k := 29) (kz := 29) (C := RX9) (T := TX9) (N := 52) (x := (g5 55 29)) (pc := 348) dX9_done_348 rfl rfl rfl ev_in9 rfl ul_4_211 ⟨rfl, by decide⟩ rfl ?_
            refine e_iadd (pc := 351) dX9_done_351 H.1 ?_
            have H := H.2
            refine e_iast (q := 61) (pc := 352) dX9_done_352 rfl H.1 ?_
            have H := H.2
            refine e_aload_n (pc := 353) dX9_done_353 rfl rfl ?_
            refine e_iload (pc := 354) dX9_done_354 rfl ?_
            refine e_invV (pc := 356) (Y' := Y_X9_wakeBy) (as := [vI x6]) (st := []) (lv0 := [some (vR 55), some (vI x6), none]) (q := 55) (ci := 9) (T := TX9) (N := 52) dX9_done_356 m_X9_wakeBy ul_6_27 ⟨ul_6_29, us_X9_wakeBy⟩ ⟨rfl, rfl⟩ rfl rfl rfl rfl rfl rfl rfl (c_X9_wakeBy w x6 (sth g5 61 x6 (1000 + (g5 55 29))) _ H) ?_
            rintro _ h22 ⟨rfl, H⟩
            show Ev w Y_X9_done 359 [some (vR 55), some (vI x1), none, some (vI x3), none, some (vI x5), some (vI x6)] [] h22 (rI K)
            refine e_iinc (lv' := [some (vR 55), some (vI x1), none, some (vI x3), none, some (vI x5), some (vI (x6 + 1))]) (pc := 359) dX9_done_359 rfl H.1 rfl rfl ?_
            have H := H.2
            refine e_goto (pc := 362) (tgt := 298) dX9_done_362 (by decide) ?_
            obtain ⟨m, hm, H⟩ := H
            exact ih5 m hm _ _ _ _ _ H
        · have H := H.2 c4
          refine e_aload_n (pc := 321) dX9_done_321 rfl rfl ?_
          refine e_iload (pc := 322) dX9_done_322 rfl ?_
          refine e_iload_n (pc := 324) dX9_done_324 rfl rfl ?_
          refine e_invV (pc := 325) (Y' := Y_X9_log) (as := [vI x6, vI x3]) (st := []) (lv0 := [some (vR 55), some (vI x6), some (vI x3), none]) (q := 55) (ci := 9) (T := TX9) (N := 52) dX9_done_325 m_X9_log ul_6_23 ⟨ul_6_25, us_X9_log⟩ ⟨rfl, rfl⟩ rfl rfl rfl rfl rfl rfl rfl (c_X9_log w x6 x3 g5 _ H) ?_
          rintro _ h23 ⟨rfl, H⟩
          show Ev w Y_X9_done 328 [some (vR 55), some (vI x1), none, some (vI x3), none, some (vI x5), some (vI x6)] [] h23 (rI K)
          refine e_iload (pc := 328) dX9_done_328 rfl ?_
          refine e_iload (pc := 330) dX9_done_330 rfl ?_
          refine e_invS (pc := 332) (Y' := Y_X9_has) (as := [vI x5, vI x6]) (st := []) (lv0 := [some (vI x5), some (vI x6)]) dX9_done_332 m_X9_has ul_5_221 ul_5_222 ⟨rfl, rfl⟩ rfl rfl rfl rfl rfl (c_X9_has w x5 x6 h23 H.1) ?_
          rintro _ hz ⟨_, rfl, rfl, hh⟩
          rw [hh]
          show Ev w Y_X9_done 335 [some (vR 55), some (vI x1), none, some (vI x3), none, some (vI x5), some (vI x6)] [vI (b2i (mem x5 x6))] h23 (rI K)
          have H := H.2
          refine e_ifb_eq (pc := 335) (tgt := 359) dX9_done_335 (by decide) (fun c6 => ?_) (fun c6 => ?_)
          · have H := H.1 c6
            refine e_iinc (lv' := [some (vR 55), some (vI x1), none, some (vI x3), none, some (vI x5), some (vI (x6 + 1))]) (pc := 359) dX9_done_359 rfl H.1 rfl rfl ?_
            have H := H.2
            refine e_goto (pc := 362) (tgt := 298) dX9_done_362 (by decide) ?_
            obtain ⟨m, hm, H⟩ := H
            exact ih5 m hm _ _ _ _ _ H
          · have H := H.2 c6
            refine e_aload_n (pc := 338) dX9_done_338 rfl rfl ?_
            refine e_getR (q := 55) (ci := 9) (k := 6) (y := 61) (C := RX9) (T := TX9) (N := 52) (pc := 339) dX9_done_339 rfl rfl ev_in9 rfl ul_4_188 ⟨rfl, rfl⟩ rfl ?_
            refine e_iload (pc := 342) dX9_done_342 rfl ?_
            refine e_sipush (pc := 344) dX9_done_344 ⟨by decide, by decide⟩ (by decide) ?_
            refine e_aload_n (pc := 347) dX9_done_347 rfl rfl ?_
            refine e_getI (q := 55) (ci := 9) (k := 29) (kz := 29) (C := RX9) (T := TX9) (N := 52) (x := (h23 55 29)) (pc := 348) dX9_done_348 rfl rfl rfl ev_in9 rfl ul_4_211 ⟨rfl, by decide⟩ rfl ?_
            refine e_iadd (pc := 351) dX9_done_351 H.1 ?_
            have H := H.2
            refine e_iast (q := 61) (pc := 352) dX9_done_352 rfl H.1 ?_
            have H := H.2
            refine e_aload_n (pc := 353) dX9_done_353 rfl rfl ?_
            refine e_iload (pc := 354) dX9_done_354 rfl ?_
            refine e_invV (pc := 356) (Y' := Y_X9_wakeBy) (as := [vI x6]) (st := []) (lv0 := [some (vR 55), some (vI x6), none]) (q := 55) (ci := 9) (T := TX9) (N := 52) dX9_done_356 m_X9_wakeBy ul_6_27 ⟨ul_6_29, us_X9_wakeBy⟩ ⟨rfl, rfl⟩ rfl rfl rfl rfl rfl rfl rfl (c_X9_wakeBy w x6 (sth h23 61 x6 (1000 + (h23 55 29))) _ H) ?_
            rintro _ h24 ⟨rfl, H⟩
            show Ev w Y_X9_done 359 [some (vR 55), some (vI x1), none, some (vI x3), none, some (vI x5), some (vI x6)] [] h24 (rI K)
            refine e_iinc (lv' := [some (vR 55), some (vI x1), none, some (vI x3), none, some (vI x5), some (vI (x6 + 1))]) (pc := 359) dX9_done_359 rfl H.1 rfl rfl ?_
            have H := H.2
            refine e_goto (pc := 362) (tgt := 298) dX9_done_362 (by decide) ?_
            obtain ⟨m, hm, H⟩ := H
            exact ih5 m hm _ _ _ _ _ H
  have L4 : ∀ (n4 : Nat) (x4 : Int) (x6 : Int) (g4 : HP), I4 n4 x4 x6 g4 → Ev w Y_X9_done 224 [some (vR 55), none, none, none, some (vI x4), none, some (vI x6)] [] g4 (rI K) := by
    intro n4
    induction n4 using Nat.strongRecOn with
    | ind n4 ih4 =>
      intro x4 x6 g4 H
      have H := H4 n4 x4 x6 g4 H
      refine e_iload (pc := 224) dX9_done_224 rfl ?_
      refine e_aload_n (pc := 226) dX9_done_226 rfl rfl ?_
      refine e_getI (q := 55) (ci := 9) (k := 0) (kz := 0) (C := RX9) (T := TX9) (N := 52) (x := (g4 55 0)) (pc := 227) dX9_done_227 rfl rfl rfl ev_in9 rfl ul_4_182 ⟨rfl, by decide⟩ rfl ?_
      refine e_icmp_ge (pc := 230) (tgt := 255) dX9_done_230 (by decide) (fun c7 => ?_) (fun c7 => ?_)
      · have H := H.1 c7
        refine e_bipush (pc := 255) dX9_done_255 ⟨by decide, by decide⟩ (by decide) ?_
        exact e_ret (pc := 257) (v := some (vI (-5))) dX9_done_257 rfl trivial ⟨_, rfl, H⟩
      · have H := H.2 c7
        refine e_aload_n (pc := 233) dX9_done_233 rfl rfl ?_
        refine e_getR (q := 55) (ci := 9) (k := 5) (y := 60) (C := RX9) (T := TX9) (N := 52) (pc := 234) dX9_done_234 rfl rfl ev_in9 rfl ul_4_187 ⟨rfl, rfl⟩ rfl ?_
        refine e_iload (pc := 237) dX9_done_237 rfl ?_
        refine e_iload (pc := 239) dX9_done_239 rfl ?_
        refine e_iconst (pc := 241) dX9_done_241 ⟨by decide, by decide⟩ ?_
        refine e_iload (pc := 242) dX9_done_242 rfl ?_
        refine e_imul (pc := 244) dX9_done_244 H.1 ?_
        have H := H.2
        refine e_ishr (pc := 245) dX9_done_245 ?_
        refine e_iconst (pc := 246) dX9_done_246 ⟨by decide, by decide⟩ ?_
        refine e_iand (pc := 247) dX9_done_247 ?_
        refine e_iast (q := 60) (pc := 248) dX9_done_248 rfl H.1 ?_
        have H := H.2
        refine e_iinc (lv' := [some (vR 55), none, none, none, some (vI x4), none, some (vI (x6 + 1))]) (pc := 249) dX9_done_249 rfl H.1 rfl rfl ?_
        have H := H.2
        refine e_goto (pc := 252) (tgt := 224) dX9_done_252 (by decide) ?_
        obtain ⟨m, hm, H⟩ := H
        exact ih4 m hm _ _ _ H
  have L3 : ∀ (n3 : Nat) (x1 : Int) (x3 : Int) (x4 : Int) (x5 : Int) (x6 : Int) (g3 : HP), I3 n3 x1 x3 x4 x5 x6 g3 → Ev w Y_X9_done 140 [some (vR 55), some (vI x1), none, some (vI x3), some (vI x4), some (vI x5), some (vI x6)] [] g3 (rI K) := by
    intro n3
    induction n3 using Nat.strongRecOn with
    | ind n3 ih3 =>
      intro x1 x3 x4 x5 x6 g3 H
      have H := H3 n3 x1 x3 x4 x5 x6 g3 H
      refine e_iload (pc := 140) dX9_done_140 rfl ?_
      refine e_aload_n (pc := 142) dX9_done_142 rfl rfl ?_
      refine e_getI (q := 55) (ci := 9) (k := 0) (kz := 0) (C := RX9) (T := TX9) (N := 52) (x := (g3 55 0)) (pc := 143) dX9_done_143 rfl rfl rfl ev_in9 rfl ul_4_182 ⟨rfl, by decide⟩ rfl ?_
      refine e_icmp_ge (pc := 146) (tgt := 214) dX9_done_146 (by decide) (fun c8 => ?_) (fun c8 => ?_)
      · have H := H.1 c8
        refine e_aload_n (pc := 214) dX9_done_214 rfl rfl ?_
        refine e_invV (pc := 215) (Y' := Y_X9_newBar) (as := []) (st := []) (lv0 := [some (vR 55), none]) (q := 55) (ci := 9) (T := TX9) (N := 52) dX9_done_215 m_X9_newBar ul_6_19 ⟨ul_6_21, us_X9_newBar⟩ ⟨rfl, rfl⟩ rfl rfl rfl rfl rfl rfl rfl (c_X9_newBar w g3 H.1) ?_
        rintro _ hz ⟨_, rfl, rfl, hh⟩
        rw [hh]
        show Ev w Y_X9_done 218 [some (vR 55), some (vI x1), none, some (vI x3), some (vI x4), some (vI x5), some (vI x6)] [vI (b2i (∃ k : Int, 0 ≤ k ∧ k < g3 70 1 ∧ g3 82 k = 0 ∧ mBar g3 k))] g3 (rI K)
        have H := H.2
        refine e_ifb_eq (pc := 218) (tgt := 258) dX9_done_218 (by decide) (fun c9 => ?_) (fun c9 => ?_)
        · have H := H.1 c9
          refine e_aload_n (pc := 258) dX9_done_258 rfl rfl ?_
          refine e_getR (q := 55) (ci := 9) (k := 30) (y := 76) (C := RX9) (T := TX9) (N := 52) (pc := 259) dX9_done_259 rfl rfl ev_in9 rfl ul_4_212 ⟨rfl, rfl⟩ rfl ?_
          refine e_aload_n (pc := 262) dX9_done_262 rfl rfl ?_
          refine e_getI (q := 55) (ci := 9) (k := 29) (kz := 29) (C := RX9) (T := TX9) (N := 52) (x := (g3 55 29)) (pc := 263) dX9_done_263 rfl rfl rfl ev_in9 rfl ul_4_211 ⟨rfl, by decide⟩ rfl ?_
          refine e_iload (pc := 266) dX9_done_266 rfl ?_
          refine e_iast (q := 76) (pc := 268) dX9_done_268 rfl H.1 ?_
          have H := H.2
          refine e_aload_n (pc := 269) dX9_done_269 rfl rfl ?_
          refine e_getR (q := 55) (ci := 9) (k := 31) (y := 77) (C := RX9) (T := TX9) (N := 52) (pc := 270) dX9_done_270 rfl rfl ev_in9 rfl ul_4_213 ⟨rfl, rfl⟩ rfl ?_
          refine e_aload_n (pc := 273) dX9_done_273 rfl rfl ?_
          refine e_getI (q := 55) (ci := 9) (k := 29) (kz := 29) (C := RX9) (T := TX9) (N := 52) (x := (g3 55 29)) (pc := 274) dX9_done_274 rfl rfl rfl ev_in9 rfl ul_4_211 ⟨rfl, by decide⟩ rfl ?_
          refine e_iload (pc := 277) dX9_done_277 rfl ?_
          refine e_iast (q := 77) (pc := 279) dX9_done_279 rfl H.1 ?_
          have H := H.2
          refine e_aload_n (pc := 280) dX9_done_280 rfl rfl ?_
          refine e_getR (q := 55) (ci := 9) (k := 32) (y := 78) (C := RX9) (T := TX9) (N := 52) (pc := 281) dX9_done_281 rfl rfl ev_in9 rfl ul_4_214 ⟨rfl, rfl⟩ rfl ?_
          refine e_aload_n (pc := 284) dX9_done_284 rfl rfl ?_
          refine e_getI (q := 55) (ci := 9) (k := 29) (kz := 29) (C := RX9) (T := TX9) (N := 52) (x := (g3 55 29)) (pc := 285) dX9_done_285 rfl rfl rfl ev_in9 rfl ul_4_211 ⟨rfl, by decide⟩ rfl ?_
          refine e_iconst (pc := 288) dX9_done_288 ⟨by decide, by decide⟩ ?_
          refine e_zast (q := 78) (pc := 289) dX9_done_289 rfl H.1 (Or.inl rfl) ?_
          have H := H.2
          refine e_aload_n (pc := 290) dX9_done_290 rfl rfl ?_
          refine e_iconst (pc := 291) dX9_done_291 ⟨by decide, by decide⟩ ?_
          refine e_put (q := 55) (ci := 9) (k := 47) (kz := 47) (C := RX9) (T := TX9) (N := 52) (ty := .int) (pc := 292) dX9_done_292 rfl rfl rfl ev_in9 tyX9 tyX9_ok nmX9 rfl ul_4_229 ⟨rfl, by decide⟩ rfl (tyX9_ok 47 (by decide)) (Or.inl rfl) ?_
          refine e_iconst (pc := 295) dX9_done_295 ⟨by decide, by decide⟩ ?_
          refine e_istore (lv' := [some (vR 55), some (vI x1), none, some (vI x3), some (vI x4), some (vI x5), some (vI 0)]) (pc := 296) dX9_done_296 rfl rfl ?_
          refine e_mask [true, true, false, true, false, true, true] rfl ?_
          obtain ⟨m, H⟩ := H
          exact L5 m _ _ _ _ _ H
        · have H := H.2 c9
          refine e_iconst (pc := 221) dX9_done_221 ⟨by decide, by decide⟩ ?_
          refine e_istore (lv' := [some (vR 55), some (vI x1), none, some (vI x3), some (vI x4), some (vI x5), some (vI 0)]) (pc := 222) dX9_done_222 rfl rfl ?_
          refine e_mask [true, false, false, false, true, false, true] rfl ?_
          obtain ⟨m, H⟩ := H
          exact L4 m _ _ _ H
      · have H := H.2 c8
        refine e_iload (pc := 149) dX9_done_149 rfl ?_
        refine e_aload_n (pc := 151) dX9_done_151 rfl rfl ?_
        refine e_getR (q := 55) (ci := 9) (k := 5) (y := 60) (C := RX9) (T := TX9) (N := 52) (pc := 152) dX9_done_152 rfl rfl ev_in9 rfl ul_4_187 ⟨rfl, rfl⟩ rfl ?_
        refine e_iload (pc := 155) dX9_done_155 rfl ?_
        refine e_iald (q := 60) (x := (g3 60 x6)) (pc := 157) dX9_done_157 rfl H.1 rfl ?_
        have H := H.2
        refine e_iconst (pc := 158) dX9_done_158 ⟨by decide, by decide⟩ ?_
        refine e_iload (pc := 159) dX9_done_159 rfl ?_
        refine e_imul (pc := 161) dX9_done_161 H.1 ?_
        have H := H.2
        refine e_ishl (pc := 162) dX9_done_162 ?_
        refine e_ior (pc := 163) dX9_done_163 ?_
        refine e_istore (lv' := [some (vR 55), some (vI x1), none, some (vI x3), some (vI (ior x4 (ishl (g3 60 x6) (2 * x6)))), some (vI x5), some (vI x6)]) (pc := 164) dX9_done_164 rfl rfl ?_
        refine e_aload_n (pc := 166) dX9_done_166 rfl rfl ?_
        refine e_getR (q := 55) (ci := 9) (k := 26) (y := 74) (C := RX9) (T := TX9) (N := 52) (pc := 167) dX9_done_167 rfl rfl ev_in9 rfl ul_4_208 ⟨rfl, rfl⟩ rfl ?_
        refine e_iload_n (pc := 170) dX9_done_170 rfl rfl ?_
        refine e_iald (q := 74) (x := (g3 74 x1)) (pc := 171) dX9_done_171 rfl H.1 rfl ?_
        have H := H.2
        refine e_iload (pc := 172) dX9_done_172 rfl ?_
        refine e_invS (pc := 174) (Y' := Y_X9_has) (as := [vI (g3 74 x1), vI x6]) (st := []) (lv0 := [some (vI (g3 74 x1)), some (vI x6)]) dX9_done_174 m_X9_has ul_5_221 ul_5_222 ⟨rfl, rfl⟩ rfl rfl rfl rfl rfl (c_X9_has w (g3 74 x1) x6 g3 H.1) ?_
        rintro _ hz ⟨_, rfl, rfl, hh⟩
        rw [hh]
        show Ev w Y_X9_done 177 [some (vR 55), some (vI x1), none, some (vI x3), some (vI (ior x4 (ishl (g3 60 x6) (2 * x6)))), some (vI x5), some (vI x6)] [vI (b2i (mem (g3 74 x1) x6))] g3 (rI K)
        have H := H.2
        have Ho := H.1
        have H := H.2
        have J1 : ((¬ (mem (g3 74 x1) x6)) ∨ ((g3 60 x6) = x3)) → Ev w Y_X9_done 208 [some (vR 55), some (vI x1), none, some (vI x3), some (vI (ior x4 (ishl (g3 60 x6) (2 * x6)))), some (vI x5), some (vI x6)] [] g3 (rI K) := by
          intro hp
          have H := H.1 hp
          refine e_iinc (lv' := [some (vR 55), some (vI x1), none, some (vI x3), some (vI (ior x4 (ishl (g3 60 x6) (2 * x6)))), some (vI x5), some (vI (x6 + 1))]) (pc := 208) dX9_done_208 rfl H.1 rfl rfl ?_
          have H := H.2
          refine e_goto (pc := 211) (tgt := 140) dX9_done_211 (by decide) ?_
          obtain ⟨m, hm, H⟩ := H
          exact ih3 m hm _ _ _ _ _ _ H
        have J2 : ¬ ((¬ (mem (g3 74 x1) x6)) ∨ ((g3 60 x6) = x3)) → Ev w Y_X9_done 191 [some (vR 55), some (vI x1), none, some (vI x3), some (vI (ior x4 (ishl (g3 60 x6) (2 * x6)))), some (vI x5), some (vI x6)] [] g3 (rI K) := by
          intro hp
          have H := H.2 hp
          refine e_iload (pc := 191) dX9_done_191 rfl ?_
          refine e_iconst (pc := 193) dX9_done_193 ⟨by decide, by decide⟩ ?_
          refine e_iload (pc := 194) dX9_done_194 rfl ?_
          refine e_ishl (pc := 196) dX9_done_196 ?_
          refine e_ior (pc := 197) dX9_done_197 ?_
          refine e_istore (lv' := [some (vR 55), some (vI x1), none, some (vI x3), some (vI (ior x4 (ishl (g3 60 x6) (2 * x6)))), some (vI (ior x5 (ishl 1 x6))), some (vI x6)]) (pc := 198) dX9_done_198 rfl rfl ?_
          refine e_aload_n (pc := 200) dX9_done_200 rfl rfl ?_
          refine e_getR (q := 55) (ci := 9) (k := 5) (y := 60) (C := RX9) (T := TX9) (N := 52) (pc := 201) dX9_done_201 rfl rfl ev_in9 rfl ul_4_187 ⟨rfl, rfl⟩ rfl ?_
          refine e_iload (pc := 204) dX9_done_204 rfl ?_
          refine e_iload_n (pc := 206) dX9_done_206 rfl rfl ?_
          refine e_iast (q := 60) (pc := 207) dX9_done_207 rfl H.1 ?_
          have H := H.2
          refine e_iinc (lv' := [some (vR 55), some (vI x1), none, some (vI x3), some (vI (ior x4 (ishl (g3 60 x6) (2 * x6)))), some (vI (ior x5 (ishl 1 x6))), some (vI (x6 + 1))]) (pc := 208) dX9_done_208 rfl H.1 rfl rfl ?_
          have H := H.2
          refine e_goto (pc := 211) (tgt := 140) dX9_done_211 (by decide) ?_
          obtain ⟨m, hm, H⟩ := H
          exact ih3 m hm _ _ _ _ _ _ H
        refine e_ifb_eq (pc := 177) (tgt := 208) dX9_done_177 (by decide) (fun c10 => ?_) (fun c10 => ?_)
        · have Ho := Ho.1 c10
          exact J1 (Or.inl c10)
        · have Ho := Ho.2 c10
          refine e_aload_n (pc := 180) dX9_done_180 rfl rfl ?_
          refine e_getR (q := 55) (ci := 9) (k := 5) (y := 60) (C := RX9) (T := TX9) (N := 52) (pc := 181) dX9_done_181 rfl rfl ev_in9 rfl ul_4_187 ⟨rfl, rfl⟩ rfl ?_
          refine e_iload (pc := 184) dX9_done_184 rfl ?_
          refine e_iald (q := 60) (x := (g3 60 x6)) (pc := 186) dX9_done_186 rfl Ho.1 rfl ?_
          have Ho := Ho.2
          refine e_iload_n (pc := 187) dX9_done_187 rfl rfl ?_
          refine e_icmp_eq (pc := 188) (tgt := 208) dX9_done_188 (by decide) (fun c11 => ?_) (fun c11 => ?_)
          · exact J1 (Or.inr c11)
          · exact J2 (fun z => z.elim (fun z => z c10) c11)
  have L2 : ∀ (n2 : Nat) (x1 : Int) (x2 : Int) (x3 : Int) (g2 : HP), I2 n2 x1 x2 x3 g2 → Ev w Y_X9_done 54 [some (vR 55), some (vI x1), some (vI x2), some (vI x3), none, none, none] [] g2 (rI K) := by
    intro n2
    induction n2 using Nat.strongRecOn with
    | ind n2 ih2 =>
      intro x1 x2 x3 g2 H
      have H := H2 n2 x1 x2 x3 g2 H
      refine e_iload_n (pc := 54) dX9_done_54 rfl rfl ?_
      refine e_aload_n (pc := 55) dX9_done_55 rfl rfl ?_
      refine e_getI (q := 55) (ci := 9) (k := 0) (kz := 0) (C := RX9) (T := TX9) (N := 52) (x := (g2 55 0)) (pc := 56) dX9_done_56 rfl rfl rfl ev_in9 rfl ul_4_182 ⟨rfl, by decide⟩ rfl ?_
      refine e_icmp_ge (pc := 59) (tgt := 100) dX9_done_59 (by decide) (fun c12 => ?_) (fun c12 => ?_)
      · have H := H.1 c12
        refine e_aload_n (pc := 100) dX9_done_100 rfl rfl ?_
        refine e_getI (q := 55) (ci := 9) (k := 29) (kz := 29) (C := RX9) (T := TX9) (N := 52) (x := (g2 55 29)) (pc := 101) dX9_done_101 rfl rfl rfl ev_in9 rfl ul_4_211 ⟨rfl, by decide⟩ rfl ?_
        refine e_sipush (pc := 104) dX9_done_104 ⟨by decide, by decide⟩ (by decide) ?_
        refine e_icmp_ne (pc := 107) (tgt := 113) dX9_done_107 (by decide) (fun c13 => ?_) (fun c13 => ?_)
        · have H := H.1 c13
          refine e_aload_n (pc := 113) dX9_done_113 rfl rfl ?_
          refine e_getR (q := 55) (ci := 9) (k := 12) (y := 65) (C := RX9) (T := TX9) (N := 52) (pc := 114) dX9_done_114 rfl rfl ev_in9 rfl ul_4_194 ⟨rfl, rfl⟩ rfl ?_
          refine e_aload_n (pc := 117) dX9_done_117 rfl rfl ?_
          refine e_getR (q := 55) (ci := 9) (k := 25) (y := 73) (C := RX9) (T := TX9) (N := 52) (pc := 118) dX9_done_118 rfl rfl ev_in9 rfl ul_4_207 ⟨rfl, rfl⟩ rfl ?_
          refine e_iconst (pc := 121) dX9_done_121 ⟨by decide, by decide⟩ ?_
          refine e_iload_n (pc := 122) dX9_done_122 rfl rfl ?_
          refine e_imul (pc := 123) dX9_done_123 H.1 ?_
          have H := H.2
          refine e_iald (q := 73) (x := (g2 73 (3 * x1))) (pc := 124) dX9_done_124 rfl H.1 rfl ?_
          have H := H.2
          refine e_iald (q := 65) (x := (g2 65 (g2 73 (3 * x1)))) (pc := 125) dX9_done_125 rfl H.1 rfl ?_
          have H := H.2
          refine e_istore_n (lv' := [some (vR 55), some (vI x1), some (vI x2), some (vI (g2 65 (g2 73 (3 * x1)))), none, none, none]) (pc := 126) dX9_done_126 rfl rfl rfl ?_
          refine e_iconst (pc := 127) dX9_done_127 ⟨by decide, by decide⟩ ?_
          refine e_istore (lv' := [some (vR 55), some (vI x1), some (vI x2), some (vI (g2 65 (g2 73 (3 * x1)))), some (vI 0), none, none]) (pc := 128) dX9_done_128 rfl rfl ?_
          refine e_iconst (pc := 130) dX9_done_130 ⟨by decide, by decide⟩ ?_
          refine e_istore (lv' := [some (vR 55), some (vI x1), some (vI x2), some (vI (g2 65 (g2 73 (3 * x1)))), some (vI 0), some (vI 0), none]) (pc := 131) dX9_done_131 rfl rfl ?_
          refine e_aload_n (pc := 133) dX9_done_133 rfl rfl ?_
          refine e_invV (pc := 134) (Y' := Y_X9_layBars) (as := []) (st := []) (lv0 := [some (vR 55), none]) (q := 55) (ci := 9) (T := TX9) (N := 52) dX9_done_134 m_X9_layBars ul_6_15 ⟨ul_6_17, us_X9_layBars⟩ ⟨rfl, rfl⟩ rfl rfl rfl rfl rfl rfl rfl (c_X9_layBars w g2 _ H) ?_
          rintro _ h25 ⟨rfl, H⟩
          show Ev w Y_X9_done 137 [some (vR 55), some (vI x1), some (vI x2), some (vI (g2 65 (g2 73 (3 * x1)))), some (vI 0), some (vI 0), none] [] h25 (rI K)
          refine e_iconst (pc := 137) dX9_done_137 ⟨by decide, by decide⟩ ?_
          refine e_istore (lv' := [some (vR 55), some (vI x1), some (vI x2), some (vI (g2 65 (g2 73 (3 * x1)))), some (vI 0), some (vI 0), some (vI 0)]) (pc := 138) dX9_done_138 rfl rfl ?_
          refine e_mask [true, true, false, true, true, true, true] rfl ?_
          obtain ⟨m, H⟩ := H
          exact L3 m _ _ _ _ _ _ H
        · have H := H.2 c13
          refine e_bipush (pc := 110) dX9_done_110 ⟨by decide, by decide⟩ (by decide) ?_
          exact e_ret (pc := 112) (v := some (vI (-3))) dX9_done_112 rfl trivial ⟨_, rfl, H⟩
      · have H := H.2 c12
        refine e_aload_n (pc := 62) dX9_done_62 rfl rfl ?_
        refine e_getR (q := 55) (ci := 9) (k := 26) (y := 74) (C := RX9) (T := TX9) (N := 52) (pc := 63) dX9_done_63 rfl rfl ev_in9 rfl ul_4_208 ⟨rfl, rfl⟩ rfl ?_
        refine e_iload_n (pc := 66) dX9_done_66 rfl rfl ?_
        refine e_iald (q := 74) (x := (g2 74 x1)) (pc := 67) dX9_done_67 rfl H.1 rfl ?_
        have H := H.2
        refine e_iload_n (pc := 68) dX9_done_68 rfl rfl ?_
        refine e_invS (pc := 69) (Y' := Y_X9_has) (as := [vI (g2 74 x1), vI x3]) (st := []) (lv0 := [some (vI (g2 74 x1)), some (vI x3)]) dX9_done_69 m_X9_has ul_5_221 ul_5_222 ⟨rfl, rfl⟩ rfl rfl rfl rfl rfl (c_X9_has w (g2 74 x1) x3 g2 H.1) ?_
        rintro _ hz ⟨_, rfl, rfl, hh⟩
        rw [hh]
        show Ev w Y_X9_done 72 [some (vR 55), some (vI x1), some (vI x2), some (vI x3), none, none, none] [vI (b2i (mem (g2 74 x1) x3))] g2 (rI K)
        have H := H.2
        have Ho := H.1
        have H := H.2
        have J1 : ((¬ (mem (g2 74 x1) x3)) ∨ ((∃ k : Int, 0 ≤ k ∧ k < g2 70 1 ∧ mLet g2 k x2 x3 ((g2 55 8) % 24)))) → Ev w Y_X9_done 94 [some (vR 55), some (vI x1), some (vI x2), some (vI x3), none, none, none] [] g2 (rI K) := by
          intro hp
          have H := H.1 hp
          refine e_iinc (lv' := [some (vR 55), some (vI x1), some (vI x2), some (vI (x3 + 1)), none, none, none]) (pc := 94) dX9_done_94 rfl H.1 rfl rfl ?_
          have H := H.2
          refine e_goto (pc := 97) (tgt := 54) dX9_done_97 (by decide) ?_
          obtain ⟨m, hm, H⟩ := H
          exact ih2 m hm _ _ _ _ H
        have J2 : ¬ ((¬ (mem (g2 74 x1) x3)) ∨ ((∃ k : Int, 0 ≤ k ∧ k < g2 70 1 ∧ mLet g2 k x2 x3 ((g2 55 8) % 24)))) → Ev w Y_X9_done 91 [some (vR 55), some (vI x1), some (vI x2), some (vI x3), none, none, none] [] g2 (rI K) := by
          intro hp
          have H := H.2 hp
          refine e_bipush (pc := 91) dX9_done_91 ⟨by decide, by decide⟩ (by decide) ?_
          exact e_ret (pc := 93) (v := some (vI (-2))) dX9_done_93 rfl trivial ⟨_, rfl, H⟩
        refine e_ifb_eq (pc := 72) (tgt := 94) dX9_done_72 (by decide) (fun c14 => ?_) (fun c14 => ?_)
        · have Ho := Ho.1 c14
          exact J1 (Or.inl c14)
        · have Ho := Ho.2 c14
          refine e_aload_n (pc := 75) dX9_done_75 rfl rfl ?_
          refine e_iload_n (pc := 76) dX9_done_76 rfl rfl ?_
          refine e_iload_n (pc := 77) dX9_done_77 rfl rfl ?_
          refine e_aload_n (pc := 78) dX9_done_78 rfl rfl ?_
          refine e_getI (q := 55) (ci := 9) (k := 8) (kz := 8) (C := RX9) (T := TX9) (N := 52) (x := (g2 55 8)) (pc := 79) dX9_done_79 rfl rfl rfl ev_in9 rfl ul_4_190 ⟨rfl, by decide⟩ rfl ?_
          refine e_bipush (pc := 82) dX9_done_82 ⟨by decide, by decide⟩ (by decide) ?_
          refine e_irem (pc := 84) dX9_done_84 ⟨Ho.1, by decide⟩ ?_
          have Ho := Ho.2
          refine e_invV (pc := 85) (Y' := Y_X9_mayTurn) (as := [vI x2, vI x3, vI ((g2 55 8) % 24)]) (st := []) (lv0 := [some (vR 55), some (vI x2), some (vI x3), some (vI ((g2 55 8) % 24)), none, none, none, none]) (q := 55) (ci := 9) (T := TX9) (N := 52) dX9_done_85 m_X9_mayTurn ul_5_178 ⟨ul_5_180, us_X9_mayTurn⟩ ⟨rfl, rfl⟩ rfl rfl rfl rfl rfl rfl rfl (c_X9_mayTurn w x2 x3 ((g2 55 8) % 24) g2 Ho.1) ?_
          rintro _ hz ⟨_, rfl, rfl, hh⟩
          rw [hh]
          show Ev w Y_X9_done 88 [some (vR 55), some (vI x1), some (vI x2), some (vI x3), none, none, none] [vI (b2i (∃ k : Int, 0 ≤ k ∧ k < g2 70 1 ∧ mLet g2 k x2 x3 ((g2 55 8) % 24)))] g2 (rI K)
          have Ho := Ho.2
          refine e_ifb_ne (pc := 88) (tgt := 94) dX9_done_88 (by decide) (fun c15 => ?_) (fun c15 => ?_)
          · exact J1 (Or.inr c15)
          · exact J2 (fun z => z.elim (fun z => z c14) c15)
  have L1 : ∀ (n1 : Nat) (x1 : Int) (g1 : HP), I1 n1 x1 g1 → Ev w Y_X9_done 20 [some (vR 55), some (vI x1), none, none, none, none, none] [] g1 (rI K) := by
    intro n1
    induction n1 using Nat.strongRecOn with
    | ind n1 ih1 =>
      intro x1 g1 H
      have H := H1 n1 x1 g1 H
      refine e_aload_n (pc := 20) dX9_done_20 rfl rfl ?_
      refine e_getR (q := 55) (ci := 9) (k := 27) (y := 75) (C := RX9) (T := TX9) (N := 52) (pc := 21) dX9_done_21 rfl rfl ev_in9 rfl ul_4_209 ⟨rfl, rfl⟩ rfl ?_
      refine e_iload_n (pc := 24) dX9_done_24 rfl rfl ?_
      refine e_zald (q := 75) (x := (g1 75 x1)) (pc := 25) dX9_done_25 rfl H.1 rfl ?_
      have H := H.2
      refine e_if_ne (pc := 26) (tgt := 35) dX9_done_26 (by decide) (fun c16 => ?_) (fun c16 => ?_)
      · have H := H.1 c16
        refine e_aload_n (pc := 35) dX9_done_35 rfl rfl ?_
        refine e_getI (q := 55) (ci := 9) (k := 22) (kz := 22) (C := RX9) (T := TX9) (N := 52) (x := (g1 55 22)) (pc := 36) dX9_done_36 rfl rfl rfl ev_in9 rfl ul_4_204 ⟨rfl, by decide⟩ rfl ?_
        have J : Ev w Y_X9_done 51 [some (vR 55), some (vI x1), none, none, none, none, none] [vI (cif ((g1 55 22) = 0) (g1 55 21) 6)] g1 (rI K) := by
          refine e_istore_n (lv' := [some (vR 55), some (vI x1), some (vI (cif ((g1 55 22) = 0) (g1 55 21) 6)), none, none, none, none]) (pc := 51) dX9_done_51 rfl rfl rfl ?_
          refine e_iconst (pc := 52) dX9_done_52 ⟨by decide, by decide⟩ ?_
          refine e_istore_n (lv' := [some (vR 55), some (vI x1), some (vI (cif ((g1 55 22) = 0) (g1 55 21) 6)), some (vI 0), none, none, none]) (pc := 53) dX9_done_53 rfl rfl rfl ?_
          obtain ⟨m, H⟩ := H
          exact L2 m _ _ _ _ H
        refine e_if_eq (pc := 39) (tgt := 47) dX9_done_39 (by decide) (fun c17 => ?_) (fun c17 => ?_)
        · refine e_aload_n (pc := 47) dX9_done_47 rfl rfl ?_
          refine e_getI (q := 55) (ci := 9) (k := 21) (kz := 21) (C := RX9) (T := TX9) (N := 52) (x := (g1 55 21)) (pc := 48) dX9_done_48 rfl rfl rfl ev_in9 rfl ul_4_203 ⟨rfl, by decide⟩ rfl ?_
          exact e_top (cif_t c17) J
        · refine e_bipush (pc := 42) dX9_done_42 ⟨by decide, by decide⟩ (by decide) ?_
          refine e_goto (pc := 44) (tgt := 51) dX9_done_44 (by decide) ?_
          exact e_top (cif_f c17) J
      · have H := H.2 c16
        refine e_iinc (lv' := [some (vR 55), some (vI (x1 + 1)), none, none, none, none, none]) (pc := 29) dX9_done_29 rfl H.1 rfl rfl ?_
        have H := H.2
        refine e_goto (pc := 32) (tgt := 20) dX9_done_32 (by decide) ?_
        obtain ⟨m, hm, H⟩ := H
        exact ih1 m hm _ _ H
  refine e_aload_n (pc := 0) dX9_done_0 rfl rfl ?_
  refine e_getI (q := 55) (ci := 9) (k := 20) (kz := 20) (C := RX9) (T := TX9) (N := 52) (x := (h 55 20)) (pc := 1) dX9_done_1 rfl rfl rfl ev_in9 rfl ul_4_202 ⟨rfl, by decide⟩ rfl ?_
  have Ho := H.1
  have H := H.2
  have J1 : (((h 55 20) = 0) ∨ (¬ (unM h) = 1)) → Ev w Y_X9_done 15 [some (vR 55), none, none, none, none, none, none] [] h (rI K) := by
    intro hp
    have H := H.1 hp
    refine e_bipush (pc := 15) dX9_done_15 ⟨by decide, by decide⟩ (by decide) ?_
    exact e_ret (pc := 17) (v := some (vI (-2))) dX9_done_17 rfl trivial ⟨_, rfl, H⟩
  have J2 : ¬ (((h 55 20) = 0) ∨ (¬ (unM h) = 1)) → Ev w Y_X9_done 18 [some (vR 55), none, none, none, none, none, none] [] h (rI K) := by
    intro hp
    have H := H.2 hp
    refine e_iconst (pc := 18) dX9_done_18 ⟨by decide, by decide⟩ ?_
    refine e_istore_n (lv' := [some (vR 55), some (vI 0), none, none, none, none, none]) (pc := 19) dX9_done_19 rfl rfl rfl ?_
    obtain ⟨m, H⟩ := H
    exact L1 m _ _ H
  refine e_if_eq (pc := 4) (tgt := 15) dX9_done_4 (by decide) (fun c1 => ?_) (fun c1 => ?_)
  · have Ho := Ho.1 c1
    exact J1 (Or.inl c1)
  · have Ho := Ho.2 c1
    refine e_aload_n (pc := 7) dX9_done_7 rfl rfl ?_
    refine e_invV (pc := 8) (Y' := Y_X9_unlikeMany) (as := []) (st := []) (lv0 := [some (vR 55), none, none, none, none]) (q := 55) (ci := 9) (T := TX9) (N := 52) dX9_done_8 m_X9_unlikeMany ul_5_235 ⟨ul_5_237, us_X9_unlikeMany⟩ ⟨rfl, rfl⟩ rfl rfl rfl rfl rfl rfl rfl (c_X9_unlikeMany w h Ho.1) ?_
    rintro _ hz ⟨_, rfl, rfl, hh⟩
    rw [hh]
    show Ev w Y_X9_done 11 [some (vR 55), none, none, none, none, none, none] [vI (unM h)] h (rI K)
    have Ho := Ho.2
    refine e_iconst (pc := 11) dX9_done_11 ⟨by decide, by decide⟩ ?_
    refine e_icmp_eq (pc := 12) (tgt := 18) dX9_done_12 (by decide) (fun c2 => ?_) (fun c2 => ?_)
    · exact J2 (fun z => z.elim c1 (fun z => z c2))
    · exact J1 (Or.inr c2)
set_option maxRecDepth 100000 in
set_option maxHeartbeats 4000000 in
theorem c_X9_done (w : WD)  (h : HP) (K : Int → HP → Prop)  (H : S_X9_done  h K) : Ev w Y_X9_done 0 [some (vR 55), none, none, none, none, none, none] [] h (rI K) := by
  obtain ⟨L, ⟨hH, hV, hE, hF, hS, h8, h29, hL⟩, HN, HK⟩ := H
  have h10 := hH.1
  have h23 := hE.1
  have h16 := hV.1
  by_cases hno : h 55 20 = 0 ∨ ¬ unM h = 1
  case pos => exact v_X9_done w h K (fun _ _ _ => False) (fun _ _ _ _ _ => False) (fun _ _ _ _ _ _ _ => False) (fun _ _ _ _ => False) (fun _ _ _ _ _ _ => False) ⟨⟨fun _ => trivial, fun _ => ⟨⟨hH, hV, hE⟩, trivial⟩⟩, fun c => HN c, fun c => absurd hno c⟩ (fun _ _ _ f => f.elim) (fun _ _ _ _ _ f => f.elim) (fun _ _ _ _ _ _ _ f => f.elim) (fun _ _ _ _ f => f.elim) (fun _ _ _ _ _ _ f => f.elim)
  have HK := HK hno
  have hun : unM h = 1 := Classical.byContradiction (fun y => hno (Or.inr y))
  obtain ⟨j, j0, j1, j2⟩ : ∃ i : Int, 0 ≤ i ∧ i < (((h 55 23).toNat : Nat) : Int) ∧ ulM h i := cnt_ex (by unfold unM at hun; omega)
  have j3 := j2.1
  have hin3 : ∀ k : Nat, (k : Int) ≤ 10 → in3 (h 60) k := fun k hk t t0 t1 => (hH.2.1 t t0 (by omega)).2.2.2
  refine v_X9_done w h K
    (fun n x1 g => g = h ∧ ∃ k : Nat, x1 = (k : Int) ∧ (k : Int) ≤ j ∧ n = 12 - k ∧ ∀ i : Int, 0 ≤ i → i < (k : Int) → ¬ h 75 i = 1)
    (fun n x1 x2 x3 g => g = h ∧ x1 = fsN (fun i => h 75 i = 1) (h 55 23).toNat ∧ (0 ≤ x1 ∧ x1 < h 55 23) ∧ x2 = whM h ∧ (0 ≤ x3 ∧ x3 ≤ h 55 0) ∧ n = (10 - x3).toNat ∧ ∀ t : Int, 0 ≤ t → t < x3 → mem (h 74 x1) t → ∃ k : Int, 0 ≤ k ∧ k < h 70 1 ∧ mLet h k (whM h) t (h 55 8 % 24))
    (fun n x1 x3 x4 x5 x6 g => x1 = fsN (fun i => h 75 i = 1) (h 55 23).toNat ∧ (0 ≤ x1 ∧ x1 < h 55 23) ∧ rtM h x1 ∧ ¬ h 55 29 = 200 ∧ x3 = vM h x1 ∧ ∃ k : Nat, x6 = (k : Int) ∧ (k : Int) ≤ h 55 0 ∧ n = 10 - k ∧ x4 = pack (h 60) k ∧ x5 = bset (chP h x1) k ∧ (∀ q, q ≠ 60 → q ≠ 82 → g q = h q) ∧ (∀ i : Int, 0 ≤ i → i < h 70 1 → g 82 i = b2i (mBar h i)) ∧ g 60 = stK h x1 (k : Int))
    (fun n x4 x6 g => ∃ a : Int, (a = fsN (fun i => h 75 i = 1) (h 55 23).toNat ∧ (0 ≤ a ∧ a < h 55 23) ∧ rtM h a ∧ ¬ h 55 29 = 200 ∧ mNB h (h 60) (stM h a)) ∧ x4 = pack (h 60) (h 55 0).toNat ∧ (0 ≤ x6 ∧ x6 ≤ h 55 0) ∧ n = (10 - x6).toNat ∧ (∀ q, q ≠ 60 → q ≠ 82 → g q = h q) ∧ ∀ t : Int, g 60 t = cif (0 ≤ t ∧ t < x6) (h 60 t) (stM h a t))
    (fun n x1 x3 x5 x6 g => (x1 = fsN (fun i => h 75 i = 1) (h 55 23).toNat ∧ (0 ≤ x1 ∧ x1 < h 55 23) ∧ rtM h x1 ∧ ¬ h 55 29 = 200 ∧ ¬ mNB h (h 60) (stM h x1)) ∧ x3 = vM h x1 ∧ x5 = chM h x1 ∧ ∃ k : Nat, x6 = (k : Int) ∧ (k : Int) ≤ h 55 0 ∧ n = 10 - k ∧ mdM x1 L h g k)
    ⟨⟨fun _ => trivial, fun _ => ⟨⟨hH, hV, hE⟩, trivial⟩⟩, fun c => absurd c hno, fun _ => ⟨12, rfl, 0, rfl, by omega, rfl, fun i i0 i1 => by omega⟩⟩ ?_ ?_ ?_ ?_ ?_
  · rintro n x1 g ⟨rfl, k, rfl, hk, rfl, hn⟩
    have h01 := (hE.2.2.1 (k : Int) (by omega) (by omega)).2
    refine ⟨by omega, fun c => ⟨10, rfl, (fsN_at hn (by omega) (by omega)).symm, by omega, rfl, by omega, rfl, fun t t0 t1 => by omega⟩, fun c => ⟨⟨by omega, by omega⟩, 12 - (k + 1), by omega, rfl, k + 1, by omega, ?_, rfl, fun i i0 i1 => ?_⟩⟩
    · have : (k : Int) ≠ j := fun y => by rw [y] at c; omega
      omega
    · by_cases e : i = (k : Int)
      · subst e; omega
      · exact hn i i0 (by omega)
  · rintro n a x2 x3 g ⟨rfl, hae, ha, rfl, h3, rfl, hr⟩
    have hm := (hE.2.2.1 a ha.1 (by omega)).1
    have hw := hE.2.2.2 a ha.1 ha.2
    refine ⟨fun c => ⟨fun c2 => ⟨⟨by omega, by omega⟩, by omega, by omega, ⟨hF, hH⟩, fun g1 f1 f2 => ⟨10, hae, ha, fun t t0 t1 => hr t t0 (by omega), c2, rfl, 0, rfl, by omega, rfl, rfl, rfl, fun q _ b => f1 q b, f2, ?_⟩⟩, fun c2 => ((HK a hae ha).2 (fun t t0 t1 => hr t t0 (by omega))).1 c2⟩, fun c => ⟨by omega, ⟨⟨hm.1, by omega⟩, by omega, by omega⟩, ⟨fun _ => trivial, fun _ => ⟨h8.1, ⟨hF, by omega⟩, trivial⟩⟩, fun z => ⟨⟨by omega, by omega⟩, (10 - (x3 + 1)).toNat, by omega, rfl, hae, ha, rfl, by omega, rfl, fun t t0 t1 tm => ?_⟩, fun z => (HK a hae ha).1 (fun y => z ?_)⟩⟩
    · rw [f1 60 (by decide)]
      funext t
      unfold stK
      rw [cif_f (by omega)]
    · by_cases e : t = x3
      · subst e
        rcases z with z | z
        · exact absurd tm z
        · exact z
      · exact hr t t0 (by omega) tm
    · by_cases m : mem (g 74 a) x3
      · exact Or.inr (y x3 h3.1 (by omega) m)
      · exact Or.inl m
  · rintro n a x3 x4 x5 x6 g ⟨hae, ha, hrt, h200, rfl, k, rfl, hk, rfl, rfl, rfl, hg, h82, h60⟩
    have hm := (hE.2.2.1 a ha.1 (by omega)).1
    have hv := vM_b hV hE ha
    have hHg : mHOK g := mHOK_st hH hv (by rw [hg 55 (by decide) (by decide)]) (hg _ (by decide) (by decide)) (hg _ (by decide) (by decide)) (hg _ (by decide) (by decide)) (hg _ (by decide) (by decide)) h60
    have g55 : g 55 = h 55 := hg _ (by decide) (by decide)
    have g74 : g 74 = h 74 := hg _ (by decide) (by decide)
    have g70 : g 70 = h 70 := hg _ (by decide) (by decide)
    have gk : g 60 (k : Int) = h 60 (k : Int) := by rw [h60]; unfold stK; rw [cif_f (by omega)]
    rw [g55, g74, g70, gk]
    refine ⟨fun c => ⟨⟨by unfold mfOK; rw [g70, hg 71 (by decide) (by decide)]; exact hF, hHg⟩, ?_⟩, fun c => ⟨by omega, ⟨by omega, by omega⟩, by omega, ⟨⟨hm.1, by omega⟩, by omega, by omega⟩, ⟨fun _ => trivial, fun _ => ⟨by omega, trivial⟩⟩, fun z => ⟨⟨by omega, by omega⟩, 10 - (k + 1), by omega, hae, ha, hrt, h200, rfl, k + 1, by omega, by omega, rfl, ?_, ?_, hg, h82, ?_⟩, fun z => ⟨by omega, ⟨by omega, by omega⟩, 10 - (k + 1), by omega, hae, ha, hrt, h200, rfl, k + 1, by omega, by omega, rfl, ?_, ?_, fun q b1 b2 => by rw [sth_ne b1]; exact hg q b1 b2, fun i i0 i1 => by rw [sth_ne (by decide)]; exact h82 i i0 i1, ?_⟩⟩⟩
    · have ek : (k : Int) = h 55 0 := by omega
      have ekn : k = (h 55 0).toNat := by omega
      have es : stK h a (k : Int) = stM h a := stK_10 (by omega) (by omega)
      rw [es] at h60
      have eb : bset (chP h a) k = chM h a := (bset_past (by omega) (fun i i0 i1 z => by have := z.1; omega)).symm
      have hnb : (∃ i : Int, 0 ≤ i ∧ i < h 70 1 ∧ g 82 i = 0 ∧ mBar g i) ↔ mNB h (h 60) (stM h a) := by
        unfold mNB
        have q1 : ∀ i : Int, mBar g i ↔ mBrF h i (stM h a) := fun i => by rw [mBar_F (h := h) (hg _ (by decide) (by decide)) (hg _ (by decide) (by decide)) (hg _ (by decide) (by decide)), h60]
        have q2 : ∀ i : Int, mBar h i ↔ mBrF h i (h 60) := fun i => mBar_F rfl rfl rfl
        exact ⟨fun ⟨i, b1, b2, b3, b4⟩ => ⟨i, b1, b2, (q1 i).mp b4, fun y => by rw [h82 i b1 b2, b2i_0] at b3; exact b3 ((q2 i).mpr y)⟩, fun ⟨i, b1, b2, b3, b4⟩ => ⟨i, b1, b2, by rw [h82 i b1 b2, b2i_0]; exact fun y => b4 ((q2 i).mp y), (q1 i).mpr b3⟩⟩
      rw [hnb, eb, ← ekn]
      refine ⟨fun z => ⟨by omega, by omega, by omega, 10, ⟨hae, ha, hrt, h200, z⟩, rfl, rfl, 0, rfl, by omega, rfl, ?_⟩, fun z => ⟨10, a, ⟨hae, ha, hrt, h200, z⟩, by rw [ekn], by omega, rfl, hg, fun t => by rw [cif_f (by omega), h60]⟩⟩
      have eq : ∀ q, q ≠ 76 → q ≠ 77 → q ≠ 78 → q ≠ 55 → sth (sth (sth (sth g 76 (h 55 29) (chM h a)) 77 (h 55 29) (pack (h 60) k)) 78 (h 55 29) 0) 55 47 0 q = g q := fun q b1 b2 b3 b4 => by rw [sth_ne b4, sth_ne b3, sth_ne b2, sth_ne b1]
      refine ⟨fun q a1 a2 a3 a4 a5 a6 a7 a8 a9 => by rw [eq q a4 a5 a6 a1]; exact hg q a2 a8, fun i a1 a2 => by rw [sth_eq, us_n a2, sth_ne (by decide), sth_ne (by decide), sth_ne (by decide), g55], by rw [eq 60 (by decide) (by decide) (by decide) (by decide)]; exact h60, fun t t0 => ?_, ?_, ?_, ?_, by rw [sth_eq, us_s]; rfl, fun i a1 => absurd a1 (by simp [rwL]), ?_⟩
      · rw [eq 61 (by decide) (by decide) (by decide) (by decide), hg 61 (by decide) (by decide), cif_f (by omega)]
      · rw [sth_ne (by decide), sth_ne (by decide), sth_ne (by decide), sth_eq, hg 76 (by decide) (by decide)]
      · rw [sth_ne (by decide), sth_ne (by decide), sth_eq, sth_ne (by decide), hg 77 (by decide) (by decide), ekn]
      · rw [sth_ne (by decide), sth_eq, sth_ne (by decide), sth_ne (by decide), hg 78 (by decide) (by decide)]
      · refine ⟨by rw [sth_eq, us_n (by decide), sth_ne (by decide), sth_ne (by decide), sth_ne (by decide), g55]; exact hL.1, hL.2.1, fun i hi => ?_⟩
        rw [leM_c (h := h) (by rw [eq 80 (by decide) (by decide) (by decide) (by decide)]; exact hg _ (by decide) (by decide))]
        exact hL.2.2 i hi
    · rw [pack_s (hin3 (k + 1) (by omega) (k : Int) (by omega) (by omega)).1]
      exact pack_or (hin3 k (by omega)) (by omega) (hin3 (k + 1) (by omega) (k : Int) (by omega) (by omega))
    · have zc : ¬ chP h a (k : Int) := fun y => z.elim (fun q => q y.2.1) (fun q => y.2.2 q)
      rw [bset_s, b2i_f zc, Int.zero_mul, Int.add_zero]
    · rw [h60]
      have zc : ¬ chP h a (k : Int) := fun y => z.elim (fun q => q y.2.1) (fun q => y.2.2 q)
      funext t
      unfold stK
      refine cif_c ⟨fun y => ⟨y.1, by omega, y.2.2⟩, fun y => ⟨y.1, ?_, y.2.2⟩⟩
      have h1 := y.2.1
      by_cases e : t = (k : Int)
      · subst e; exact absurd y.2.2 zc
      · omega
    · rw [pack_s (hin3 (k + 1) (by omega) (k : Int) (by omega) (by omega)).1]
      exact pack_or (hin3 k (by omega)) (by omega) (hin3 (k + 1) (by omega) (k : Int) (by omega) (by omega))
    · have zc : chP h a (k : Int) := ⟨by omega, Classical.byContradiction (fun q => z (Or.inl q)), fun q => z (Or.inr q)⟩
      rw [bset_or (by omega), bset_s, b2i_t zc, Int.one_mul]
    · have zc : chP h a (k : Int) := ⟨by omega, Classical.byContradiction (fun q => z (Or.inl q)), fun q => z (Or.inr q)⟩
      rw [sth_eq, h60]
      funext t
      by_cases e : t = (k : Int)
      · subst e; rw [us_s]; unfold stK; rw [cif_t ⟨by omega, by omega, zc⟩]
      · rw [us_n e]
        unfold stK
        exact cif_c ⟨fun y => ⟨y.1, by omega, y.2.2⟩, fun y => ⟨y.1, by omega, y.2.2⟩⟩
  · rintro n x4 x6 g ⟨a, ⟨hae, ha, hrt, h200, hnb⟩, rfl, h6, rfl, hg, h60⟩
    have g55 : g 55 = h 55 := hg _ (by decide) (by decide)
    rw [g55]
    refine ⟨fun c => (((HK a hae ha).2 hrt).2 h200).1 hnb g (fun q b => ?_), fun c => ⟨⟨by omega, by omega⟩, by omega, ⟨by omega, by omega⟩, (10 - (x6 + 1)).toNat, by omega, a, ⟨hae, ha, hrt, h200, hnb⟩, rfl, by omega, rfl, fun q b1 b2 => by rw [sth_ne b1]; exact hg q b1 b2, fun t => ?_⟩⟩
    · by_cases e : q = 60
      · subst e
        funext t
        rw [h60 t]
        by_cases z : 0 ≤ t ∧ t < x6
        · rw [cif_t z]
        · rw [cif_f z]
          unfold stM stK
          rw [cif_f (fun y => z ⟨y.1, by have := y.2.2.1; omega⟩)]
      · exact hg q e b
    · rw [sth_eq, pack_get (hin3 _ (by omega)) (by omega) (by omega) (by omega), if_pos (by omega)]
      by_cases e : t = x6
      · rw [e, us_s, cif_t (by omega)]
      · rw [us_n e, h60 t]
        exact cif_c ⟨fun y => by omega, fun y => by omega⟩
  · rintro n a x3 x5 x6 g ⟨⟨hae, ha, hrt, h200, hnb⟩, rfl, rfl, k, rfl, hk, rfl, hmd⟩
    have hm := (hE.2.2.1 a ha.1 (by omega)).1
    have hcb : 0 ≤ chM h a ∧ chM h a < 1024 := bset_b _ (n := 10)
    obtain ⟨p1, p2, p3, p4, p5, p6, p7, p8, p9, p10⟩ := hmd
    have g0 : g 55 0 = h 55 0 := p2 0 (by decide) (by decide)
    have g29 : g 55 29 = h 55 29 := p2 29 (by decide) (by decide)
    have g74 : g 74 = h 74 := p1 _ (by decide) (by decide) (by decide) (by decide) (by decide) (by decide) (by decide) (by decide) (by decide)
    have hmd : mdM a L h g k := ⟨p1, p2, p3, p4, p5, p6, p7, p8, p9, p10⟩
    rw [g0]
    refine ⟨fun c => ⟨by rw [g29]; exact ⟨by omega, by omega⟩, by omega, hcb, (((HK a hae ha).2 hrt).2 h200).2 hnb g (by rw [show (h 55 0).toNat = k by omega]; exact hmd)⟩, fun c => ?_⟩
    rw [g74, g29]
    refine ⟨by omega, ⟨⟨hm.1, by omega⟩, by omega, by omega⟩, fun z => ?_, fun z => ?_⟩
    · have zc : ¬ mem (chM h a) (k : Int) := fun y => z ((chM_m (by omega) (by omega)).mp y).2.1
      refine ⟨⟨⟨hcb.1, by omega⟩, by omega, by omega⟩, fun _ => ⟨⟨by omega, by omega⟩, 10 - (k + 1), by omega, ⟨hae, ha, hrt, h200, hnb⟩, rfl, rfl, k + 1, by omega, by omega, rfl, ?_⟩, fun y => absurd y zc⟩
      exact ⟨p1, p2, p3, fun t t0 => by rw [p4 t t0, cif_step zc], p5, p6, p7, by rw [rwL_f zc]; exact p8, by rw [rwL_f zc]; exact p9, by rw [lgF_f z]; exact p10⟩
    · refine ⟨lgF (h 55 21) (h 55 8) (h 74 a) (vM h a) L k, ⟨p10, by rw [p2 8 (by decide) (by decide)]; exact h8.1⟩, fun g2 f1 f2 f3 => ?_⟩
      rw [p2 21 (by decide) (by decide), p2 8 (by decide) (by decide), ← lgF_t z] at f3
      have r1 : ∀ q, q ≠ 55 → q ≠ 60 → q ≠ 61 → q ≠ 76 → q ≠ 77 → q ≠ 78 → q ≠ 80 → q ≠ 82 → q ≠ 86 → g2 q = h q := fun q a1 a2 a3 a4 a5 a6 a7 a8 a9 => by rw [f1 q a7 a1]; exact p1 q a1 a2 a3 a4 a5 a6 a7 a8 a9
      have r2 : ∀ i : Int, i ≠ 36 → i ≠ 47 → g2 55 i = h 55 i := fun i a1 a2 => by rw [f2 i a1]; exact p2 i a1 a2
      have e29 : g2 55 29 = h 55 29 := r2 29 (by decide) (by decide)
      rw [← f1 60 (by decide) (by decide)] at p3
      rw [← f1 61 (by decide) (by decide)] at p4
      rw [← f1 76 (by decide) (by decide)] at p5
      rw [← f1 77 (by decide) (by decide)] at p6
      rw [← f1 78 (by decide) (by decide)] at p7
      rw [← f2 47 (by decide)] at p8
      rw [← f1 86 (by decide) (by decide)] at p9
      rw [e29]
      refine ⟨⟨⟨hcb.1, by omega⟩, by omega, by omega⟩, fun zc => ⟨⟨by omega, by omega⟩, 10 - (k + 1), by omega, ⟨hae, ha, hrt, h200, hnb⟩, rfl, rfl, k + 1, by omega, by omega, rfl, ?_⟩, fun zc => ⟨⟨by omega, by omega⟩, by omega, mm_step hS (by omega) (by omega) zc r1 r2 p3 p4 p5 p6 p7 p8 p9 f3 (fun g' hg' => ⟨⟨by omega, by omega⟩, 10 - (k + 1), by omega, ⟨hae, ha, hrt, h200, hnb⟩, rfl, rfl, k + 1, by omega, by omega, rfl, hg'⟩)⟩⟩
      exact ⟨r1, r2, p3, fun t t0 => by rw [p4 t t0, cif_step zc], p5, p6, p7, by rw [rwL_f zc]; exact p8, by rw [rwL_f zc]; exact p9, f3⟩
