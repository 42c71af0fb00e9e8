/-! pairs of calls: looking ahead, ticks -/
theorem rHs_p {c m c' m' : HP} (h : rHs c m) (e : c' 1 7 = c 1 7 ∧ c' 1 8 = c 1 8 ∧ c' 9 = c 9 ∧ c' 10 = c 10 ∧ c' 11 = c 11 ∧ c' 13 = c 13 ∧ c' 14 = c 14 ∧ c' 15 = c 15) (hM : mHOK m') (f : m' 55 0 = m 55 0 ∧ m' 56 = m 56 ∧ m' 57 = m 57 ∧ m' 58 = m 58 ∧ m' 61 = m 61 ∧ m' 62 = m 62) (f60 : ∀ t : Int, 0 ≤ t → t < 10 → m' 60 t = m 60 t) : rHs c' m' := by
  obtain ⟨e1, e2, e3, e4, e5, e6, e7, e8⟩ := e
  obtain ⟨f1, f2, f3, f4, f6, f7⟩ := f
  obtain ⟨g1, g2, g3, g4, g5, g6, g7, g8, g9, g10⟩ := h
  unfold rHs
  rw [e1, e2, e3, e4, e5, e6, e7, f1, f2, f3, f4, f6, f7]
  exact ⟨HOK_c e1 e2 e3 e4 e5 e7 e8 g1, hM, g3, g4, g5, g6, g7, fun t a b => by rw [f60 t a b]; exact g8 t a b, g9, g10⟩
theorem rcl_c {P P' : SP} (h1 : ∀ s : Int, pHr P s ↔ pHr P' s) (h2 : ∀ s S : Int, pHr P s → P.2.2.2.2.1 s S = P'.2.2.2.2.1 s S) (h3 : P.2.2.2.2.2 = P'.2.2.2.2.2) : ∀ (n : Nat) (l : List Int) (S : Int), rcl P n l S → rcl P' n l S
  | 0, l, S, h => ⟨h.1, by rw [← h3]; exact h.2⟩
  | n + 1, l, S, h => by
    obtain ⟨l0, S1, s, a, b, c, d, e⟩ := h
    exact ⟨l0, S1, s, rcl_c h1 h2 h3 n l0 S1 a, ⟨(h1 s).mp b.1, b.2⟩, by rw [← h2 s S1 b.1]; exact c, d, e⟩
theorem Brl_c {P P' : SP} (h1 : ∀ s : Int, pHr P s ↔ pHr P' s) (h2 : ∀ s S : Int, pHr P s → P.2.2.2.2.1 s S = P'.2.2.2.2.1 s S) (h3 : P.2.2.2.2.2 = P'.2.2.2.2.2) {n : Nat} (h : Brl P n) : Brl P' n := by
  obtain ⟨l, S, s, a, b, c⟩ := h
  exact ⟨l, S, s, rcl_c h1 h2 h3 n l S a, ⟨(h1 s).mp b.1, b.2⟩, by rw [← h2 s S b.1]; exact c⟩
theorem shL_c {P P' : SP} (h1 : ∀ s : Int, pHr P s ↔ pHr P' s) (h2 : ∀ s S : Int, pHr P s → P.2.2.2.2.1 s S = P'.2.2.2.2.1 s S) (h3 : P.2.2.2.2.2 = P'.2.2.2.2.2) {r : Int} (h : shL P r) : shL P' r := by
  have h2' : ∀ s S : Int, pHr P' s → P'.2.2.2.2.1 s S = P.2.2.2.2.1 s S := fun s S y => (h2 s S ((h1 s).mpr y)).symm
  rcases h with ⟨e, h⟩ | ⟨n, e, a, b⟩
  · exact Or.inl ⟨e, fun n y => h n (Brl_c (fun s => (h1 s).symm) h2' h3.symm y)⟩
  · exact Or.inr ⟨n, e, Brl_c h1 h2 h3 a, fun k hk y => b k hk (Brl_c (fun s => (h1 s).symm) h2' h3.symm y)⟩
theorem st60 {c m : HP} (h : rHs c m) : pack (m 60) 10 = c 1 8 := by
  rw [pack_dgt (inS_4 h.1.2.2.1)]
  exact pack_c (fun t a b => h.2.2.2.2.2.2.2.1 t a b)
theorem fw_eq {c m : HP} (h1 : rHs c m) (h3 : rRl c m) (h7 : rSt c m) {s : Int} (hs : 0 ≤ s ∧ s < c 6 7) (S : Int) : fwC c s S = fwN m s S := by
  obtain ⟨g1, g2, g3, g4⟩ := h7
  unfold fwC fwN
  refine sbf_c (N := c 6 7) (fun x a b => ?_) (fun t v ht => wk_eq ⟨g1, g2, g3, g4⟩ t v ht) (fun t v x hx => wkC_m g1.1 t v x hx) (fun S' => nb_eq h3 h1 (fun t a b => (h1.2.2.2.2.2.2.2.1 t a b).symm) (fun t _ _ => rfl)) 257 0 0 S [s] (fun x hx => by rw [List.mem_singleton] at hx; rw [hx]; exact hs)
  have := g4 x a b
  exact ⟨this.2.1.symm, this.2.2.symm, (g1.2 x a b).1.1⟩
theorem pr_show {n : Nat} {c : HP} (H : Rel n c c) : S_X8_show c (fun r c' => S_X9_show c' (fun r' m' => Fin n r r' m')) := by
  obtain ⟨a1, _, a3, _, _, _, a7, _⟩ := id H
  refine ⟨⟨a1.1, a3.1, a7.1⟩, fun r c' f hr => ?_⟩
  obtain ⟨p1, p2, p3⟩ := f
  have HM : Rel n c c' := Rel_c H (fun _ _ => rfl) (fun q a => p1 q (by omega) (by omega) (by omega) (by omega) (by omega) (by omega) (by omega))
  obtain ⟨h1, h2, h3, h4, h5, h6, h7, h8, h9⟩ := HM
  refine ⟨⟨h1.2.1, h3.2.1, h7.2.1⟩, fun r' m' q1 q2 hm q60 hr' => ?_⟩
  refine Fin_m (c' := c') ⟨rHs_p h1 (by (repeat' apply And.intro) <;> first | (apply p1 <;> decide) | (refine congrFun ?_ _; apply p1 <;> decide) | rfl) hm (by (repeat' apply And.intro) <;> first | (apply q1 <;> decide) | (apply q2 <;> decide) | (refine congrFun ?_ _; apply q1 <;> decide) | (refine congrFun ?_ _; apply q2 <;> decide) | rfl) q60, rTx_c h2 (by (repeat' apply And.intro) <;> first | (apply p1 <;> decide) | (refine congrFun ?_ _; apply p1 <;> decide) | rfl) (by (repeat' apply And.intro) <;> first | (apply q1 <;> decide) | (apply q2 <;> decide) | (refine congrFun ?_ _; apply q1 <;> decide) | (refine congrFun ?_ _; apply q2 <;> decide) | rfl), rRl_c h3 (by (repeat' apply And.intro) <;> first | (apply p1 <;> decide) | (refine congrFun ?_ _; apply p1 <;> decide) | rfl) (by (repeat' apply And.intro) <;> first | (apply q1 <;> decide) | (apply q2 <;> decide) | (refine congrFun ?_ _; apply q1 <;> decide) | (refine congrFun ?_ _; apply q2 <;> decide) | rfl), rVo_c h4 (by (repeat' apply And.intro) <;> first | (apply p1 <;> decide) | (refine congrFun ?_ _; apply p1 <;> decide) | rfl) (by (repeat' apply And.intro) <;> first | (apply q1 <;> decide) | (apply q2 <;> decide) | (refine congrFun ?_ _; apply q1 <;> decide) | (refine congrFun ?_ _; apply q2 <;> decide) | rfl), rHe_c h5 (by (repeat' apply And.intro) <;> first | (apply p1 <;> decide) | (refine congrFun ?_ _; apply p1 <;> decide) | rfl) (by (repeat' apply And.intro) <;> first | (apply q1 <;> decide) | (apply q2 <;> decide) | (refine congrFun ?_ _; apply q1 <;> decide) | (refine congrFun ?_ _; apply q2 <;> decide) | rfl), rDe_c h6 (by (repeat' apply And.intro) <;> first | (apply p1 <;> decide) | (refine congrFun ?_ _; apply p1 <;> decide) | rfl) (by (repeat' apply And.intro) <;> first | (apply q1 <;> decide) | (apply q2 <;> decide) | (refine congrFun ?_ _; apply q1 <;> decide) | (refine congrFun ?_ _; apply q2 <;> decide) | rfl), rSt_c h7 (by (repeat' apply And.intro) <;> first | (apply p1 <;> decide) | (apply p2 <;> decide) | (refine congrFun ?_ _; apply p1 <;> decide) | (refine congrFun ?_ _; apply p2 <;> decide) | rfl) (by (repeat' apply And.intro) <;> first | (apply q1 <;> decide) | (apply q2 <;> decide) | (refine congrFun ?_ _; apply q1 <;> decide) | (refine congrFun ?_ _; apply q2 <;> decide) | rfl), rLg_c h8 (by (repeat' apply And.intro) <;> first | (apply p1 <;> decide) | (refine congrFun ?_ _; apply p1 <;> decide) | rfl) (by (repeat' apply And.intro) <;> first | (apply q1 <;> decide) | (apply q2 <;> decide) | (refine congrFun ?_ _; apply q1 <;> decide) | (refine congrFun ?_ _; apply q2 <;> decide) | rfl), rNm_c h9 (by (repeat' apply And.intro) <;> first | (apply p1 <;> decide) | (apply p2 <;> decide) | (refine congrFun ?_ _; apply p1 <;> decide) | (refine congrFun ?_ _; apply p2 <;> decide) | rfl) (by (repeat' apply And.intro) <;> first | (apply q1 <;> decide) | (apply q2 <;> decide) | (refine congrFun ?_ _; apply q1 <;> decide) | (refine congrFun ?_ _; apply q2 <;> decide) | rfl)⟩ ?_ (fun q a => q1 q (by omega) (by omega) (by omega) (by omega) (by omega) (by omega) (by omega))
  have hP := pOK_C a1.1 a7.1
  refine sh_eq hP hr (shL_c (P := PM c') (P' := PC c) (fun s => ?_) (fun s S hs => ?_) (st60 h1) hr')
  · show (0 ≤ s ∧ s < c' 55 33) ∧ c' 79 (5 * s) = 0 ↔ (0 ≤ s ∧ s < c 6 7) ∧ c 39 s = -1
    rw [h7.2.2.1]
    refine ⟨fun y => ⟨y.1, ?_⟩, fun y => ⟨y.1, ?_⟩⟩
    · rcases (h7.2.2.2 s y.1.1 y.1.2).1 with k | k
      · exact k.1
      · have := k.2.1; have := y.2; omega
    · rcases (h7.2.2.2 s y.1.1 y.1.2).1 with k | k
      · exact k.2.1
      · have := k.1; have := y.2; omega
  · have hs1 : 0 ≤ s ∧ s < c' 55 33 := hs.1
    rw [h7.2.2.1] at hs1
    exact (fw_eq h1 h3 h7 hs1 S).symm
theorem fir_r {TN IN : Int → Int} {wk : Int → Int → List Int} {NB : (Int → Int) → (Int → Int) → Prop} {N T t : Int} (h1 : ∀ s : Int, 0 ≤ s → s < N → 0 ≤ TN s ∧ TN s < T) (h3 : ∀ t v s : Int, s ∈ wk t v → 0 ≤ s ∧ s < N) (ht : T ≤ t) : ∀ (F k : Nat) (c : Int) (f r : Int → Int) (hd : Int) (L : List Int), (∀ s : Int, s ∈ L → 0 ≤ s ∧ s < N) → (fir TN IN wk NB F k c f r hd L).2.1 t = r t
  | 0, k, c, f, r, hd, L, hL => rfl
  | F + 1, k, c, f, r, hd, L, hL => by
    by_cases hk : k < L.length ∧ c < 30
    · generalize hs : L.getD k 0 = s
      have hm := hL s (by rw [← hs]; exact getD_mem hk.1)
      have e := h1 s hm.1 hm.2
      by_cases z : f (TN s) = IN s
      · rw [fir_same hk hs z]
        exact fir_r h1 h3 ht F (k + 1) c f r hd L hL
      · by_cases y : NB f (us f (TN s) (IN s))
        · rw [fir_bar hk hs z y]
          exact fir_r h1 h3 ht F (k + 1) c f r (hd + 1) L hL
        · rw [fir_go hk hs z y, fir_r h1 h3 ht F (k + 1) (c + 1) _ _ hd _ (fun s' hs' => by
            rw [List.mem_append] at hs'
            rcases hs' with q | q
            · exact hL s' q
            · exact h3 _ _ s' q), us_n (by omega)]
    · rw [fir_stop hk]
theorem fr_cells {c g : HP} (h : ∀ q, q = 39 ∨ q = 40 ∨ q = 2 ∨ q = 18 ∨ q = 19 ∨ q = 15 ∨ q = 9 → g q = c q) (h7 : g 6 7 = c 6 7) : wkC g = wkC c ∧ cNB g = cNB c := by
  constructor
  · funext t v; unfold wkC; rw [h 39 (by simp), h 40 (by simp), h7]
  · funext a b; unfold cNB cBar; rw [h 2 (by simp), h 18 (by simp), h 19 (by simp), h 15 (by simp), h 9 (by simp)]
theorem fm_cells {c g : HP} (h : ∀ q, q = 79 ∨ q = 70 ∨ q = 71 ∨ q = 62 ∨ q = 56 → g q = c q) (h33 : g 55 33 = c 55 33) : firM g = firM c := by
  have w1 : wkM g = wkM c := by funext t v; unfold wkM; rw [h 79 (by simp), h33]
  have w2 : mNB g = mNB c := by funext a b; unfold mNB mBrF; rw [h 70 (by simp), h 71 (by simp), h 62 (by simp), h 56 (by simp)]
  unfold firM
  rw [h 79 (by simp), w1, w2]
/-- firing by the class's cells and by the reference's, from what agrees -/
theorem fir_cm {c m : HP} (h1 : rHs c m) (h3 : rRl c m) (h7 : rSt c m) {f g r r' : Int → Int} {hd c0 : Int} {L : List Int} (hf : agr 10 f g) (hr : agr (c 1 7) r r') (hL : ∀ s : Int, s ∈ L → 0 ≤ s ∧ s < c 6 7) : agr 10 (fir (c 41) (c 42) (wkC c) (cNB c) 257 0 c0 f r hd L).1 (firM m 257 0 c0 g r' hd L).1 ∧ agr (c 1 7) (fir (c 41) (c 42) (wkC c) (cNB c) 257 0 c0 f r hd L).2.1 (firM m 257 0 c0 g r' hd L).2.1 ∧ (fir (c 41) (c 42) (wkC c) (cNB c) 257 0 c0 f r hd L).2.2 = (firM m 257 0 c0 g r' hd L).2.2 := by
  obtain ⟨g1, g2, g3, g4⟩ := id h7
  unfold firM
  refine fir_rel (N := c 6 7) (T := c 1 7) h1.1.1.2 (fun s a b => ?_) (fun t v ht => wk_eq h7 t v ht) (fun t v x hx => wkC_m g1.1 t v x hx) (fun f f' g g' a b => nb_eq h3 h1 a b) 257 0 c0 f g r r' hd L hf hr hL
  have := g4 s a b
  exact ⟨this.2.1.symm, this.2.2.symm, (g1.2 s a b).1⟩
theorem fir_cc {c : HP} (h1 : HOK c) (h7 : SOK c) {f g r r' : Int → Int} {hd c0 : Int} {L : List Int} (hf : agr 10 f g) (hr : agr (c 1 7) r r') (hF : fOK c) (hL : ∀ s : Int, s ∈ L → 0 ≤ s ∧ s < c 6 7) : agr 10 (fir (c 41) (c 42) (wkC c) (cNB c) 257 0 c0 f r hd L).1 (fir (c 41) (c 42) (wkC c) (cNB c) 257 0 c0 g r' hd L).1 ∧ agr (c 1 7) (fir (c 41) (c 42) (wkC c) (cNB c) 257 0 c0 f r hd L).2.1 (fir (c 41) (c 42) (wkC c) (cNB c) 257 0 c0 g r' hd L).2.1 ∧ (fir (c 41) (c 42) (wkC c) (cNB c) 257 0 c0 f r hd L).2.2 = (fir (c 41) (c 42) (wkC c) (cNB c) 257 0 c0 g r' hd L).2.2 := by
  refine fir_rel (N := c 6 7) (T := c 1 7) h1.1.2 (fun s a b => ⟨rfl, rfl, (h7.2 s a b).1⟩) (fun t v _ => rfl) (fun t v x hx => wkC_m h7.1 t v x hx) (fun f f' g g' a b => ?_) 257 0 c0 f g r r' hd L hf hr hL
  unfold cNB
  exact ⟨fun ⟨k, k0, k1, x, y⟩ => ⟨k, k0, k1, (cBar_c rfl rfl rfl rfl hF ⟨k0, k1⟩ b).mp x, fun u => y ((cBar_c rfl rfl rfl rfl hF ⟨k0, k1⟩ a).mpr u)⟩, fun ⟨k, k0, k1, x, y⟩ => ⟨k, k0, k1, (cBar_c rfl rfl rfl rfl hF ⟨k0, k1⟩ b).mpr x, fun u => y ((cBar_c rfl rfl rfl rfl hF ⟨k0, k1⟩ a).mp u)⟩⟩
abbrev TS : Type := (Int → Int) × (Int → Int) × Int × (Int → Int) × Int
noncomputable def hwk (c : HP) (v : Int) : List Int := wkP (fun s => c 39 s = -1 ∧ c 40 s = v) (c 6 7).toNat
noncomputable def tkF (c : HP) (a : TS) : TS := ((fir (c 41) (c 42) (wkC c) (cNB c) 257 0 0 a.1 a.2.1 a.2.2.1 (hwk c ((a.2.2.2.2 + 1) % 24))).1, (fir (c 41) (c 42) (wkC c) (cNB c) 257 0 0 a.1 a.2.1 a.2.2.1 (hwk c ((a.2.2.2.2 + 1) % 24))).2.1, (fir (c 41) (c 42) (wkC c) (cNB c) 257 0 0 a.1 a.2.1 a.2.2.1 (hwk c ((a.2.2.2.2 + 1) % 24))).2.2.1, (fun t => if t < c 1 7 then a.2.2.2.1 t + a.1 t * c 11 t else a.2.2.2.1 t), a.2.2.2.2 + 1)
noncomputable def tkN (c : HP) : Nat → TS
  | 0 => (dgt (c 1 8), c 13, c 6 8, c 12, c 1 9)
  | k + 1 => tkF c (tkN c k)
def aB (n : Nat) (c : HP) (j : Nat) (a : TS) : Prop := (0 ≤ a.2.2.1 ∧ a.2.2.1 ≤ c 6 8 + 257 * (j : Int)) ∧ a.2.2.2.2 = c 1 9 + (j : Int) ∧ ∀ t : Int, 0 ≤ t → t < 10 → 0 ≤ a.2.2.2.1 t ∧ a.2.2.2.1 t ≤ 30000 * (n : Int) + 300 * (j : Int)
def jC (n : Nat) (c : HP) (k : Nat) (g : HP) : Prop := (∀ q, q ≠ 1 → q ≠ 12 → q ≠ 13 → q ≠ 6 → q ≠ 43 → g q = c q) ∧ (∀ i : Int, i ≠ 8 → i ≠ 9 → g 1 i = c 1 i) ∧ (∀ i : Int, i ≠ 8 → i ≠ 9 → g 6 i = c 6 i) ∧ HOK g ∧ agr 10 (dgt (g 1 8)) (tkN c k).1 ∧ agr (c 1 7) (g 13) (tkN c k).2.1 ∧ (∀ t : Int, c 1 7 ≤ t → t < 10 → g 13 t = -4) ∧ g 6 8 = (tkN c k).2.2.1 ∧ agr 10 (g 12) (tkN c k).2.2.2.1 ∧ g 1 9 = (tkN c k).2.2.2.2 ∧ ∀ j : Nat, j ≤ k → aB n c j (tkN c j)
def jM (c m : HP) (k : Nat) (g : HP) : Prop := (∀ q, q ≠ 55 → q ≠ 59 → q ≠ 60 → q ≠ 61 → q ≠ 82 → q ≠ 86 → g q = m q) ∧ (∀ i : Int, i ≠ 8 → i ≠ 35 → i ≠ 47 → g 55 i = m 55 i) ∧ mHOK g ∧ agr 10 (g 60) (tkN c k).1 ∧ agr (c 1 7) (g 61) (tkN c k).2.1 ∧ g 55 35 = (tkN c k).2.2.1 ∧ agr 10 (g 59) (tkN c k).2.2.2.1 ∧ g 55 8 = (tkN c k).2.2.2.2
theorem jC_step {n : Nat} {c : HP} (hn : n ≤ 600) (h1 : HOK c) (hF : fOK c) (h7 : SOK c) (h9 : (0 ≤ c 1 9 ∧ c 1 9 ≤ 100 * (n : Int)) ∧ (0 ≤ c 6 8 ∧ c 6 8 ≤ 30000 * (n : Int))) {k : Nat} (hk : k < 100) {g : HP} (hj : jC n c k g) : S_X4_passHour g (fun h1 => 0 ≤ h1 1 9 ∧ S_X6_fireAt (h1 1 9 % 24) h1 (fun h2 => jC n c (k + 1) h2)) := by
  obtain ⟨j1, j2, j3, j4, j5, j6, j7, j8, j9, j10, j11⟩ := hj
  obtain ⟨b1, b2, b3⟩ := j11 k (Nat.le_refl _)
  refine ⟨⟨j4, fun t a b => by rw [j9 t a b]; have := b3 t a b; omega, by rw [j10, b2]; omega⟩, fun g1 p1 p2 p3 p4 p5 => ⟨by rw [p3, j10, b2]; omega, ?_⟩⟩
  have e7 := j2 7 (by decide) (by decide)
  have e67 := j3 7 (by decide) (by decide)
  rw [p3, j10]
  generalize hv : ((tkN c k).2.2.2.2 + 1) % 24 = v
  have s6 : sth g1 6 9 0 6 7 = c 6 7 := by rw [sth_eq, us_n (by decide), p1 6 (by decide) (by decide)]; exact e67
  have sq : ∀ q, q ≠ 1 → q ≠ 12 → q ≠ 13 → q ≠ 6 → q ≠ 43 → sth g1 6 9 0 q = c q := fun q a1 a2 a3 a4 a5 => by rw [sth_ne a4, p1 q a2 a1]; exact j1 q a1 a2 a3 a4 a5
  refine ⟨[], ⟨by rw [s6]; exact h7.1, by rw [sth_eq, us_s]; rfl, fun i hi => absurd hi (by simp), by decide⟩, fun g2 q1 q2 q3 q4 => ?_⟩
  rw [s6, sq 39 (by decide) (by decide) (by decide) (by decide) (by decide), sq 40 (by decide) (by decide) (by decide) (by decide) (by decide), List.nil_append] at q3 q4
  have gq : ∀ q, q ≠ 1 → q ≠ 12 → q ≠ 13 → q ≠ 6 → q ≠ 43 → g2 q = c q := fun q a1 a2 a3 a4 a5 => by rw [q1 q a5 a4]; exact sq q a1 a2 a3 a4 a5
  have g26 : ∀ i : Int, i ≠ 8 → i ≠ 9 → g2 6 i = c 6 i := fun i a b => by rw [q2 i b, sth_eq, us_n b, p1 6 (by decide) (by decide)]; exact j3 i a b
  have g268 : g2 6 8 = (tkN c k).2.2.1 := by rw [q2 8 (by decide), sth_eq, us_n (by decide), p1 6 (by decide) (by decide)]; exact j8
  have g21 : g2 1 = g1 1 := by rw [q1 1 (by decide) (by decide), sth_ne (by decide)]
  have g213 : g2 13 = g 13 := by rw [q1 13 (by decide) (by decide), sth_ne (by decide), p1 13 (by decide) (by decide)]
  have g212 : g2 12 = g1 12 := by rw [q1 12 (by decide) (by decide), sth_ne (by decide)]
  have g218 : g2 1 8 = g 1 8 := by rw [g21, p2 8 (by decide)]
  have g217 : g2 1 7 = c 1 7 := by rw [g21, p2 7 (by decide)]; exact e7
  have hH2 : HOK g2 := HOK_c (h := g) (by rw [g217, e7]) g218 (by rw [gq 9 (by decide) (by decide) (by decide) (by decide) (by decide), j1 9 (by decide) (by decide) (by decide) (by decide) (by decide)]) (by rw [gq 10 (by decide) (by decide) (by decide) (by decide) (by decide), j1 10 (by decide) (by decide) (by decide) (by decide) (by decide)]) (by rw [gq 11 (by decide) (by decide) (by decide) (by decide) (by decide), j1 11 (by decide) (by decide) (by decide) (by decide) (by decide)]) (by rw [gq 14 (by decide) (by decide) (by decide) (by decide) (by decide), j1 14 (by decide) (by decide) (by decide) (by decide) (by decide)]) (by rw [gq 15 (by decide) (by decide) (by decide) (by decide) (by decide), j1 15 (by decide) (by decide) (by decide) (by decide) (by decide)]) j4
  have hF2 : fOK g2 := by unfold fOK; rw [gq 2 (by decide) (by decide) (by decide) (by decide) (by decide), gq 18 (by decide) (by decide) (by decide) (by decide) (by decide), gq 19 (by decide) (by decide) (by decide) (by decide) (by decide)]; exact hF
  have hS2 : SOK g2 := by unfold SOK; rw [g26 7 (by decide) (by decide), g217, gq 41 (by decide) (by decide) (by decide) (by decide) (by decide), gq 42 (by decide) (by decide) (by decide) (by decide) (by decide)]; exact h7
  have hLm : ∀ s : Int, s ∈ hwk c v → 0 ≤ s ∧ s < c 6 7 := fun s hs => by have := (wkP_m _ _ _ hs).1; have := h7.1; omega
  have hLl : (hwk c v).length ≤ 8 := by have := wkP_l (fun s => c 39 s = -1 ∧ c 40 s = v) (c 6 7).toNat; have := h7.1; unfold hwk; omega
  refine ⟨hwk c v, ⟨hH2, hF2, hS2, by omega, q3, q4, by rw [g26 7 (by decide) (by decide)]; exact hLm, by omega, by rw [g268]; omega⟩, fun g3 f1 f2 f3 f4 => ?_⟩
  obtain ⟨R, hR, r1, r2, r3⟩ := f4
  have hw := fr_cells (c := c) (g := g2) (fun q hq => gq q (by omega) (by omega) (by omega) (by omega) (by omega)) (g26 7 (by decide) (by decide))
  rw [gq 41 (by decide) (by decide) (by decide) (by decide) (by decide), gq 42 (by decide) (by decide) (by decide) (by decide) (by decide), hw.1, hw.2, g218, g213, g268] at hR
  have hc := fir_cc (c := c) h1 h7 (f := dgt (g 1 8)) (g := (tkN c k).1) (r := g 13) (r' := (tkN c k).2.1) (hd := (tkN c k).2.2.1) (c0 := 0) (L := hwk c v) j5 j6 hF hLm
  rw [← hR] at hc
  have hout : ∀ t : Int, c 1 7 ≤ t → R.2.1 t = g 13 t := fun t ht => by
    rw [hR]
    exact fir_r (N := c 6 7) (T := c 1 7) (fun s a b => (h7.2 s a b).1) (fun t v x hx => wkC_m h7.1 t v x hx) ht 257 0 0 _ _ _ _ hLm
  have k8 : g3 6 8 = (tkN c (k + 1)).2.2.1 := by
    rw [r3]
    show R.2.2.1 = (fir (c 41) (c 42) (wkC c) (cNB c) 257 0 0 (tkN c k).1 (tkN c k).2.1 (tkN c k).2.2.1 (hwk c (((tkN c k).2.2.2.2 + 1) % 24))).2.2.1
    rw [hv, hc.2.2]
  have e31 : ∀ i : Int, i ≠ 8 → g3 1 i = g2 1 i := f1.2.1
  have e312 : g3 12 = g1 12 := by rw [f1.1 12 (by decide) (by decide) (by decide) (by decide), g212]
  have k9 : agr 10 (g3 12) (tkN c (k + 1)).2.2.2.1 := fun t t0 t1 => by
    rw [e312]
    show g1 12 t = (if t < c 1 7 then (tkN c k).2.2.2.1 t + (tkN c k).1 t * c 11 t else (tkN c k).2.2.2.1 t)
    by_cases e : t < c 1 7
    · rw [if_pos e, p4 t t0 (by rw [e7]; exact e), j9 t t0 t1, j5 t t0 t1, j1 11 (by decide) (by decide) (by decide) (by decide) (by decide)]
    · rw [if_neg e, p5 t (by rw [e7]; omega), j9 t t0 t1]
  refine ⟨fun q a1 a2 a3 a4 a5 => by rw [f1.1 q a1 a3 a4 a5]; exact gq q a1 a2 a3 a4 a5, fun i a b => by rw [e31 i a, g21, p2 i b]; exact j2 i a b, fun i a b => by rw [f1.2.2 i a b]; exact g26 i a b, f2, fun t t0 t1 => ?_, fun t t0 t1 => ?_, fun t t0 t1 => ?_, k8, k9, ?_, fun j hj => ?_⟩
  · rw [r1 t t0 t1, hc.1 t t0 t1]
    show _ = (fir (c 41) (c 42) (wkC c) (cNB c) 257 0 0 (tkN c k).1 (tkN c k).2.1 (tkN c k).2.2.1 (hwk c (((tkN c k).2.2.2.2 + 1) % 24))).1 t
    rw [hv]
  · rw [r2, hc.2.1 t t0 t1]
    show _ = (fir (c 41) (c 42) (wkC c) (cNB c) 257 0 0 (tkN c k).1 (tkN c k).2.1 (tkN c k).2.2.1 (hwk c (((tkN c k).2.2.2.2 + 1) % 24))).2.1 t
    rw [hv]
  · rw [r2, hout t t0]; exact j7 t t0 t1
  · rw [e31 9 (by decide), g21, p3, j10]; rfl
  · by_cases e : j = k + 1
    · subst e
      refine ⟨by rw [← k8]; rw [g268] at f3; omega, ?_, fun t t0 t1 => ?_⟩
      · show (tkN c k).2.2.2.2 + 1 = _
        rw [b2]; omega
      · rw [← k9 t t0 t1, e312]
        have hb := b3 t t0 t1
        by_cases e : t < c 1 7
        · have hm := mul_b (dgt_3 (g 1 8) t) (h1.2.1 t t0 t1).2.2
          rw [p4 t t0 (by rw [e7]; exact e), j9 t t0 t1, j1 11 (by decide) (by decide) (by decide) (by decide) (by decide)]
          omega
        · rw [p5 t (by rw [e7]; omega), j9 t t0 t1]; omega
    · exact j11 j (by omega)
theorem jM_step {n : Nat} {c m : HP} (hn : n ≤ 600) (h1 : rHs c m) (h3 : rRl c m) (h7 : rSt c m) (hc9 : 0 ≤ c 1 9 ∧ c 1 9 ≤ 100 * (n : Int)) (hc8 : c 6 8 ≤ 30000 * (n : Int)) {k : Nat} (hk : k < 100) (hB : ∀ j : Nat, j ≤ k → aB n c j (tkN c j)) {g : HP} (hj : jM c m k g) : tkP g ∧ ∀ g1 : HP, tkM g g1 → S_X9_fire 0 g1 (fun h2 => jM c m (k + 1) h2) := by
  obtain ⟨j1, j2, j3, j4, j5, j6, j7, j8⟩ := hj
  obtain ⟨b1, b2, b3⟩ := hB k (Nat.le_refl _)
  obtain ⟨s1, s2, s3, s4⟩ := id h7
  have e33 := j2 33 (by decide) (by decide) (by decide)
  have e0 := j2 0 (by decide) (by decide) (by decide)
  refine ⟨⟨j3, by rw [e33]; exact s2.1, fun t a b => by rw [j7 t a b]; have := b3 t a b; omega, by rw [j8, b2]; omega⟩, fun g1 ht => ?_⟩
  obtain ⟨p1, p2, p3, p4, p5, p6, p7⟩ := ht
  have e79 : g 79 = m 79 := j1 _ (by decide) (by decide) (by decide) (by decide) (by decide) (by decide)
  have hL : wkP (fun s => g 79 (5 * s) = 0 ∧ g 79 (5 * s + 1) = (g 55 8 + 1) % 24) (g 55 33).toNat = hwk c (((tkN c k).2.2.2.2 + 1) % 24) := by
    unfold hwk
    rw [e33, s3, e79, j8]
    refine wkP_c (fun s a b => ?_)
    rcases (s4 s a (by have := s1.1; omega)).1 with q | q
    · rw [q.1, q.2.1, q.2.2.1]
      exact ⟨fun y => ⟨rfl, y.2⟩, fun y => ⟨rfl, y.2⟩⟩
    · rw [q.2.1]
      exact ⟨fun y => by have := y.1; omega, fun y => by have := q.1; have := y.1; omega⟩
  rw [hL] at p6 p7
  generalize hv : ((tkN c k).2.2.2.2 + 1) % 24 = v at *
  have gq : ∀ q, q ≠ 55 → q ≠ 59 → q ≠ 60 → q ≠ 61 → q ≠ 82 → q ≠ 86 → g1 q = m q := fun q a1 a2 a3 a4 a5 a6 => by rw [p1 q a2 a1 a6]; exact j1 q a1 a2 a3 a4 a5 a6
  have g133 : g1 55 33 = m 55 33 := by rw [p2 33 (by decide) (by decide)]; exact e33
  have g10 : g1 55 0 = m 55 0 := by rw [p2 0 (by decide) (by decide)]; exact e0
  have hLm : ∀ s : Int, s ∈ hwk c v → 0 ≤ s ∧ s < c 6 7 := fun s hs => by have := (wkP_m _ _ _ hs).1; have := s1.1; omega
  have hLl : (hwk c v).length ≤ 8 := by have := wkP_l (fun s => c 39 s = -1 ∧ c 40 s = v) (c 6 7).toNat; have := s1.1; unfold hwk; omega
  have hH1 : mHOK g1 := mHOK_c (h := g) (p2 0 (by decide) (by decide)) (p1 _ (by decide) (by decide) (by decide)) (p1 _ (by decide) (by decide) (by decide)) (p1 _ (by decide) (by decide) (by decide)) (p1 _ (by decide) (by decide) (by decide)) (p1 _ (by decide) (by decide) (by decide)) j3
  have hF1 : mfOK g1 := by unfold mfOK; rw [gq 70 (by decide) (by decide) (by decide) (by decide) (by decide) (by decide), gq 71 (by decide) (by decide) (by decide) (by decide) (by decide) (by decide)]; exact h3.2.1
  have hS1 : MSOK g1 := by unfold MSOK; rw [g133, g10, gq 79 (by decide) (by decide) (by decide) (by decide) (by decide) (by decide)]; exact s2
  have g135 : g1 55 35 = (tkN c k).2.2.1 := by rw [p2 35 (by decide) (by decide)]; exact j6
  refine ⟨hwk c v, ⟨hH1, hF1, hS1, by omega, p6, p7, by rw [g133, s3]; exact hLm, by omega, by rw [g135]; omega⟩, fun g2 f1 f2 f3 f4 => ?_⟩
  obtain ⟨R, hR, r1, r2, r3⟩ := f4
  have hw := fm_cells (c := m) (g := g1) (fun q hq => gq q (by omega) (by omega) (by omega) (by omega) (by omega) (by omega)) g133
  rw [hw, g135, p1 60 (by decide) (by decide) (by decide), p1 61 (by decide) (by decide) (by decide)] at hR
  have hc := fir_cm (c := c) (m := m) h1 h3 h7 (f := (tkN c k).1) (g := g 60) (r := (tkN c k).2.1) (r' := g 61) (hd := (tkN c k).2.2.1) (c0 := 0) (L := hwk c v) (fun t a b => (j4 t a b).symm) (fun t a b => (j5 t a b).symm) hLm
  rw [← hR] at hc
  refine ⟨fun q a1 a2 a3 a4 a5 a6 => by rw [f1.1 q a3 a4 a5 a6 a1]; exact gq q a1 a2 a3 a4 a5 a6, fun i a1 a2 a3 => by rw [f1.2 i a2 a3, p2 i a1 a3]; exact j2 i a1 a2 a3, f2, fun t t0 t1 => ?_, fun t t0 t1 => ?_, ?_, fun t t0 t1 => ?_, ?_⟩
  · rw [r1, ← hc.1 t t0 t1]
    show _ = (fir (c 41) (c 42) (wkC c) (cNB c) 257 0 0 (tkN c k).1 (tkN c k).2.1 (tkN c k).2.2.1 (hwk c (((tkN c k).2.2.2.2 + 1) % 24))).1 t
    rw [hv]
  · rw [r2, ← hc.2.1 t t0 t1]
    show _ = (fir (c 41) (c 42) (wkC c) (cNB c) 257 0 0 (tkN c k).1 (tkN c k).2.1 (tkN c k).2.2.1 (hwk c (((tkN c k).2.2.2.2 + 1) % 24))).2.1 t
    rw [hv]
  · rw [r3]
    show _ = (fir (c 41) (c 42) (wkC c) (cNB c) 257 0 0 (tkN c k).1 (tkN c k).2.1 (tkN c k).2.2.1 (hwk c (((tkN c k).2.2.2.2 + 1) % 24))).2.2.1
    rw [hv, hc.2.2]
  · rw [f1.1 59 (by decide) (by decide) (by decide) (by decide) (by decide)]
    show _ = (if t < c 1 7 then (tkN c k).2.2.2.1 t + (tkN c k).1 t * c 11 t else (tkN c k).2.2.2.1 t)
    have e07 : g 55 0 = c 1 7 := by rw [e0]; exact h1.2.2.1
    by_cases e : t < c 1 7
    · rw [if_pos e, p4 t t0 (by rw [e07]; exact e), j7 t t0 t1, j4 t t0 t1, j1 58 (by decide) (by decide) (by decide) (by decide) (by decide) (by decide), h1.2.2.2.2.2.1]
    · rw [if_neg e, p5 t (by rw [e07]; omega), j7 t t0 t1]
  · rw [f1.2 8 (by decide) (by decide), p3, j8]; rfl
theorem pr_ticks (a : Int) {n : Nat} {c : HP} (H : Rel n c c) (hn : n ≤ 600) : S_X8_ticks a c (fun r c' => S_X9_ticks a c' (fun r' m' => Fin n r r' m')) := by
  refine ⟨fun z => ⟨fun _ => Fin_u H rfl, fun y => absurd y z⟩, fun z => ⟨jC n c, ?_, fun k g hk hj => jC_step hn H.1.1 H.2.2.1.1 H.2.2.2.2.2.2.1.1 ⟨H.2.2.2.2.2.2.2.2.2.2.2.2.1, H.2.2.2.2.2.2.2.2.2.2.2.2.2.1⟩ (by omega) hj, fun c' hj => ?_⟩⟩
  · obtain ⟨h1, _, _, _, _, _, _, _, h9⟩ := id H
    refine ⟨fun _ _ _ _ _ _ => rfl, fun _ _ _ => rfl, fun _ _ _ => rfl, h1.1, fun _ _ _ => rfl, fun _ _ _ => rfl, h1.2.2.2.2.2.2.2.2.2, rfl, fun _ _ _ => rfl, rfl, fun j hj => ?_⟩
    have : j = 0 := by omega
    subst this
    refine ⟨by show 0 ≤ c 6 8 ∧ c 6 8 ≤ _; have := h9.2.2.2.2.2.1; omega, by show c 1 9 = _; omega, fun t t0 t1 => ?_⟩
    have := h9.2.2.2.1 t t0 t1
    show 0 ≤ c 12 t ∧ c 12 t ≤ _
    omega
  · obtain ⟨p1, p2, p3, p4, p5, p6, p7, p8, p9, p10, p11⟩ := hj
    have HM : Rel n c c' := Rel_c H (fun _ _ => rfl) (fun q a => p1 q (by omega) (by omega) (by omega) (by omega) (by omega))
    obtain ⟨h1, h2, h3, h4, h5, h6, h7, h8, h9⟩ := HM
    refine ⟨fun y => absurd z y, fun _ => ⟨jM c c', ?_, fun k g hk hj => jM_step hn h1 h3 h7 h9.2.2.2.2.1 h9.2.2.2.2.2.1.2 (by omega) (fun j hjk => p11 j (by omega)) hj, fun m' hj => ?_⟩⟩
    · exact ⟨fun _ _ _ _ _ _ _ => rfl, fun _ _ _ _ => rfl, h1.2.1, fun t a b => h1.2.2.2.2.2.2.2.1 t a b, fun t a b => h1.2.2.2.2.2.2.2.2.1 t a b, h9.2.1, fun t a b => (h9.2.2.2.1 t a b).1, h9.1⟩
    · obtain ⟨q1, q2, q3, q4, q5, q6, q7, q8⟩ := hj
      obtain ⟨b1, b2, b3⟩ := p11 a.toNat (Nat.le_refl _)
      have e7 := p2 7 (by decide) (by decide)
      refine Fin_m (c' := c') ⟨⟨p4, q3, ?_, ?_, ?_, ?_, ?_, fun t t0 t1 => by rw [q4 t t0 t1, p5 t t0 t1], fun t t0 t1 => ?_, fun t t0 t1 => p7 t (by omega) t1⟩, rTx_c h2 (by (repeat' apply And.intro) <;> first | (apply p1 <;> decide) | (apply p2 <;> decide) | (apply p3 <;> decide) | (refine congrFun ?_ _; apply p1 <;> decide) | (refine congrFun ?_ _; apply p2 <;> decide) | (refine congrFun ?_ _; apply p3 <;> decide) | rfl) (by (repeat' apply And.intro) <;> first | (apply q1 <;> decide) | (apply q2 <;> decide) | (refine congrFun ?_ _; apply q1 <;> decide) | (refine congrFun ?_ _; apply q2 <;> decide) | rfl), rRl_c h3 (by (repeat' apply And.intro) <;> first | (apply p1 <;> decide) | (apply p2 <;> decide) | (apply p3 <;> decide) | (refine congrFun ?_ _; apply p1 <;> decide) | (refine congrFun ?_ _; apply p2 <;> decide) | (refine congrFun ?_ _; apply p3 <;> decide) | rfl) (by (repeat' apply And.intro) <;> first | (apply q1 <;> decide) | (apply q2 <;> decide) | (refine congrFun ?_ _; apply q1 <;> decide) | (refine congrFun ?_ _; apply q2 <;> decide) | rfl), rVo_c h4 (by (repeat' apply And.intro) <;> first | (apply p1 <;> decide) | (apply p2 <;> decide) | (apply p3 <;> decide) | (refine congrFun ?_ _; apply p1 <;> decide) | (refine congrFun ?_ _; apply p2 <;> decide) | (refine congrFun ?_ _; apply p3 <;> decide) | rfl) (by (repeat' apply And.intro) <;> first | (apply q1 <;> decide) | (apply q2 <;> decide) | (refine congrFun ?_ _; apply q1 <;> decide) | (refine congrFun ?_ _; apply q2 <;> decide) | rfl), rHe_c h5 (by (repeat' apply And.intro) <;> first | (apply p1 <;> decide) | (apply p2 <;> decide) | (apply p3 <;> decide) | (refine congrFun ?_ _; apply p1 <;> decide) | (refine congrFun ?_ _; apply p2 <;> decide) | (refine congrFun ?_ _; apply p3 <;> decide) | rfl) (by (repeat' apply And.intro) <;> first | (apply q1 <;> decide) | (apply q2 <;> decide) | (refine congrFun ?_ _; apply q1 <;> decide) | (refine congrFun ?_ _; apply q2 <;> decide) | rfl), rDe_c h6 (by (repeat' apply And.intro) <;> first | (apply p1 <;> decide) | (apply p2 <;> decide) | (apply p3 <;> decide) | (refine congrFun ?_ _; apply p1 <;> decide) | (refine congrFun ?_ _; apply p2 <;> decide) | (refine congrFun ?_ _; apply p3 <;> decide) | rfl) (by (repeat' apply And.intro) <;> first | (apply q1 <;> decide) | (apply q2 <;> decide) | (refine congrFun ?_ _; apply q1 <;> decide) | (refine congrFun ?_ _; apply q2 <;> decide) | rfl), rSt_c h7 (by (repeat' apply And.intro) <;> first | (apply p1 <;> decide) | (apply p2 <;> decide) | (apply p3 <;> decide) | (refine congrFun ?_ _; apply p1 <;> decide) | (refine congrFun ?_ _; apply p2 <;> decide) | (refine congrFun ?_ _; apply p3 <;> decide) | rfl) (by (repeat' apply And.intro) <;> first | (apply q1 <;> decide) | (apply q2 <;> decide) | (refine congrFun ?_ _; apply q1 <;> decide) | (refine congrFun ?_ _; apply q2 <;> decide) | rfl), rLg_c h8 (by (repeat' apply And.intro) <;> first | (apply p1 <;> decide) | (apply p2 <;> decide) | (apply p3 <;> decide) | (refine congrFun ?_ _; apply p1 <;> decide) | (refine congrFun ?_ _; apply p2 <;> decide) | (refine congrFun ?_ _; apply p3 <;> decide) | rfl) (by (repeat' apply And.intro) <;> first | (apply q1 <;> decide) | (apply q2 <;> decide) | (refine congrFun ?_ _; apply q1 <;> decide) | (refine congrFun ?_ _; apply q2 <;> decide) | rfl), ?_⟩ (by rw [p10, q8]) (fun q a => q1 q (by omega) (by omega) (by omega) (by omega) (by omega) (by omega))
      · rw [q2 0 (by decide) (by decide) (by decide), e7]; exact h1.2.2.1
      · rw [q1 56 (by decide) (by decide) (by decide) (by decide) (by decide) (by decide), p1 9 (by decide) (by decide) (by decide) (by decide) (by decide)]; exact h1.2.2.2.1
      · rw [q1 57 (by decide) (by decide) (by decide) (by decide) (by decide) (by decide), p1 10 (by decide) (by decide) (by decide) (by decide) (by decide)]; exact h1.2.2.2.2.1
      · rw [q1 58 (by decide) (by decide) (by decide) (by decide) (by decide) (by decide), p1 11 (by decide) (by decide) (by decide) (by decide) (by decide)]; exact h1.2.2.2.2.2.1
      · rw [q1 62 (by decide) (by decide) (by decide) (by decide) (by decide) (by decide), p1 14 (by decide) (by decide) (by decide) (by decide) (by decide)]; exact h1.2.2.2.2.2.2.1
      · rw [e7] at t1
        rw [q5 t t0 t1, p6 t t0 t1]
      · have hb1 := h9.2.2.2.2.1
        have hb2 := h9.2.2.2.2.2.1
        have hb3 := h9.2.2.2.2.2.2
        refine ⟨by rw [q8, p10], by rw [q6, p8], ?_, fun t t0 t1 => ⟨by rw [q7 t t0 t1, p9 t t0 t1], ?_⟩, by rw [p10, b2]; omega, by rw [p8]; omega, ?_⟩
        · rw [q2 38 (by decide) (by decide) (by decide), p1 8 (by decide) (by decide) (by decide) (by decide) (by decide)]; exact h9.2.2.1
        · rw [p9 t t0 t1]; have := b3 t t0 t1; omega
        · rw [p1 8 (by decide) (by decide) (by decide) (by decide) (by decide)]; omega
