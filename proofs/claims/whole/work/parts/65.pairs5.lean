/-! pairs of calls: a wish is done -/
theorem fsN_e {p : Int → Prop} {n : Nat} (h : ∃ i : Int, 0 ≤ i ∧ i < (n : Int) ∧ p i) : ∃ k : Nat, k < n ∧ fsN p n = (k : Int) ∧ p (k : Int) := by
  obtain ⟨i, i0, i1, hi⟩ := h
  obtain ⟨j, rfl⟩ : ∃ j : Nat, i = (j : Int) := ⟨i.toNat, by omega⟩
  have key : ∀ m : Nat, (∃ k : Nat, k < m ∧ p (k : Int)) → ∃ k : Nat, k < m ∧ p (k : Int) ∧ ∀ i : Int, 0 ≤ i → i < (k : Int) → ¬ p i := by
    intro m
    induction m with
    | zero => rintro ⟨k, h, _⟩; omega
    | succ m ih =>
      rintro ⟨k, hk, hp⟩
      by_cases e : ∃ k : Nat, k < m ∧ p (k : Int)
      · obtain ⟨k, a, b, c⟩ := ih e
        exact ⟨k, by omega, b, c⟩
      · have : k = m := Classical.byContradiction (fun y => e ⟨k, by omega, hp⟩)
        subst this
        refine ⟨k, hk, hp, fun i a b y => e ⟨i.toNat, by omega, ?_⟩⟩
        rw [Int.toNat_of_nonneg a]; exact y
  obtain ⟨k, a, b, c⟩ := key n ⟨j, by omega, hi⟩
  exact ⟨k, a, fsN_at c b a, b⟩
theorem rwL_c {wk wk' : Int → Int → List Int} {CH v : Int} (h : ∀ t v : Int, 0 ≤ t → wk t v = wk' t v) : ∀ k : Nat, rwL wk CH v k = rwL wk' CH v k
  | 0 => rfl
  | k + 1 => by
    have ih := rwL_c (CH := CH) (v := v) h k
    by_cases c : mem CH (k : Int)
    · rw [rwL_t c, rwL_t c, ih, h _ _ (by omega)]
    · rw [rwL_f c, rwL_f c, ih]
theorem rwL_past {wk : Int → Int → List Int} {CH v : Int} {m : Nat} : ∀ {n : Nat}, m ≤ n → (∀ i : Int, (m : Int) ≤ i → i < (n : Int) → ¬ mem CH i) → rwL wk CH v n = rwL wk CH v m
  | 0, h, _ => by rw [Nat.le_zero.mp h]
  | n + 1, h, hp => by
    by_cases e : m = n + 1
    · rw [e]
    · rw [rwL_f (hp (n : Int) (by omega) (by omega))]
      exact rwL_past (by omega) (fun i a b => hp i a (by omega))
theorem lgF_past {fo hr mt v : Int} {L : List LE} {m : Nat} : ∀ {n : Nat}, m ≤ n → (∀ i : Int, (m : Int) ≤ i → i < (n : Int) → ¬ mem mt i) → lgF fo hr mt v L n = lgF fo hr mt v L m
  | 0, h, _ => by rw [Nat.le_zero.mp h]
  | n + 1, h, hp => by
    by_cases e : m = n + 1
    · rw [e]
    · rw [lgF_f (hp (n : Int) (by omega) (by omega))]
      exact lgF_past (by omega) (fun i a b => hp i a (by omega))
theorem lgF_ok {fo hr mt v T : Int} {L : List LE} (hL : lgOK L T) (h0 : 0 ≤ hr ∧ hr ≤ 100000000) (hv : 0 ≤ v ∧ v ≤ 3) : ∀ k : Nat, (∀ i : Int, 0 ≤ i → i < (k : Int) → mem mt i → i < T) → lgOK (lgF fo hr mt v L k) T
  | 0, _ => hL
  | k + 1, hm => by
    have ih := lgF_ok hL h0 hv (fo := fo) (mt := mt) k (fun i a b => hm i a (by omega))
    by_cases c : mem mt (k : Int)
    · rw [lgF_t c]
      intro e he
      unfold adL at he
      rw [List.mem_append, List.mem_singleton] at he
      rcases he with he | he
      · by_cases z : (lgF fo hr mt v L k).length = 60
        · rw [if_pos z] at he; exact ih e (List.mem_of_mem_tail he)
        · rw [if_neg z] at he; exact ih e he
      · rw [he]
        exact ⟨⟨by show 0 ≤ hr / 24; omega, by show hr / 24 ≤ _; omega⟩, ⟨by show 0 ≤ hr % 24; omega, by show hr % 24 < 24; omega⟩, ⟨by show 0 ≤ (k : Int); omega, hm (k : Int) (by omega) (by omega) c⟩, hv⟩
    · rw [lgF_f c]; exact ih
section
variable {n : Nat} {c m : HP} {a : Int}
theorem dn_i (h5 : rHe c m) (hh : c 4 12 = 1) (ha : 0 ≤ a ∧ a < c 4 15) : m 74 a = c 30 a ∧ m 73 (3 * a) = c 27 a ∧ ∀ t : Int, c 1 7 ≤ t → t < 10 → ¬ mem (c 30 a) t := by
  obtain ⟨_, _, _, k4⟩ := h5.2.2.2.2 hh
  obtain ⟨x1, x2, x3, x4, x5, x6, x7⟩ := k4 a ha.1 ha.2
  exact ⟨x5, x2, x7⟩
theorem dn_rt (H : Rel n c m) (hh : c 4 12 = 1) (ha : 0 ≤ a ∧ a < c 4 15) : (∀ t : Int, 0 ≤ t → t < c 1 7 → mem (c 30 a) t → ∃ k : Int, 0 ≤ k ∧ k < c 2 6 ∧ cLet c k (c 4 14) t (c 1 9 % 24)) ↔ rtM m a := by
  obtain ⟨h1, _, h3, _, h5, _, _, _, h9⟩ := H
  have hi := dn_i h5 hh ha
  unfold rtM
  rw [hi.1, h1.2.2.1, h3.2.2.1, h9.1, (h5.2.2.2.2 hh).2.2.1]
  exact ⟨fun y t t0 t1 tm => by obtain ⟨k, k0, k1, u⟩ := y t t0 t1 tm; exact ⟨k, k0, k1, (let_eq (hr := 0) h3 h1 ⟨k0, k1⟩).mp u⟩, fun y t t0 t1 tm => by obtain ⟨k, k0, k1, u⟩ := y t t0 t1 tm; exact ⟨k, k0, k1, (let_eq (hr := 0) h3 h1 ⟨k0, k1⟩).mpr u⟩⟩
theorem dn_v (H : Rel n c m) (hh : c 4 12 = 1) (ha : 0 ≤ a ∧ a < c 4 15) : vM m a = c 21 (c 27 a) := by
  obtain ⟨_, _, _, h4, h5, _⟩ := H
  unfold vM
  rw [(dn_i h5 hh ha).2.1, h4.2.2.2.2.1]
theorem dn_ch (H : Rel n c m) (hh : c 4 12 = 1) (ha : 0 ≤ a ∧ a < c 4 15) : chC c (c 30 a) (c 21 (c 27 a)) = chM m a := by
  have hv := dn_v H hh ha
  obtain ⟨h1, _, _, _, h5, _⟩ := H
  unfold chC chM
  refine bset_c (fun t t0 t1 => ?_)
  unfold chP
  rw [h1.2.2.1, (dn_i h5 hh ha).1, hv, h1.2.2.2.2.2.2.2.1 t t0 t1]
theorem dn_st (H : Rel n c m) (hh : c 4 12 = 1) (ha : 0 ≤ a ∧ a < c 4 15) (hv3 : 0 ≤ c 21 (c 27 a) ∧ c 21 (c 27 a) ≤ 3) : agr 10 (dgt (wAll (c 1 8) (c 30 a) (c 21 (c 27 a)))) (stM m a) := fun t t0 t1 => by
  have hv := dn_v H hh ha
  obtain ⟨h1, _, _, _, h5, _⟩ := H
  have hi := dn_i h5 hh ha
  rw [dgt_wAll hv3 t0 t1]
  unfold stM stK chP
  rw [h1.2.2.1, hi.1, hv, h1.2.2.2.2.2.2.2.1 t t0 t1]
  by_cases z : mem (c 30 a) t
  · rw [cif_t z]
    by_cases e : dgt (c 1 8) t = c 21 (c 27 a)
    · rw [cif_f (fun y => y.2.2.2.2 e), e]
    · rw [cif_t ⟨t0, t1, Classical.byContradiction (fun y => hi.2.2 t (by omega) t1 z), z, e⟩]
  · rw [cif_f z, cif_f (fun y => z y.2.2.2.1)]
end
theorem un_fr {c m : HP} (f : ∀ q, 55 ≤ q → m q = c q) : unM m = unM c := by
  unfold unM ulM oucM ouF
  rw [f 55 (by decide), f 75 (by decide), f 74 (by decide), f 65 (by decide), f 73 (by decide), f 60 (by decide)]
theorem lgM_fr {c m : HP} {L : List LE} (f : ∀ q, 55 ≤ q → m q = c q) (h : lgM c L) : lgM m L := by
  refine ⟨by rw [f 55 (by decide)]; exact h.1, h.2.1, fun i hi => ?_⟩
  rw [leM_c (h := c) (f _ (by decide))]
  exact h.2.2 i hi
theorem preM {n : Nat} {c m : HP} {L : List LE} (hn : n ≤ 600) (H : Rel n c m) (hL : lgM m L) : mHOK m ∧ mVOK m ∧ mEOK m ∧ mfOK m ∧ MSOK m ∧ (0 ≤ m 55 8 ∧ m 55 8 ≤ 1000000000) ∧ (0 ≤ m 55 29 ∧ m 55 29 ≤ 200) ∧ lgM m L := by
  obtain ⟨h1, h2, h3, h4, h5, h6, h7, h8, h9⟩ := H
  have := h9.2.2.2.2.1
  exact ⟨h1.2.1, h4.2.1, h5.2.1, h3.2.1, h7.2.1, by rw [h9.1]; omega, by rw [h6.2.1]; exact h6.1, hL⟩
/-- the reference at a wish that is carried out -/
theorem dn_end {n : Nat} {c g c1 m : HP} {a : Int} {L : List LE} (hn : n ≤ 600) (HH : Rel n c m) (hO : lgOK L (c 1 7)) (hLm : lgM m L) (hh : c 4 12 = 1) (ha : 0 ≤ a ∧ a < c 4 15) (h200 : c 5 3 < 200) (hv3 : 0 ≤ c 21 (c 27 a) ∧ c 21 (c 27 a) ≤ 3)
    (hmd : mdC (c 30 a) (c 21 (c 27 a)) L c g 10) (hfr : frR g c1) (hH1 : HOK c1) (hhd : g 6 8 ≤ c1 6 8 ∧ c1 6 8 ≤ g 6 8 + 257)
    (hR : ∃ R : FS, R = fir (g 41) (g 42) (wkC g) (cNB g) 257 0 (cnt (mem (chC c (c 30 a) (c 21 (c 27 a)))) 16) (dgt (g 1 8)) (g 13) (g 6 8) (rwL (wkC c) (chC c (c 30 a) (c 21 (c 27 a))) (c 21 (c 27 a)) 10) ∧ (∀ t : Int, 0 ≤ t → t < 10 → dgt (c1 1 8) t = R.1 t) ∧ c1 13 = R.2.1 ∧ c1 6 8 = R.2.2.1)
    (hm : m = sth (sth c1 4 12 0) 4 15 0) : ∀ x : HP, mdM a L m x (m 55 0).toNat → S_X9_fire (cnt (mem (chM m a)) 10) (sth (sth (sth x 55 29 (x 55 29 + 1)) 55 28 (x 74 a)) 55 20 0) (fun m' => Fin n (chC c (c 30 a) (c 21 (c 27 a))) (chM m a) m') := by
  intro x hx
  have ev := dn_v HH hh ha
  have ech := dn_ch HH hh ha
  obtain ⟨h1, h2, h3, h4, h5, h6, h7, h8, h9⟩ := id HH
  have hi := dn_i h5 hh ha
  have h10 := h1.1.1
  have e0 := h1.2.2.1
  obtain ⟨p1, p2, p3, p4, p5, p6, p7, p8, p9, p10, p11, p12, p13, p14⟩ := hmd
  obtain ⟨R, hR, r1, r2, r3⟩ := hR
  obtain ⟨q1, q2, q3, q4, q5, q6, q7, q8, q9, q10⟩ := hx
  obtain ⟨s1, s2, s3, s4⟩ := id h7
  rw [← ech] at q4 q5 q8 q9 ⊢
  rw [ev] at q8 q9 q10
  rw [e0] at q6 q8 q9 q10
  rw [hi.1] at q10
  rw [(h5.2.2.2.2 hh).2.1, h9.1] at q10
  generalize hv : c 21 (c 27 a) = v at *
  generalize hb : c 30 a = b at *
  have hCHb : 0 ≤ chC c b v ∧ chC c b v < 1024 := bset_b _ (n := 10)
  have hCHm : ∀ t : Int, 0 ≤ t → (mem (chC c b v) t ↔ t < c 1 7 ∧ mem b t ∧ ¬ dgt (c 1 8) t = v) := fun t t0 => chC_m t0 h10.2
  have hCT : ∀ i : Int, (((c 1 7).toNat : Nat) : Int) ≤ i → i < ((10 : Nat) : Int) → ¬ mem (chC c b v) i := fun i a b y => by have := ((hCHm i (by omega)).mp y).1; omega
  have hbT : ∀ i : Int, (((c 1 7).toNat : Nat) : Int) ≤ i → i < ((10 : Nat) : Int) → ¬ mem b i := fun i a b => hi.2.2 i (by omega) (by omega)
  have e16 : cnt (mem (chC c b v)) 16 = cnt (mem (chC c b v)) 10 := cnt_past (by decide) (fun i a b y => by have := mem_lt (n := 10) hCHb (by omega) y; omega)
  have hrow : rwL (wkM m) (chC c b v) v (c 1 7).toNat = rwL (wkC c) (chC c b v) v 10 := by
    rw [rwL_past (m := (c 1 7).toNat) (n := 10) (by omega) hCT]
    exact (rwL_c (fun t v ht => wk_eq h7 t v ht) _).symm
  rw [hrow] at q8 q9
  rw [← lgF_past (m := (c 1 7).toNat) (n := 10) (by omega) hbT] at q10
  have hc10 := cnt_b (mem (chC c b v)) 10
  have hrl := rwL_l (CH := chC c b v) (v := v) (wkC_l s1.1) 10
  have hrm := rwL_m (CH := chC c b v) (v := v) (N := c 6 7) (fun t v s hs => wkC_m s1.1 t v s hs) 10
  generalize hLr : rwL (wkC c) (chC c b v) v 10 = Lr at *
  -- the class's cells behind
  have cq : ∀ q, q ≠ 1 → q ≠ 13 → q ≠ 36 → q ≠ 37 → q ≠ 5 → q ≠ 6 → q ≠ 43 → q ≠ 8 → q ≠ 48 → q ≠ 49 → q ≠ 50 → q ≠ 51 → q ≠ 52 → q ≠ 4 → m q = c q := fun q a1 a2 a3 a4 a5 a6 a7 a8 a9 a10 a11 a12 a13 a14 => by rw [hm, sth_ne a14, sth_ne a14, hfr.1 q a1 a2 a6 a7]; exact p1 q a1 a2 a3 a4 a5 a6 a7 a8 a9 a10 a11 a12 a13
  have m1 : m 1 = c1 1 := by rw [hm, sth_ne (by decide), sth_ne (by decide)]
  have m13 : m 13 = c1 13 := by rw [hm, sth_ne (by decide), sth_ne (by decide)]
  have m6 : m 6 = c1 6 := by rw [hm, sth_ne (by decide), sth_ne (by decide)]
  have mq : ∀ q, q ≠ 4 → q ≠ 1 → q ≠ 13 → q ≠ 6 → q ≠ 43 → m q = g q := fun q a0 a1 a2 a3 a4 => by rw [hm, sth_ne a0, sth_ne a0, hfr.1 q a1 a2 a3 a4]
  have m1i : ∀ i : Int, i ≠ 8 → m 1 i = c 1 i := fun i a1 => by rw [m1, hfr.2.1 i a1]; exact p2 i a1
  have m6i : ∀ i : Int, i ≠ 8 → i ≠ 9 → m 6 i = c 6 i := fun i a1 a2 => by rw [m6, hfr.2.2 i a1 a2]; exact p10 i a2
  have gq : ∀ q, q ≠ 1 → q ≠ 13 → q ≠ 36 → q ≠ 37 → q ≠ 5 → q ≠ 6 → q ≠ 43 → q ≠ 8 → q ≠ 48 → q ≠ 49 → q ≠ 50 → q ≠ 51 → q ≠ 52 → g q = c q := p1
  have g68 : g 6 8 = c 6 8 := p10 8 (by decide)
  have hw := fr_cells (c := c) (g := g) (fun q hq => gq q (by omega) (by omega) (by omega) (by omega) (by omega) (by omega) (by omega) (by omega) (by omega) (by omega) (by omega) (by omega) (by omega)) (p10 7 (by decide))
  rw [gq 41 (by decide) (by decide) (by decide) (by decide) (by decide) (by decide) (by decide) (by decide) (by decide) (by decide) (by decide) (by decide) (by decide), gq 42 (by decide) (by decide) (by decide) (by decide) (by decide) (by decide) (by decide) (by decide) (by decide) (by decide) (by decide) (by decide) (by decide), hw.1, hw.2, e16, g68] at hR
  -- the reference's cells ahead of the firing
  generalize hy : sth (sth (sth x 55 29 (x 55 29 + 1)) 55 28 (x 74 a)) 55 20 0 = y
  have yq : ∀ q, q ≠ 55 → y q = x q := fun q a1 => by rw [← hy, sth_ne a1, sth_ne a1, sth_ne a1]
  have y55 : ∀ i : Int, i ≠ 20 → i ≠ 28 → i ≠ 29 → y 55 i = x 55 i := fun i a1 a2 a3 => by rw [← hy, sth_eq, us_n a1, sth_eq, us_n a2, sth_eq, us_n a3]
  have y20 : y 55 20 = 0 := by rw [← hy, sth_eq, us_s]
  have y28 : y 55 28 = b := by rw [← hy, sth_eq, us_n (by decide), sth_eq, us_s, q1 74 (by decide) (by decide) (by decide) (by decide) (by decide) (by decide) (by decide) (by decide) (by decide), hi.1]
  have y29 : y 55 29 = c 5 3 + 1 := by rw [← hy, sth_eq, us_n (by decide), sth_eq, us_n (by decide), sth_eq, us_s, q2 29 (by decide) (by decide), h6.2.1]
  have yq' : ∀ q, q ≠ 55 → q ≠ 60 → q ≠ 61 → q ≠ 76 → q ≠ 77 → q ≠ 78 → q ≠ 80 → q ≠ 82 → q ≠ 86 → y q = m q := fun q a1 a2 a3 a4 a5 a6 a7 a8 a9 => by rw [yq q a1]; exact q1 q a1 a2 a3 a4 a5 a6 a7 a8 a9
  have y55' : ∀ i : Int, i ≠ 20 → i ≠ 28 → i ≠ 29 → i ≠ 36 → i ≠ 47 → y 55 i = m 55 i := fun i a1 a2 a3 a4 a5 => by rw [y55 i a1 a2 a3]; exact q2 i a4 a5
  have hvM : 0 ≤ vM m a ∧ vM m a ≤ 3 := by rw [ev]; exact hv3
  have hHy : mHOK y := mHOK_st (k := 10) h1.2.1 hvM (y55' 0 (by decide) (by decide) (by decide) (by decide) (by decide)) (yq' _ (by decide) (by decide) (by decide) (by decide) (by decide) (by decide) (by decide) (by decide) (by decide)) (yq' _ (by decide) (by decide) (by decide) (by decide) (by decide) (by decide) (by decide) (by decide) (by decide)) (yq' _ (by decide) (by decide) (by decide) (by decide) (by decide) (by decide) (by decide) (by decide) (by decide)) (yq' _ (by decide) (by decide) (by decide) (by decide) (by decide) (by decide) (by decide) (by decide) (by decide)) (by rw [yq 60 (by decide), q3]; rfl)
  have hFy : mfOK y := by unfold mfOK; rw [yq' 70 (by decide) (by decide) (by decide) (by decide) (by decide) (by decide) (by decide) (by decide) (by decide), yq' 71 (by decide) (by decide) (by decide) (by decide) (by decide) (by decide) (by decide) (by decide) (by decide)]; exact h3.2.1
  have y33 := y55' 33 (by decide) (by decide) (by decide) (by decide) (by decide)
  have hSy : MSOK y := by unfold MSOK; rw [y33, y55' 0 (by decide) (by decide) (by decide) (by decide) (by decide), yq' 79 (by decide) (by decide) (by decide) (by decide) (by decide) (by decide) (by decide) (by decide) (by decide)]; exact s2
  have y35 : y 55 35 = c 6 8 := by rw [y55' 35 (by decide) (by decide) (by decide) (by decide) (by decide)]; exact h9.2.1
  have hb68 := h9.2.2.2.2.2.1
  refine ⟨Lr, ⟨hHy, hFy, hSy, by omega, by rw [y55 47 (by decide) (by decide) (by decide)]; exact q8, by rw [yq 86 (by decide)]; exact q9, by rw [y33, s3]; exact hrm, by omega, by rw [y35]; omega⟩, fun m' f1 f2 f3 f4 => ?_⟩
  obtain ⟨R', hR', t1, t2, t3⟩ := f4
  have hwm := fm_cells (c := m) (g := y) (fun q hq => yq' q (by omega) (by omega) (by omega) (by omega) (by omega) (by omega) (by omega) (by omega) (by omega)) y33
  rw [hwm, y35, yq 60 (by decide), yq 61 (by decide), q3] at hR'
  have hf0 : agr 10 (dgt (g 1 8)) (stM m a) := fun t t0 t1 => by
    rw [p4 t t0 t1]
    unfold stM stK chP
    rw [e0, hi.1, ev, h1.2.2.2.2.2.2.2.1 t t0 t1]
    exact cif_c ⟨fun z => ⟨t0, t1, (hCHm t t0).mp z.2⟩, fun z => ⟨by omega, (hCHm t t0).mpr z.2.2⟩⟩
  have hr0 : agr (c 1 7) (g 13) (x 61) := fun t t0 t1 => by
    rw [p5 t t0, q4 t t0, h6.2.1, h1.2.2.2.2.2.2.2.2.1 t t0 t1]
    exact cif_c ⟨fun z => ⟨by omega, z.2⟩, fun z => ⟨by omega, z.2⟩⟩
  have hc := fir_cm (c := c) (m := m) h1 h3 h7 (f := dgt (g 1 8)) (g := stM m a) (r := g 13) (r' := x 61) (hd := c 6 8) (c0 := cnt (mem (chC c b v)) 10) (L := Lr) hf0 hr0 hrm
  rw [← hR, ← hR'] at hc
  have hout : ∀ t : Int, c 1 7 ≤ t → t < 10 → R.2.1 t = -4 := fun t ht tt => by
    rw [hR, fir_r (N := c 6 7) (T := c 1 7) (fun s a b => (s1.2 s a b).1) (fun t v x hx => wkC_m s1.1 t v x hx) ht 257 0 _ _ _ _ _ hrm, p5 t (by omega), cif_f (fun z => by have := ((hCHm t (by omega)).mp z.2).1; omega)]
    exact h1.2.2.2.2.2.2.2.2.2 t ht tt
  have mm : ∀ q, q ≠ 55 → q ≠ 60 → q ≠ 61 → q ≠ 76 → q ≠ 77 → q ≠ 78 → q ≠ 80 → q ≠ 82 → q ≠ 86 → m' q = m q := fun q a1 a2 a3 a4 a5 a6 a7 a8 a9 => by rw [f1.1 q a2 a3 a8 a9 a1]; exact yq' q a1 a2 a3 a4 a5 a6 a7 a8 a9
  have mm5 : ∀ i : Int, i ≠ 20 → i ≠ 28 → i ≠ 29 → i ≠ 35 → i ≠ 36 → i ≠ 47 → m' 55 i = m 55 i := fun i a1 a2 a3 a4 a5 a6 => by rw [f1.2 i a4 a6]; exact y55' i a1 a2 a3 a5 a6
  have my : ∀ q, q ≠ 60 → q ≠ 61 → q ≠ 82 → q ≠ 86 → q ≠ 55 → m' q = x q := fun q a1 a2 a3 a4 a5 => by rw [f1.1 q a1 a2 a3 a4 a5, yq q a5]
  have m17 := m1i 7 (by decide)
  refine Fin_m (c' := m) ⟨⟨?_, f2, ?_, ?_, ?_, ?_, ?_, fun t t0 t1' => ?_, fun t t0 t1' => ?_, fun t t0 t1' => ?_⟩, rTx_c h2 (by (repeat' apply And.intro) <;> first | (apply cq <;> decide) | (refine congrFun ?_ _; apply cq <;> decide) | rfl) (by (repeat' apply And.intro) <;> first | (apply mm <;> decide) | (apply mm5 <;> decide) | (refine congrFun ?_ _; apply mm <;> decide) | (refine congrFun ?_ _; apply mm5 <;> decide) | rfl), rRl_c h3 (by (repeat' apply And.intro) <;> first | (apply cq <;> decide) | (refine congrFun ?_ _; apply cq <;> decide) | rfl) (by (repeat' apply And.intro) <;> first | (apply mm <;> decide) | (apply mm5 <;> decide) | (refine congrFun ?_ _; apply mm <;> decide) | (refine congrFun ?_ _; apply mm5 <;> decide) | rfl), rVo_c h4 (by (repeat' apply And.intro) <;> first | (apply cq <;> decide) | (refine congrFun ?_ _; apply cq <;> decide) | rfl) (by (repeat' apply And.intro) <;> first | (apply mm <;> decide) | (apply mm5 <;> decide) | (refine congrFun ?_ _; apply mm <;> decide) | (refine congrFun ?_ _; apply mm5 <;> decide) | rfl), ?_, ?_, ?_, ⟨lgF (c 4 13) (c 1 9) b v L 10, ?_, ?_, ?_⟩, ?_⟩ rfl (fun q a => mm q (by omega) (by omega) (by omega) (by omega) (by omega) (by omega) (by omega) (by omega) (by omega))
  · rw [hm]
    exact HOK_c (h := c1) (by rw [sth_ne (by decide), sth_ne (by decide)]) (by rw [sth_ne (by decide), sth_ne (by decide)]) (by rw [sth_ne (by decide), sth_ne (by decide)]) (by rw [sth_ne (by decide), sth_ne (by decide)]) (by rw [sth_ne (by decide), sth_ne (by decide)]) (by rw [sth_ne (by decide), sth_ne (by decide)]) (by rw [sth_ne (by decide), sth_ne (by decide)]) hH1
  · rw [mm5 0 (by decide) (by decide) (by decide) (by decide) (by decide) (by decide), m17]; exact e0
  · rw [mm 56 (by decide) (by decide) (by decide) (by decide) (by decide) (by decide) (by decide) (by decide) (by decide), h1.2.2.2.1, cq 9 (by decide) (by decide) (by decide) (by decide) (by decide) (by decide) (by decide) (by decide) (by decide) (by decide) (by decide) (by decide) (by decide) (by decide)]
  · rw [mm 57 (by decide) (by decide) (by decide) (by decide) (by decide) (by decide) (by decide) (by decide) (by decide), h1.2.2.2.2.1, cq 10 (by decide) (by decide) (by decide) (by decide) (by decide) (by decide) (by decide) (by decide) (by decide) (by decide) (by decide) (by decide) (by decide) (by decide)]
  · rw [mm 58 (by decide) (by decide) (by decide) (by decide) (by decide) (by decide) (by decide) (by decide) (by decide), h1.2.2.2.2.2.1, cq 11 (by decide) (by decide) (by decide) (by decide) (by decide) (by decide) (by decide) (by decide) (by decide) (by decide) (by decide) (by decide) (by decide) (by decide)]
  · rw [mm 62 (by decide) (by decide) (by decide) (by decide) (by decide) (by decide) (by decide) (by decide) (by decide), h1.2.2.2.2.2.2.1, cq 14 (by decide) (by decide) (by decide) (by decide) (by decide) (by decide) (by decide) (by decide) (by decide) (by decide) (by decide) (by decide) (by decide) (by decide)]
  · rw [t1, m1, r1 t t0 t1']; exact (hc.1 t t0 t1').symm
  · rw [m17] at t1'
    rw [t2, m13, r2]; exact (hc.2.1 t t0 t1').symm
  · rw [m17] at t0
    rw [m13, r2]; exact hout t t0 t1'
  · have m412 : m 4 12 = 0 := by rw [hm, sth_eq, us_n (by decide), sth_eq, us_s]
    have m415 : m 4 15 = 0 := by rw [hm, sth_eq, us_s]
    have m4i : ∀ i : Int, i ≠ 12 → i ≠ 15 → m 4 i = c 4 i := fun i a1 a2 => by rw [hm, sth_eq, us_n a2, sth_eq, us_n a1, hfr.1 4 (by decide) (by decide) (by decide) (by decide), p1 4 (by decide) (by decide) (by decide) (by decide) (by decide) (by decide) (by decide) (by decide) (by decide) (by decide) (by decide) (by decide) (by decide)]
    refine ⟨?_, ?_, Or.inl m412, by rw [f1.2 20 (by decide) (by decide), y20, m412], fun z => by rw [m412] at z; exact absurd z (by decide)⟩
    · have g1 := h5.1
      unfold EOK at g1 ⊢
      rw [m415, m4i 13 (by decide) (by decide), cq 30 (by decide) (by decide) (by decide) (by decide) (by decide) (by decide) (by decide) (by decide) (by decide) (by decide) (by decide) (by decide) (by decide) (by decide), cq 31 (by decide) (by decide) (by decide) (by decide) (by decide) (by decide) (by decide) (by decide) (by decide) (by decide) (by decide) (by decide) (by decide) (by decide)]
      exact ⟨by omega, g1.2.1, g1.2.2.1, fun i a b => by omega⟩
    · have g2 := h5.2.1
      unfold mEOK at g2 ⊢
      rw [mm5 23 (by decide) (by decide) (by decide) (by decide) (by decide) (by decide), mm5 21 (by decide) (by decide) (by decide) (by decide) (by decide) (by decide), mm5 10 (by decide) (by decide) (by decide) (by decide) (by decide) (by decide), mm 64 (by decide) (by decide) (by decide) (by decide) (by decide) (by decide) (by decide) (by decide) (by decide), mm 73 (by decide) (by decide) (by decide) (by decide) (by decide) (by decide) (by decide) (by decide) (by decide), mm 74 (by decide) (by decide) (by decide) (by decide) (by decide) (by decide) (by decide) (by decide) (by decide), mm 75 (by decide) (by decide) (by decide) (by decide) (by decide) (by decide) (by decide) (by decide) (by decide)]
      exact g2
  · have m5 : m 5 = g 5 := mq 5 (by decide) (by decide) (by decide) (by decide) (by decide)
    have hpk : pack (m 60) (c 1 7).toNat = c 1 8 := by
      rw [← st60 h1, pack_past (m := (c 1 7).toNat) (n := 10) (by omega) (fun t t0 t1 => h1.2.1.2.2.1 t (by rw [e0]; omega) (by omega))]
    have e53 := h6.1
    have z38 := h6.2.2.2.2.2.2.1
    unfold rDe
    rw [m5, p8, p9, mq 36 (by decide) (by decide) (by decide) (by decide) (by decide), p6, mq 37 (by decide) (by decide) (by decide) (by decide) (by decide), p7, cq 38 (by decide) (by decide) (by decide) (by decide) (by decide) (by decide) (by decide) (by decide) (by decide) (by decide) (by decide) (by decide) (by decide) (by decide), f1.2 29 (by decide) (by decide), y29, f1.2 28 (by decide) (by decide), y28, my 76 (by decide) (by decide) (by decide) (by decide) (by decide), q5, my 77 (by decide) (by decide) (by decide) (by decide) (by decide), q6, my 78 (by decide) (by decide) (by decide) (by decide) (by decide), q7, h6.2.1, h6.2.2.1, h6.2.2.2.1, h6.2.2.2.2.1, hpk]
    have hbb : 0 ≤ b ∧ b < 1024 := by rw [← hb]; exact (h5.1.2.2.1 a ha.1 (by have := h5.1.1; omega)).1
    refine ⟨by omega, rfl, rfl, rfl, ?_, fun i i0 i1 => ?_, fun i i0 => z38 i (by omega), rfl, hbb⟩
    · funext i
      by_cases e : i = c 5 3
      · rw [e, us_s]; exact (z38 _ (Int.le_refl _)).symm
      · rw [us_n e]
    · by_cases e : i = c 5 3
      · rw [e, us_s, us_s]; exact ⟨hCHb, h1.1.2.2.1⟩
      · rw [us_n e, us_n e]; exact h6.2.2.2.2.2.1 i i0 (by omega)
  · refine rSt_c h7 ⟨m6i 7 (by decide) (by decide), ?_, ?_, ?_, ?_, m17⟩ (by (repeat' apply And.intro) <;> first | (apply mm <;> decide) | (apply mm5 <;> decide) | (refine congrFun ?_ _; apply mm <;> decide) | (refine congrFun ?_ _; apply mm5 <;> decide) | rfl)
    · exact cq 39 (by decide) (by decide) (by decide) (by decide) (by decide) (by decide) (by decide) (by decide) (by decide) (by decide) (by decide) (by decide) (by decide) (by decide)
    · exact cq 40 (by decide) (by decide) (by decide) (by decide) (by decide) (by decide) (by decide) (by decide) (by decide) (by decide) (by decide) (by decide) (by decide) (by decide)
    · exact cq 41 (by decide) (by decide) (by decide) (by decide) (by decide) (by decide) (by decide) (by decide) (by decide) (by decide) (by decide) (by decide) (by decide) (by decide)
    · exact cq 42 (by decide) (by decide) (by decide) (by decide) (by decide) (by decide) (by decide) (by decide) (by decide) (by decide) (by decide) (by decide) (by decide) (by decide)
  · refine ⟨by rw [mq 8 (by decide) (by decide) (by decide) (by decide) (by decide)]; exact p14.1, p14.2.1, fun i hi => ?_⟩
    rw [leC_c (h := g) (mq _ (by decide) (by decide) (by decide) (by decide) (by decide)) (mq _ (by decide) (by decide) (by decide) (by decide) (by decide)) (mq _ (by decide) (by decide) (by decide) (by decide) (by decide)) (mq _ (by decide) (by decide) (by decide) (by decide) (by decide)) (mq _ (by decide) (by decide) (by decide) (by decide) (by decide))]
    exact p14.2.2 i hi
  · refine ⟨by rw [f1.2 36 (by decide) (by decide), y55 36 (by decide) (by decide) (by decide)]; exact q10.1, q10.2.1, fun i hi => ?_⟩
    rw [leM_c (h := x) (my _ (by decide) (by decide) (by decide) (by decide) (by decide))]
    exact q10.2.2 i hi
  · rw [m17]
    have h19 := h9.2.2.2.2.1
    exact lgF_ok hO (by omega) hv3 10 (fun i i0 i1 im => Classical.byContradiction (fun z => hbT i (by omega) i1 im))
  · have k1 := h9.2.2.2.2.1
    have k3 := h9.2.2.2.2.2.2
    refine ⟨?_, ?_, ?_, fun t t0 t1 => ?_, ?_, ?_, ?_⟩
    · rw [mm5 8 (by decide) (by decide) (by decide) (by decide) (by decide) (by decide), m1i 9 (by decide)]; exact h9.1
    · rw [t3, m6, r3, hc.2.2]
    · rw [mm5 38 (by decide) (by decide) (by decide) (by decide) (by decide) (by decide), mq 8 (by decide) (by decide) (by decide) (by decide) (by decide), p13 7 (by decide)]; exact h9.2.2.1
    · rw [mm 59 (by decide) (by decide) (by decide) (by decide) (by decide) (by decide) (by decide) (by decide) (by decide), cq 12 (by decide) (by decide) (by decide) (by decide) (by decide) (by decide) (by decide) (by decide) (by decide) (by decide) (by decide) (by decide) (by decide) (by decide)]
      have := h9.2.2.2.1 t t0 t1
      exact ⟨this.1, this.2.1, by omega⟩
    · rw [m1i 9 (by decide)]; omega
    · rw [m6]; omega
    · rw [mq 8 (by decide) (by decide) (by decide) (by decide) (by decide), p13 7 (by decide)]; omega
theorem pr_done {n : Nat} {c : HP} (H : Rel n c c) (hn : n ≤ 600) : S_X8_done c (fun r c' => S_X9_done c' (fun r' m' => Fin n r r' m')) := by
  obtain ⟨h1, h2, h3, h4, h5, h6, h7, ⟨L, hC, hM, hO⟩, h9⟩ := id H
  have h12 := h5.1.1
  have h16 := h4.1.1
  have hour := h9.2.2.2.2.1
  unfold S_X8_done
  by_cases hno : c 4 12 = 0 ∨ ¬ unl c = 1
  · have et : tkn c = -1 := by unfold tkn; rw [cif_t hno]
    have hnoM : c 55 20 = 0 ∨ ¬ unM c = 1 := by
      rw [h5.2.2.2.1]
      by_cases z : c 4 12 = 0
      · exact Or.inl z
      · rw [← un_eq H (heard1 h5.2.2.1 z)]; exact Or.inr (hno.resolve_left z)
    rw [et]
    exact ⟨⟨h1.1, h4.1, h5.1⟩, fun z => absurd z (by decide), fun _ => ⟨L, preM hn H hM, fun _ => Fin_u H rfl, fun y => absurd hnoM y⟩⟩
  · have hh : c 4 12 = 1 := heard1 h5.2.2.1 (fun z => hno (Or.inl z))
    have hun : unl c = 1 := Classical.byContradiction (fun z => hno (Or.inr z))
    have hunM : unM c = 1 := by rw [← un_eq H hh]; exact hun
    obtain ⟨j, j0, j1, j2⟩ : ∃ i : Int, 0 ≤ i ∧ i < (((c 4 15).toNat : Nat) : Int) ∧ ulp c i := cnt_ex (by unfold unl at hun; omega)
    obtain ⟨a, ha1, ha2, ha3⟩ := fsN_e (p := fun i => c 31 i = 1) (n := (c 4 15).toNat) ⟨j, j0, j1, j2.1⟩
    have et : tkn c = (a : Int) := by unfold tkn; rw [cif_f hno]; exact ha2
    have ha : 0 ≤ (a : Int) ∧ (a : Int) < c 4 15 := by omega
    have hw := h5.1.2.2.2 (a : Int) ha.1 ha.2
    have hnum := h4.1.2.1 (c 27 (a : Int)) hw.1.1 hw.1.2.1
    have hv3 : 0 ≤ c 21 (c 27 (a : Int)) ∧ c 21 (c 27 (a : Int)) ≤ 3 := ⟨hnum.2.1.1, hnum.2.2.1 hw.1.2.2⟩
    have hbb := (h5.1.2.2.1 (a : Int) ha.1 (by omega)).1
    have eV : cif (0 ≤ c 27 (a : Int) ∧ c 27 (a : Int) < c 3 6) (c 21 (c 27 (a : Int))) 0 = c 21 (c 27 (a : Int)) := cif_t ⟨hw.1.1, hw.1.2.1⟩
    have efs : ∀ m : HP, (∀ q, 55 ≤ q → m q = c q) → fsN (fun i => m 75 i = 1) (m 55 23).toNat = (a : Int) := fun m f => by
      rw [f 75 (by decide), f 55 (by decide), (h5.2.2.2.2 hh).1, ← ha2]
      exact fsN_c (fun i i0 i1 => by rw [((h5.2.2.2.2 hh).2.2.2 i i0 (by omega)).2.2.2.2.2.1])
    have hnoM : ∀ m : HP, (∀ q, 55 ≤ q → m q = c q) → ¬ (m 55 20 = 0 ∨ ¬ unM m = 1) := fun m f y => by
      rw [un_fr f, f 55 (by decide), h5.2.2.2.1, hunM, hh] at y
      rcases y with y | y
      · exact absurd y (by decide)
      · exact y rfl
    have hrt := dn_rt H hh ha
    have hnb : (∃ k : Int, 0 ≤ k ∧ k < c 2 6 ∧ cBar c k (dgt (wAll (c 1 8) (c 30 (a : Int)) (c 21 (c 27 (a : Int))))) ∧ ¬ cBar c k (dgt (c 1 8))) ↔ mNB c (c 60) (stM c (a : Int)) := nb_eq h3 h1 (fun t a b => (h1.2.2.2.2.2.2.2.1 t a b).symm) (dn_st H hh ha hv3)
    rw [et, eV]
    refine ⟨⟨h1.1, h4.1, h5.1⟩, fun _ => ⟨by omega, ⟨h1.1, h3.1, hbb, hour.1⟩, fun zr => ⟨fun zf => ⟨by omega, h16.2, ⟨h1.1.2.2.1, hbb, hv3⟩, ⟨h1.1, h3.1, h1.1.2.2.1, inS_wAll hv3⟩, fun zb => ?_, fun zb => ?_⟩, fun zf => ?_⟩, fun zr => ?_⟩, fun z => by omega⟩
    · refine ⟨L, ⟨h1.1, h7.1, hbb, hv3, by have := h6.1; omega, hour.1, hC⟩, fun g hmd => ?_⟩
      obtain ⟨p1, p2, p3, p4, p5, p6, p7, p8, p9, p10, p11, p12, p13, p14⟩ := id hmd
      have hCHb : 0 ≤ chC c (c 30 (a : Int)) (c 21 (c 27 (a : Int))) ∧ chC c (c 30 (a : Int)) (c 21 (c 27 (a : Int))) < 1024 := bset_b _ (n := 10)
      have e16 : cnt (mem (chC c (c 30 (a : Int)) (c 21 (c 27 (a : Int))))) 16 = cnt (mem (chC c (c 30 (a : Int)) (c 21 (c 27 (a : Int))))) 10 := cnt_past (by decide) (fun i a b y => by have := mem_lt (n := 10) hCHb (by omega) y; omega)
      have hc10 := cnt_b (mem (chC c (c 30 (a : Int)) (c 21 (c 27 (a : Int))))) 10
      have hrl := rwL_l (CH := chC c (c 30 (a : Int)) (c 21 (c 27 (a : Int)))) (v := c 21 (c 27 (a : Int))) (wkC_l h7.1.1) 10
      have hrm := rwL_m (CH := chC c (c 30 (a : Int)) (c 21 (c 27 (a : Int)))) (v := c 21 (c 27 (a : Int))) (N := c 6 7) (fun t v s hs => wkC_m h7.1.1 t v s hs) 10
      have gF : fOK g := by unfold fOK; rw [p1 2 (by decide) (by decide) (by decide) (by decide) (by decide) (by decide) (by decide) (by decide) (by decide) (by decide) (by decide) (by decide) (by decide), p1 18 (by decide) (by decide) (by decide) (by decide) (by decide) (by decide) (by decide) (by decide) (by decide) (by decide) (by decide) (by decide) (by decide), p1 19 (by decide) (by decide) (by decide) (by decide) (by decide) (by decide) (by decide) (by decide) (by decide) (by decide) (by decide) (by decide) (by decide)]; exact h3.1
      have gS : SOK g := by unfold SOK; rw [p10 7 (by decide), p2 7 (by decide), p1 41 (by decide) (by decide) (by decide) (by decide) (by decide) (by decide) (by decide) (by decide) (by decide) (by decide) (by decide) (by decide) (by decide), p1 42 (by decide) (by decide) (by decide) (by decide) (by decide) (by decide) (by decide) (by decide) (by decide) (by decide) (by decide) (by decide) (by decide)]; exact h7.1
      have hb68 := h9.2.2.2.2.2.1
      refine ⟨rwL (wkC c) (chC c (c 30 (a : Int)) (c 21 (c 27 (a : Int)))) (c 21 (c 27 (a : Int))) 10, ⟨p3, gF, gS, by omega, p11, p12, by rw [p10 7 (by decide)]; exact hrm, by omega, by rw [p10 8 (by decide)]; omega⟩, fun c1 f1 f2 f3 f4 => ?_⟩
      have fm : ∀ q, 55 ≤ q → sth (sth c1 4 12 0) 4 15 0 q = c q := fun q a => by rw [sth_ne (by omega), sth_ne (by omega), f1.1 q (by omega) (by omega) (by omega) (by omega)]; exact p1 q (by omega) (by omega) (by omega) (by omega) (by omega) (by omega) (by omega) (by omega) (by omega) (by omega) (by omega) (by omega) (by omega)
      show S_X9_done (sth (sth c1 4 12 0) 4 15 0) _
      generalize hm : sth (sth c1 4 12 0) 4 15 0 = m at fm ⊢
      have HM : Rel n c m := Rel_c H (fun _ _ => rfl) fm
      have hLm := lgM_fr fm hM
      refine ⟨L, preM hn HM hLm, fun y => absurd y (hnoM m fm), fun _ a' ha' hb' => ?_⟩
      rw [efs m fm] at ha'
      subst ha'
      refine ⟨fun y => absurd ((dn_rt HM hh ha).mp zr) y, fun _ => ⟨fun y => by rw [HM.2.2.2.2.2.1.2.1] at y; omega, fun _ => ⟨fun y => absurd ?_ zb, fun _ => dn_end hn HM hO hLm hh ha zf hv3 hmd f1 f2 f3 f4 hm.symm⟩⟩⟩
      exact (nb_eq HM.2.2.1 HM.1 (fun t a b => (HM.1.2.2.2.2.2.2.2.1 t a b).symm) (dn_st HM hh ha hv3)).mpr y
    · refine ⟨L, preM hn H hM, fun y => absurd y (hnoM c (fun _ _ => rfl)), fun _ a' ha' hb' => ?_⟩
      rw [efs c (fun _ _ => rfl)] at ha'
      subst ha'
      refine ⟨fun y => absurd (hrt.mp zr) y, fun _ => ⟨fun y => by rw [h6.2.1] at y; omega, fun _ => ⟨fun _ m' q1 => ?_, fun y => absurd (hnb.mp zb) y⟩⟩⟩
      exact Fin_m (c' := c) ⟨rHs_c h1 ⟨rfl, rfl, rfl, rfl, rfl, rfl, rfl, rfl⟩ (by (repeat' apply And.intro) <;> first | (apply q1 <;> decide) | (refine congrFun ?_ _; apply q1 <;> decide) | rfl), rTx_c h2 ⟨rfl, rfl⟩ (by (repeat' apply And.intro) <;> first | (apply q1 <;> decide) | (refine congrFun ?_ _; apply q1 <;> decide) | rfl), rRl_c h3 ⟨rfl, rfl, rfl⟩ (by (repeat' apply And.intro) <;> first | (apply q1 <;> decide) | (refine congrFun ?_ _; apply q1 <;> decide) | rfl), rVo_c h4 ⟨rfl, rfl, rfl, rfl, rfl, rfl, rfl, rfl⟩ (by (repeat' apply And.intro) <;> first | (apply q1 <;> decide) | (refine congrFun ?_ _; apply q1 <;> decide) | rfl), rHe_c h5 ⟨rfl, rfl, rfl, rfl, rfl, rfl, rfl, rfl, rfl, rfl, rfl, rfl, rfl⟩ (by (repeat' apply And.intro) <;> first | (apply q1 <;> decide) | (refine congrFun ?_ _; apply q1 <;> decide) | rfl), rDe_c h6 ⟨rfl, rfl, rfl, rfl, rfl⟩ (by (repeat' apply And.intro) <;> first | (apply q1 <;> decide) | (refine congrFun ?_ _; apply q1 <;> decide) | rfl), rSt_c h7 ⟨rfl, rfl, rfl, rfl, rfl, rfl⟩ (by (repeat' apply And.intro) <;> first | (apply q1 <;> decide) | (refine congrFun ?_ _; apply q1 <;> decide) | rfl), rLg_c H.2.2.2.2.2.2.2.1 ⟨rfl, rfl, rfl, rfl, rfl, rfl, rfl⟩ (by (repeat' apply And.intro) <;> first | (apply q1 <;> decide) | (refine congrFun ?_ _; apply q1 <;> decide) | rfl), rNm_c h9 ⟨rfl, rfl, rfl, rfl⟩ (by (repeat' apply And.intro) <;> first | (apply q1 <;> decide) | (refine congrFun ?_ _; apply q1 <;> decide) | rfl)⟩ rfl (fun q a => q1 q (by omega))
    · refine ⟨L, preM hn H hM, fun y => absurd y (hnoM c (fun _ _ => rfl)), fun _ a' ha' hb' => ?_⟩
      rw [efs c (fun _ _ => rfl)] at ha'
      subst ha'
      exact ⟨fun y => absurd (hrt.mp zr) y, fun _ => ⟨fun _ => Fin_u H rfl, fun y => absurd (by rw [h6.2.1]; have := h6.1; omega) y⟩⟩
    · refine ⟨L, preM hn H hM, fun y => absurd y (hnoM c (fun _ _ => rfl)), fun _ a' ha' hb' => ?_⟩
      rw [efs c (fun _ _ => rfl)] at ha'
      subst ha'
      exact ⟨fun _ => Fin_u H rfl, fun y => absurd (hrt.mpr y) zr⟩
