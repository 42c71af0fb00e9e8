/-! how many (fired, states) there can be: 2048 places do -/
theorem wkP_i {p : Int → Prop} : ∀ {n : Nat} {s : Int}, (0 ≤ s ∧ s < (n : Int)) → p s → s ∈ wkP p n
  | 0, s, h, _ => by omega
  | n + 1, s, h, hp => by
    by_cases e : s = (n : Int)
    · subst e; rw [wkP_t hp]; exact List.mem_append_right _ (List.mem_singleton.mpr rfl)
    · have ih := wkP_i (p := p) (n := n) (s := s) (by omega) hp
      by_cases c : p (n : Int)
      · rw [wkP_t c]; exact List.mem_append_left _ ih
      · rw [wkP_f c]; exact ih
theorem wkP_nil {p : Int → Prop} : ∀ {n : Nat}, (∀ i : Int, 0 ≤ i → i < (n : Int) → ¬ p i) → wkP p n = []
  | 0, _ => rfl
  | n + 1, h => by rw [wkP_f (h _ (by omega) (by omega)), wkP_nil (n := n) (fun i a b => h i a (by omega))]
theorem wkP_nd (p : Int → Prop) : ∀ n : Nat, (wkP p n).Nodup
  | 0 => List.nodup_nil
  | n + 1 => by
    have ih := wkP_nd p n
    by_cases c : p (n : Int)
    · rw [wkP_t c]
      refine List.nodup_append.mpr ⟨ih, List.nodup_cons.mpr ⟨by simp, List.nodup_nil⟩, fun a ha b hb => ?_⟩
      have h1 := (wkP_m _ _ _ ha).1
      rw [List.mem_singleton.mp hb]
      omega
    · rw [wkP_f c]; exact ih
theorem fm_len {α β : Type} {f : α → List β} {c : Nat} : ∀ {l : List α}, (∀ a, a ∈ l → (f a).length ≤ c) → (l.flatMap f).length ≤ l.length * c
  | [], _ => by simp
  | a :: l, h => by
    have ih := fm_len (l := l) (fun x hx => h x (List.mem_cons_of_mem _ hx))
    have h1 := h a List.mem_cons_self
    rw [List.flatMap_cons, List.length_append, List.length_cons, Nat.add_mul, Nat.one_mul]
    omega
def nin (F s : Int) : Bool := !(F.toNat.testBit s.toNat)
theorem nin_m {F s : Int} : nin F s = true ↔ ¬ mem F s := by
  unfold nin mem
  cases F.toNat.testBit s.toNat <;> simp
def lvl (P : SP) (HL : List Int) : Nat → List (Int × Int)
  | 0 => [(0, P.2.2.2.2.2)]
  | n + 1 => (lvl P HL n).flatMap (fun p => (HL.filter (nin p.1)).map (fun s => (stb p.1 s, P.2.2.2.2.1 s p.2)))
theorem lvl_r {P : SP} (hP : pOK P) {HL : List Int} (hH : ∀ s : Int, s ∈ HL ↔ pHr P s) : ∀ (n : Nat) (F S : Int), rch P n F S → (F, S) ∈ lvl P HL n
  | 0, F, S, h => by
    obtain ⟨rfl, rfl⟩ := h
    exact List.mem_singleton.mpr rfl
  | n + 1, F, S, h => by
    obtain ⟨F0, S1, s, h1, h2, h3, h4, rfl⟩ := h
    have ih := lvl_r hP hH n F0 S1 h1
    refine List.mem_flatMap.mpr ⟨(F0, S1), ih, List.mem_map.mpr ⟨s, List.mem_filter.mpr ⟨(hH s).mpr h2.1, nin_m.mpr h2.2.1⟩, ?_⟩⟩
    show (stb F0 s, P.2.2.2.2.1 s S1) = (stb F0 s, S)
    rw [h3]
theorem lvl_f {P : SP} (hP : pOK P) {HL : List Int} (hH : ∀ s : Int, s ∈ HL ↔ pHr P s) : ∀ (n : Nat) (p : Int × Int), p ∈ lvl P HL n → (0 ≤ p.1 ∧ p.1 < 256) ∧ (HL.filter (nin p.1)).length + n ≤ HL.length
  | 0, p, h => by
    rw [List.mem_singleton.mp h]
    exact ⟨⟨Int.le_refl _, by show (0 : Int) < 256; decide⟩, List.length_filter_le _ _⟩
  | n + 1, p, h => by
    obtain ⟨p0, hp0, hp⟩ := List.mem_flatMap.mp h
    obtain ⟨s, hs, rfl⟩ := List.mem_map.mp hp
    obtain ⟨a, b⟩ := lvl_f hP hH n p0 hp0
    obtain ⟨s1, s2⟩ := List.mem_filter.mp hs
    have hr := ((hH s).mp s1).1
    have hb := stb_b a (s := s) (by have := hP.1; omega)
    refine ⟨hb.1, ?_⟩
    have e : HL.filter (nin (stb p0.1 s)) = (HL.filter (nin p0.1)).filter (fun u => decide (¬ u = s)) := by
      rw [List.filter_filter]
      refine List.filter_congr (fun u hu => ?_)
      have hu0 := ((hH u).mp hu).1
      have h1 : nin (stb p0.1 s) u = true ↔ (nin p0.1 u = true ∧ ¬ u = s) := by
        rw [nin_m, nin_m, hb.2 u hu0.1]
        exact not_or
      by_cases c1 : nin p0.1 u = true
      · by_cases c2 : u = s
        · rw [c1, c2]
          have : ¬ nin (stb p0.1 s) s = true := fun y => by
            rw [← c2] at y
            exact (h1.mp (by rw [c2] at y ⊢; exact y)).2 c2
          simp [this]
        · rw [c1, h1.mpr ⟨c1, c2⟩]; simp [c2]
      · have : ¬ nin (stb p0.1 s) u = true := fun y => c1 (h1.mp y).1
        simp [c1, this]
    have hlt : ((HL.filter (nin p0.1)).filter (fun u => decide (¬ u = s))).length < (HL.filter (nin p0.1)).length := List.length_filter_lt_length_iff_exists.mpr ⟨s, hs, by simp⟩
    show (HL.filter (nin (stb p0.1 s))).length + (n + 1) ≤ HL.length
    rw [e]
    omega
theorem lvl_n {P : SP} (hP : pOK P) {HL : List Int} (hH : ∀ s : Int, s ∈ HL ↔ pHr P s) (n : Nat) : (lvl P HL (n + 1)).length ≤ (lvl P HL n).length * (HL.length - n) :=
  fm_len (fun p hp => by
    have := (lvl_f hP hH n p hp).2
    rw [List.length_map]
    omega)
theorem room6 {P : SP} (hP : pOK P) {HL : List Int} (hH : ∀ s : Int, s ∈ HL ↔ pHr P s) (h6 : HL.length ≤ 6) : ∃ U : List (Int × Int), U.length ≤ 2048 ∧ ∀ (n : Nat) (F S : Int), rch P n F S → (F, S) ∈ U := by
  have l0 : (lvl P HL 0).length = 1 := rfl
  have l1 := lvl_n hP hH 0
  have l2 := lvl_n hP hH 1
  have l3 := lvl_n hP hH 2
  have l4 := lvl_n hP hH 3
  have l5 := lvl_n hP hH 4
  have l6 := lvl_n hP hH 5
  have k1 : (lvl P HL 1).length ≤ 6 := Nat.le_trans l1 (Nat.mul_le_mul (Nat.le_of_eq l0) (show HL.length - 0 ≤ 6 by omega))
  have k2 : (lvl P HL 2).length ≤ 30 := Nat.le_trans l2 (Nat.mul_le_mul k1 (show HL.length - 1 ≤ 5 by omega))
  have k3 : (lvl P HL 3).length ≤ 120 := Nat.le_trans l3 (Nat.mul_le_mul k2 (show HL.length - 2 ≤ 4 by omega))
  have k4 : (lvl P HL 4).length ≤ 360 := Nat.le_trans l4 (Nat.mul_le_mul k3 (show HL.length - 3 ≤ 3 by omega))
  have k5 : (lvl P HL 5).length ≤ 720 := Nat.le_trans l5 (Nat.mul_le_mul k4 (show HL.length - 4 ≤ 2 by omega))
  have k6 : (lvl P HL 6).length ≤ 720 := Nat.le_trans l6 (Nat.mul_le_mul k5 (show HL.length - 5 ≤ 1 by omega))
  refine ⟨lvl P HL 0 ++ lvl P HL 1 ++ lvl P HL 2 ++ lvl P HL 3 ++ lvl P HL 4 ++ lvl P HL 5 ++ lvl P HL 6, ?_, fun n F S h => ?_⟩
  · simp only [List.length_append]
    omega
  · have hm := lvl_r hP hH n F S h
    have hn := (lvl_f hP hH n _ hm).2
    simp only [List.mem_append]
    rcases (show n = 0 ∨ n = 1 ∨ n = 2 ∨ n = 3 ∨ n = 4 ∨ n = 5 ∨ n = 6 by omega) with rfl | rfl | rfl | rfl | rfl | rfl | rfl <;> simp only [hm, true_or, or_true]
def gmx (n : Nat) : Nat := [1, 1, 2, 3, 4, 6, 9, 12, 18].getD n 0
theorem gmx_m : ∀ a, a < 9 → ∀ n, n < 9 → a + n < 9 → gmx a * max 1 n ≤ gmx (a + n) := by decide +kernel
theorem gmx_u : ∀ b, b < 9 → ∀ a, a < 9 → a ≤ b → gmx a ≤ gmx b := by decide +kernel
theorem gmx_s : ((List.range 256).map (fun G => gmx (pcb 8 G))).foldr (· + ·) 0 ≤ 2048 := by decide +kernel
section
variable (P : SP) (x0 : Int)
noncomputable def chs (G t : Int) : List Int := @ite _ ((¬ P.2.1 x0 ∧ mem G x0) ∧ P.2.2.1 x0 = t) (Classical.propDecidable _) [P.2.2.2.1 x0] (if (wkP (fun s => mem G s ∧ P.2.1 s ∧ P.2.2.1 s = t) 8) = [] then [dgt P.2.2.2.2.2 t] else (wkP (fun s => mem G s ∧ P.2.1 s ∧ P.2.2.1 s = t) 8).map P.2.2.2.1)
noncomputable def sts (G : Int) : Nat → List Int
  | 0 => [0]
  | k + 1 => (sts G k).flatMap (fun S => (chs P x0 G (k : Int)).map (fun v => S + v * 4 ^ k))
variable {P x0}
theorem sts_m {G S : Int} : ∀ {k : Nat}, (∀ t : Int, 0 ≤ t → t < (k : Int) → dgt S t ∈ chs P x0 G t) → pack (dgt S) k ∈ sts P x0 G k
  | 0, _ => List.mem_singleton.mpr rfl
  | k + 1, h => by
    have ih := sts_m (k := k) (fun t a b => h t a (by omega))
    rw [pack_s (dgt_3 S (k : Int)).1]
    exact List.mem_flatMap.mpr ⟨_, ih, List.mem_map.mpr ⟨_, h (k : Int) (by omega) (by omega), rfl⟩⟩
theorem wkP_cnt (p : Int → Prop) : ∀ n : Nat, ((wkP p n).length : Int) = cnt p n
  | 0 => rfl
  | n + 1 => by
    have ih := wkP_cnt p n
    simp only [cnt]
    by_cases c : p (n : Int)
    · rw [wkP_t c, List.length_append, List.length_singleton, b2i_t c]; omega
    · rw [wkP_f c, b2i_f c]; omega
noncomputable def ng (P : SP) (G t : Int) : Nat := (cnt (fun s => mem G s ∧ P.2.2.1 s = t) 8).toNat
noncomputable def ngk (P : SP) (G : Int) (k : Nat) : Nat := (cnt (fun s => mem G s ∧ 0 ≤ P.2.2.1 s ∧ P.2.2.1 s < (k : Int)) 8).toNat
theorem chs_l {G t : Int} : (chs P x0 G t).length ≤ max 1 (ng P G t) := by
  unfold chs
  by_cases c : (¬ P.2.1 x0 ∧ mem G x0) ∧ P.2.2.1 x0 = t
  · rw [if_pos c, List.length_singleton]; omega
  · rw [if_neg c]
    by_cases e : wkP (fun s => mem G s ∧ P.2.1 s ∧ P.2.2.1 s = t) 8 = []
    · rw [if_pos e, List.length_singleton]; omega
    · rw [if_neg e, List.length_map]
      have h1 := wkP_cnt (fun s => mem G s ∧ P.2.1 s ∧ P.2.2.1 s = t) 8
      have h2 : cnt (fun s => mem G s ∧ P.2.1 s ∧ P.2.2.1 s = t) 8 ≤ cnt (fun s => mem G s ∧ P.2.2.1 s = t) 8 := cnt_le (fun i _ _ y => ⟨y.1, y.2.2⟩)
      unfold ng
      omega
theorem cnt_or {p q r : Int → Prop} : ∀ {n : Nat}, (∀ i : Int, 0 ≤ i → i < (n : Int) → (r i ↔ p i ∨ q i)) → (∀ i : Int, 0 ≤ i → i < (n : Int) → ¬ (p i ∧ q i)) → cnt r n = cnt p n + cnt q n
  | 0, _, _ => rfl
  | n + 1, h, h2 => by
    have ih := cnt_or (p := p) (q := q) (r := r) (n := n) (fun i a b => h i a (by omega)) (fun i a b => h2 i a (by omega))
    have hn := h (n : Int) (by omega) (by omega)
    have hd := h2 (n : Int) (by omega) (by omega)
    simp only [cnt]
    rw [ih]
    by_cases c1 : p (n : Int)
    · have c2 : ¬ q (n : Int) := fun y => hd ⟨c1, y⟩
      rw [b2i_t (hn.mpr (Or.inl c1)), b2i_t c1, b2i_f c2]; omega
    · by_cases c2 : q (n : Int)
      · rw [b2i_t (hn.mpr (Or.inr c2)), b2i_f c1, b2i_t c2]; omega
      · rw [b2i_f (fun y => (hn.mp y).elim c1 c2), b2i_f c1, b2i_f c2]; omega
theorem ngk_s {G : Int} {k : Nat} : ngk P G (k + 1) = ngk P G k + ng P G (k : Int) := by
  have h := cnt_or (p := fun s => mem G s ∧ 0 ≤ P.2.2.1 s ∧ P.2.2.1 s < (k : Int)) (q := fun s => mem G s ∧ P.2.2.1 s = (k : Int)) (r := fun s => mem G s ∧ 0 ≤ P.2.2.1 s ∧ P.2.2.1 s < ((k + 1 : Nat) : Int)) (n := 8) (fun i _ _ => ⟨fun y => by
    by_cases e : P.2.2.1 i = (k : Int)
    · exact Or.inr ⟨y.1, e⟩
    · exact Or.inl ⟨y.1, y.2.1, by have := y.2.2; omega⟩, fun y => by
    rcases y with y | y
    · exact ⟨y.1, y.2.1, by have := y.2.2; omega⟩
    · exact ⟨y.1, by have := y.2; omega, by have := y.2; omega⟩⟩) (fun i _ _ y => by have := y.1.2.2; have := y.2.2; omega)
  have b1 := cnt_b (fun s => mem G s ∧ 0 ≤ P.2.2.1 s ∧ P.2.2.1 s < (k : Int)) 8
  have b2 := cnt_b (fun s => mem G s ∧ P.2.2.1 s = (k : Int)) 8
  unfold ngk ng
  omega
theorem ngk_b {G : Int} {k : Nat} : (ngk P G k : Int) ≤ cnt (mem G) 8 ∧ ngk P G k ≤ 8 := by
  have h : cnt (fun s => mem G s ∧ 0 ≤ P.2.2.1 s ∧ P.2.2.1 s < (k : Int)) 8 ≤ cnt (mem G) 8 := cnt_le (fun i _ _ y => y.1)
  have b1 := cnt_b (fun s => mem G s ∧ 0 ≤ P.2.2.1 s ∧ P.2.2.1 s < (k : Int)) 8
  have b2 := cnt_b (mem G) 8
  unfold ngk
  omega
theorem sts_l {G : Int} : ∀ k : Nat, (sts P x0 G k).length ≤ gmx (ngk P G k)
  | 0 => by
    have h0 : ngk P G 0 = 0 := by
      have : cnt (fun s => mem G s ∧ 0 ≤ P.2.2.1 s ∧ P.2.2.1 s < ((0 : Nat) : Int)) 8 = cnt (fun _ => False) 8 := cnt_c (fun i _ _ => ⟨fun y => by have := y.2.1; have := y.2.2; omega, fun y => y.elim⟩)
      unfold ngk
      rw [this]
      simp only [cnt]
      rw [b2i_f (fun y => y)]
      rfl
    rw [h0]
    exact Nat.le_refl 1
  | k + 1 => by
    have ih := sts_l (G := G) k
    have h1 : (sts P x0 G (k + 1)).length ≤ (sts P x0 G k).length * max 1 (ng P G (k : Int)) := fm_len (fun S _ => by rw [List.length_map]; exact chs_l)
    have hb := (ngk_b (P := P) (G := G) (k := k + 1)).2
    rw [ngk_s] at hb ⊢
    exact Nat.le_trans h1 (Nat.le_trans (Nat.mul_le_mul_right _ ih) (gmx_m _ (by omega) _ (by omega) (by omega)))
end
theorem fm_sum {β : Type} {f : Nat → List β} {c : Nat → Nat} : ∀ {l : List Nat}, (∀ a, a ∈ l → (f a).length ≤ c a) → (l.flatMap f).length ≤ (l.map c).foldr (· + ·) 0
  | [], _ => by simp
  | a :: l, h => by
    have ih := fm_sum (f := f) (c := c) (l := l) (fun x hx => h x (List.mem_cons_of_mem _ hx))
    have h1 := h a List.mem_cons_self
    rw [List.flatMap_cons, List.length_append, List.map_cons, List.foldr_cons]
    omega
theorem rch_RI {P : SP} (hP : pOK P) {x0 : Int} (hx : ∀ x : Int, 0 ≤ x → x < P.1 → ¬ P.2.1 x → x = x0) : ∀ (n : Nat) (F S : Int), rch P n F S → ∀ t : Int, 0 ≤ t → t < 10 → (∃ s : Int, 0 ≤ s ∧ mem F s ∧ P.2.2.1 s = t ∧ P.2.2.2.1 s = dgt S t) ∨ ((¬ P.2.1 x0 ∧ 0 ≤ x0 ∧ x0 < P.1) ∧ P.2.2.1 x0 = t ∧ P.2.2.2.1 x0 = dgt S t) ∨ ((∀ s : Int, 0 ≤ s → mem F s → ¬ P.2.2.1 s = t) ∧ dgt S t = dgt P.2.2.2.2.2 t)
  | 0, F, S, h, t, t0, t1 => by
    obtain ⟨rfl, rfl⟩ := h
    exact Or.inr (Or.inr ⟨fun s _ m => absurd m (mem_z s), rfl⟩)
  | n + 1, F, S, h, t, t0, t1 => by
    obtain ⟨F0, S1, s, h1, h2, h3, h4, rfl⟩ := h
    have ih := rch_RI hP hx n F0 S1 h1 t t0 t1
    have hb0 := rch_b hP n F0 S1 h1
    have hs := h2.1.1
    have hb := stb_b hb0.1 (s := s) (by have := hP.1; omega)
    have hf := (hP.2.2.2 s S1 hs.1 hs.2 hb0.2.1).2.2 h2.2.2 (by rw [h3]; exact h4) t t0 t1
    rw [h3] at hf
    rcases hf with hf | ⟨x, x1, x2, x3, x4⟩
    · by_cases e : t = P.2.2.1 s
      · rw [if_pos e] at hf
        exact Or.inl ⟨s, hs.1, (hb.2 s hs.1).mpr (Or.inr rfl), e.symm, hf.symm⟩
      · rw [if_neg e] at hf
        rw [hf]
        rcases ih with ⟨u, u0, u1, u2⟩ | ih | ⟨ih, ie⟩
        · exact Or.inl ⟨u, u0, (hb.2 u u0).mpr (Or.inl u1), u2⟩
        · exact Or.inr (Or.inl ih)
        · refine Or.inr (Or.inr ⟨fun u u0 m => ?_, ie⟩)
          rcases (hb.2 u u0).mp m with m | m
          · exact ih u u0 m
          · rw [m]; exact fun y => e y.symm
    · have e := hx x x1.1 x1.2 x2
      subst e
      exact Or.inr (Or.inl ⟨⟨x2, x1⟩, x3, x4⟩)
theorem room8 {P : SP} (hP : pOK P) {x0 : Int} (h8 : 0 ≤ x0 ∧ x0 < 8) (hx : ∀ x : Int, 0 ≤ x → x < P.1 → ¬ P.2.1 x → x = x0) : ∃ U : List (Int × Int), U.length ≤ 2048 ∧ ∀ (n : Nat) (F S : Int), rch P n F S → (F, S) ∈ U := by
  refine ⟨(List.range 256).flatMap (fun G : Nat => (sts P x0 (G : Int) 10).map (fun S => (bset (fun s => P.2.1 s ∧ mem (G : Int) s) 8, S))), ?_, fun n F S h => ?_⟩
  · refine Nat.le_trans (fm_sum (c := fun G => gmx (pcb 8 G)) (fun G hG => ?_)) gmx_s
    rw [List.length_map]
    refine Nat.le_trans (sts_l 10) ?_
    have h1 := ngk_b (P := P) (G := (G : Int)) (k := 10)
    rw [cnt_pcb] at h1
    have h2 : (pcb 8 G : Int) ≤ 8 := by rw [← cnt_pcb]; exact (cnt_b _ 8).2
    exact gmx_u _ (by omega) _ (by omega) (by omega)
  · have hb := rch_b hP n F S h
    have hR := rch_RI hP hx n F S h
    have e10 : pack (dgt S) 10 = S := (pack_dgt (inS_4 hb.2.1)).symm
    by_cases w : (¬ P.2.1 x0 ∧ 0 ≤ x0 ∧ x0 < P.1) ∧ P.2.2.2.1 x0 = dgt S (P.2.2.1 x0)
    · have hs := stb_b hb.1 h8
      have hU := (hP.2.1 x0 w.1.2.1 w.1.2.2).1
      refine List.mem_flatMap.mpr ⟨(stb F x0).toNat, List.mem_range.mpr (by omega), List.mem_map.mpr ⟨S, ?_, ?_⟩⟩
      · rw [Int.toNat_of_nonneg hs.1.1, ← e10]
        have := sts_m (P := P) (x0 := x0) (G := stb F x0) (S := S) (k := 10) (fun t t0 t1 => ?_)
        · rw [e10] at this ⊢; exact this
        · unfold chs
          by_cases c : P.2.2.1 x0 = t
          · rw [if_pos ⟨⟨w.1.1, (hs.2 x0 h8.1).mpr (Or.inr rfl)⟩, c⟩, List.mem_singleton, ← c]
            exact w.2.symm
          · rw [if_neg (fun y => c y.2)]
            rcases hR t t0 t1 with ⟨u, u0, u1, u2, u3⟩ | ih | ⟨ih, ie⟩
            · have hu := hb.2.2.2 u u0 u1
              have hm : u ∈ wkP (fun s => mem (stb F x0) s ∧ P.2.1 s ∧ P.2.2.1 s = t) 8 := wkP_i (by have := hu.1; have := hP.1; omega) ⟨(hs.2 u u0).mpr (Or.inl u1), hu.2, u2⟩
              rw [if_neg (fun y => by rw [y] at hm; exact absurd hm (by simp))]
              exact List.mem_map.mpr ⟨u, hm, u3⟩
            · exact absurd ih.2.1 c
            · rw [if_pos (wkP_nil (fun i i0 _ y => ?_)), List.mem_singleton]
              · exact ie
              · rcases (hs.2 i i0).mp y.1 with m | m
                · exact ih i i0 m y.2.2
                · rw [m] at y; exact w.1.1 y.2.1
      · show (bset (fun s => P.2.1 s ∧ mem (((stb F x0).toNat : Nat) : Int) s) 8, S) = (F, S)
        rw [Int.toNat_of_nonneg hs.1.1]
        have : bset (fun s => P.2.1 s ∧ mem (stb F x0) s) 8 = F := by
          rw [set_bset (x := F) (n := 8) hb.1]
          refine bset_c (fun i i0 _ => ⟨fun y => ?_, fun y => ?_⟩)
          · have y2 := y.2
            rw [← set_bset (x := F) (n := 8) hb.1] at y2
            rcases (hs.2 i i0).mp y2 with m | m
            · exact m
            · rw [m] at y; exact absurd y.1 w.1.1
          · refine ⟨(hb.2.2.2 i i0 y).2, ?_⟩
            rw [← set_bset (x := F) (n := 8) hb.1]
            exact (hs.2 i i0).mpr (Or.inl y)
        rw [this]
    · refine List.mem_flatMap.mpr ⟨F.toNat, List.mem_range.mpr (by omega), List.mem_map.mpr ⟨S, ?_, ?_⟩⟩
      · rw [Int.toNat_of_nonneg hb.1.1]
        have := sts_m (P := P) (x0 := x0) (G := F) (S := S) (k := 10) (fun t t0 t1 => ?_)
        · rw [e10] at this; exact this
        · unfold chs
          rw [if_neg (fun y => y.1.1 (hb.2.2.2 x0 h8.1 y.1.2).2)]
          rcases hR t t0 t1 with ⟨u, u0, u1, u2, u3⟩ | ih | ⟨ih, ie⟩
          · have hu := hb.2.2.2 u u0 u1
            have hm : u ∈ wkP (fun s => mem F s ∧ P.2.1 s ∧ P.2.2.1 s = t) 8 := wkP_i (by have := hu.1; have := hP.1; omega) ⟨u1, hu.2, u2⟩
            rw [if_neg (fun y => by rw [y] at hm; exact absurd hm (by simp))]
            exact List.mem_map.mpr ⟨u, hm, u3⟩
          · exact absurd ⟨ih.1, by rw [ih.2.1]; exact ih.2.2⟩ w
          · rw [if_pos (wkP_nil (fun i i0 _ y => ih i i0 y.1 y.2.2)), List.mem_singleton]
            exact ie
      · show (bset (fun s => P.2.1 s ∧ mem ((F.toNat : Nat) : Int) s) 8, S) = (F, S)
        rw [Int.toNat_of_nonneg hb.1.1]
        have : bset (fun s => P.2.1 s ∧ mem F s) 8 = bset (mem F) 8 := bset_c (fun i i0 _ => ⟨fun y => y.2, fun y => ⟨(hb.2.2.2 i i0 y).2, y⟩⟩)
        rw [this, ← set_bset (x := F) (n := 8) hb.1]
theorem room {P : SP} (hP : pOK P) : ∃ U : List (Int × Int), U.length ≤ 2048 ∧ ∀ (n : Nat) (F S : Int), rch P n F S → (F, S) ∈ U := by
  have h18 := hP.1
  have hH : ∀ s : Int, s ∈ wkP P.2.1 P.1.toNat ↔ pHr P s := fun s => ⟨fun y => by have := wkP_m _ _ _ y; exact ⟨by omega, this.2⟩, fun y => wkP_i (by have := y.1; omega) y.2⟩
  by_cases c : (wkP P.2.1 P.1.toNat).length ≤ 6
  · exact room6 hP hH c
  · by_cases e : ∃ x : Int, (0 ≤ x ∧ x < P.1) ∧ ¬ P.2.1 x
    · obtain ⟨x0, x1, x2⟩ := e
      refine room8 hP (x0 := x0) (by omega) (fun x a b d => Classical.byContradiction (fun ne => c ?_))
      have hl := nd_len (x :: x0 :: wkP P.2.1 P.1.toNat) ((List.range 8).map (fun i : Nat => (i : Int))) (by
        refine List.nodup_cons.mpr ⟨?_, List.nodup_cons.mpr ⟨?_, wkP_nd _ _⟩⟩
        · intro y
          rcases List.mem_cons.mp y with y | y
          · exact ne y
          · exact d ((hH x).mp y).2
        · intro y
          exact x2 ((hH x0).mp y).2) (fun y hy => by
        have hy2 : 0 ≤ y ∧ y < 8 := by
          rcases List.mem_cons.mp hy with q | q
          · omega
          · rcases List.mem_cons.mp q with q | q
            · omega
            · have := ((hH y).mp q).1; omega
        exact List.mem_map.mpr ⟨y.toNat, List.mem_range.mpr (by omega), by omega⟩)
      simp only [List.length_cons, List.length_map, List.length_range] at hl
      omega
    · exact room8 hP (x0 := 0) (by omega) (fun x a b d => absurd ⟨x, ⟨a, b⟩, d⟩ e)
