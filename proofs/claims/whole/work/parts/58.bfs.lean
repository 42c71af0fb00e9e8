/-! the class looks ahead: from few firings to one more -/
section
variable {TN IN : Int → Int} {wk : Int → Int → List Int} {BR : Int → Prop}
theorem sbf1_nop {s S : Int} (h : dgt S (TN s) = IN s) : sbf TN IN wk BR 257 0 0 S [s] = S := by
  rw [sbf_same (s := s) ⟨by simp, by decide⟩ rfl h, sbf_stop (by simp)]
theorem sbf1_dg {N : Int} (h1 : ∀ s : Int, 0 ≤ s → s < N → (0 ≤ IN s ∧ IN s ≤ 3) ∧ 0 ≤ TN s) {WP : Int → Prop} (h3 : ∀ t v s : Int, 0 ≤ t → s ∈ wk t v → (0 ≤ s ∧ s < N) ∧ WP s) {s S : Int} (hs : 0 ≤ s ∧ s < N) (hne : ¬ dgt S (TN s) = IN s) (h0 : 0 ≤ sbf TN IN wk BR 257 0 0 S [s]) (t : Int) (t0 : 0 ≤ t) (t1 : t < 10) : dgt (sbf TN IN wk BR 257 0 0 S [s]) t = (if t = TN s then IN s else dgt S t) ∨ ∃ x : Int, (0 ≤ x ∧ x < N) ∧ WP x ∧ TN x = t ∧ IN x = dgt (sbf TN IN wk BR 257 0 0 S [s]) t := by
  by_cases y : BR (wth S (TN s) (IN s))
  · rw [sbf_bar (s := s) ⟨by simp, by decide⟩ rfl hne y] at h0
    exact absurd h0 (by decide)
  · have e := sbf_go (TN := TN) (IN := IN) (wk := wk) (BR := BR) (F := 256) (k := 0) (c := 0) (S := S) (s := s) (L := [s]) ⟨by simp, by decide⟩ rfl hne y
    rw [e] at h0 ⊢
    have ih := sbf_dg h1 h3 (WP := WP) (BR := BR) 256 (0 + 1) (0 + 1) (wth S (TN s) (IN s)) ([s] ++ wk (TN s) (IN s)) (fun x hx => by
      rw [List.mem_append, List.mem_singleton] at hx
      rcases hx with q | q
      · omega
      · exact (h3 _ _ x (h1 s hs.1 hs.2).2 q).1) (fun i a b => by
      rw [List.length_append, List.length_singleton] at b
      have hmem : ([s] ++ wk (TN s) (IN s)).getD i 0 ∈ wk (TN s) (IN s) := by
        rw [List.getD_eq_getElem?_getD, List.getElem?_append_right (by simpa using a), List.getElem?_eq_getElem (by simp; omega)]
        exact List.getElem_mem _
      exact (h3 _ _ _ (h1 s hs.1 hs.2).2 hmem).2)
    rcases ih with ih | ih
    · rw [ih] at h0; exact absurd h0 (by decide)
    · rcases ih t t0 t1 with q | q
      · rw [dgt_wth (h1 s hs.1 hs.2).1 t0 t1] at q
        exact Or.inl q
      · exact Or.inr q
theorem sbf_pos {N : Int} (hb : ∀ S, ¬ BR S) (h1 : ∀ s : Int, 0 ≤ s → s < N → 0 ≤ IN s ∧ IN s ≤ 3) (h3 : ∀ t v s : Int, s ∈ wk t v → 0 ≤ s ∧ s < N) : ∀ (F k : Nat) (c S : Int) (L : List Int), inS S → (∀ s : Int, s ∈ L → 0 ≤ s ∧ s < N) → inS (sbf TN IN wk BR F k c S L)
  | 0, k, c, S, L, hS, hL => hS
  | F + 1, k, c, S, L, hS, hL => by
    by_cases hk : k < L.length ∧ c < 30
    · generalize hs : L.getD k 0 = s
      have hm := hL s (by rw [← hs]; exact getD_mem hk.1)
      by_cases z : dgt S (TN s) = IN s
      · rw [sbf_same hk hs z]
        exact sbf_pos hb h1 h3 F (k + 1) c S L hS hL
      · rw [sbf_go hk hs z (hb _)]
        refine sbf_pos hb h1 h3 F (k + 1) (c + 1) _ _ (inS_wth (h1 s hm.1 hm.2)) (fun s' hs' => ?_)
        rw [List.mem_append] at hs'
        rcases hs' with q | q
        · exact hL s' q
        · exact h3 _ _ s' q
    · rw [sbf_stop hk]; exact hS
end
noncomputable def PC (h : HP) : SP := (h 6 7, fun s => h 39 s = -1, h 41, h 42, fwC h, h 1 8)
theorem pOK_C {h : HP} (hH : HOK h) (hS : SOK h) : pOK (PC h) := by
  refine ⟨hS.1, fun s a b => ⟨⟨(hS.2 s a b).1.1, by have := (hS.2 s a b).1.2; have := hH.1; show h 41 s < 10; omega⟩, (hS.2 s a b).2⟩, hH.2.2.1, fun s S a b hin => ⟨?_, fun e => sbf1_nop (TN := h 41) (IN := h 42) (wk := wkC h) (BR := fun S' => cNB h (dgt (h 1 8)) (dgt S')) e, fun ne h0 t t0 t1 => ?_⟩⟩
  · exact sbf_in (TN := h 41) (IN := h 42) (wk := wkC h) (BR := fun S' => cNB h (dgt (h 1 8)) (dgt S')) (N := h 6 7) (fun x a b => (hS.2 x a b).2) (fun t v x hx => wkC_m hS.1 t v x hx) 257 0 0 S [s] hin (fun x hx => by rw [List.mem_singleton] at hx; rw [hx]; exact ⟨a, b⟩)
  · exact sbf1_dg (TN := h 41) (IN := h 42) (wk := wkC h) (BR := fun S' => cNB h (dgt (h 1 8)) (dgt S')) (N := h 6 7) (WP := fun x => ¬ h 39 x = -1) (fun x a b => ⟨(hS.2 x a b).2, (hS.2 x a b).1.1⟩) (fun t v x ht hx => ⟨wkC_m hS.1 t v x hx, fun y => by have := (wkP_m _ _ _ hx).2.1; omega⟩) ⟨a, b⟩ ne h0 t t0 t1
def frB (h g : HP) : Prop := (∀ q, q ≠ 6 → q ≠ 43 → q ≠ 44 → q ≠ 45 → q ≠ 46 → q ≠ 47 → q ≠ 7 → g q = h q) ∧ (∀ i : Int, i ≠ 9 → g 6 i = h 6 i) ∧ ∀ i : Int, i ≠ 7 → g 7 i = h 7 i
theorem frB_r (h : HP) : frB h h := ⟨fun _ _ _ _ _ _ _ _ => rfl, fun _ _ => rfl, fun _ _ => rfl⟩
theorem frB_t {h g k : HP} (a : frB h g) (b : frB g k) : frB h k := ⟨fun q a1 a2 a3 a4 a5 a6 a7 => by rw [b.1 q a1 a2 a3 a4 a5 a6 a7]; exact a.1 q a1 a2 a3 a4 a5 a6 a7, fun i c => by rw [b.2.1 i c]; exact a.2.1 i c, fun i c => by rw [b.2.2 i c]; exact a.2.2 i c⟩
theorem PC_c {h g : HP} (f : frB h g) : PC g = PC h := by
  have e39 : g 39 = h 39 := f.1 _ (by decide) (by decide) (by decide) (by decide) (by decide) (by decide) (by decide)
  have e40 : g 40 = h 40 := f.1 _ (by decide) (by decide) (by decide) (by decide) (by decide) (by decide) (by decide)
  have e41 : g 41 = h 41 := f.1 _ (by decide) (by decide) (by decide) (by decide) (by decide) (by decide) (by decide)
  have e42 : g 42 = h 42 := f.1 _ (by decide) (by decide) (by decide) (by decide) (by decide) (by decide) (by decide)
  have e1 : g 1 = h 1 := f.1 _ (by decide) (by decide) (by decide) (by decide) (by decide) (by decide) (by decide)
  have e2 : g 2 = h 2 := f.1 _ (by decide) (by decide) (by decide) (by decide) (by decide) (by decide) (by decide)
  have e18 : g 18 = h 18 := f.1 _ (by decide) (by decide) (by decide) (by decide) (by decide) (by decide) (by decide)
  have e19 : g 19 = h 19 := f.1 _ (by decide) (by decide) (by decide) (by decide) (by decide) (by decide) (by decide)
  have e15 : g 15 = h 15 := f.1 _ (by decide) (by decide) (by decide) (by decide) (by decide) (by decide) (by decide)
  have e9 : g 9 = h 9 := f.1 _ (by decide) (by decide) (by decide) (by decide) (by decide) (by decide) (by decide)
  have e7 : g 6 7 = h 6 7 := f.2.1 7 (by decide)
  have w1 : wkC g = wkC h := by funext t v; unfold wkC; rw [e39, e40, e7]
  have w2 : cNB g = cNB h := by funext a b; unfold cNB cBar; rw [e2, e18, e19, e15, e9]
  have w3 : fwC g = fwC h := by funext s S; unfold fwC; rw [e41, e42, w1, w2, e1]
  unfold PC
  rw [e7, e39, e41, e42, w3, e1]
theorem ok_c {h g : HP} (f : frB h g) (hH : HOK h) (hF : fOK h) (hS : SOK h) : HOK g ∧ fOK g ∧ SOK g := by
  have e1 : g 1 = h 1 := f.1 _ (by decide) (by decide) (by decide) (by decide) (by decide) (by decide) (by decide)
  refine ⟨HOK_c (by rw [e1]) (by rw [e1]) (f.1 _ (by decide) (by decide) (by decide) (by decide) (by decide) (by decide) (by decide)) (f.1 _ (by decide) (by decide) (by decide) (by decide) (by decide) (by decide) (by decide)) (f.1 _ (by decide) (by decide) (by decide) (by decide) (by decide) (by decide) (by decide)) (f.1 _ (by decide) (by decide) (by decide) (by decide) (by decide) (by decide) (by decide)) (f.1 _ (by decide) (by decide) (by decide) (by decide) (by decide) (by decide) (by decide)) hH, ?_, ?_⟩
  · unfold fOK
    rw [f.1 2 (by decide) (by decide) (by decide) (by decide) (by decide) (by decide) (by decide), f.1 18 (by decide) (by decide) (by decide) (by decide) (by decide) (by decide) (by decide), f.1 19 (by decide) (by decide) (by decide) (by decide) (by decide) (by decide) (by decide)]
    exact hF
  · unfold SOK
    rw [f.2.1 7 (by decide), e1, f.1 41 (by decide) (by decide) (by decide) (by decide) (by decide) (by decide) (by decide), f.1 42 (by decide) (by decide) (by decide) (by decide) (by decide) (by decide) (by decide)]
    exact hS
noncomputable def pct (F : Int) : Int := cnt (mem F) 8
def PI (P : SP) (g : HP) : Prop := (0 ≤ g 7 7 ∧ g 7 7 ≤ 2048) ∧ (∀ i : Int, 0 ≤ i → i < g 7 7 → ∃ n, rch P n (g 44 i) (g 45 i)) ∧ (∀ i j : Int, 0 ≤ i → i < j → j < g 7 7 → ¬ (g 44 i = g 44 j ∧ g 45 i = g 45 j)) ∧ (∀ F : Int, 0 ≤ F → F < 256 → (g 47 F = -1 ∨ (0 ≤ g 47 F ∧ g 47 F < g 7 7 ∧ g 44 (g 47 F) = F)) ∧ ∀ i : Int, 0 ≤ i → i < g 7 7 → g 44 i = F → i ≤ g 47 F) ∧ (∀ i : Int, 0 ≤ i → i < g 7 7 → (g 46 i = -1 ∨ (0 ≤ g 46 i ∧ g 46 i < i ∧ g 44 (g 46 i) = g 44 i)) ∧ ∀ j : Int, 0 ≤ j → j < i → g 44 j = g 44 i → j ≤ g 46 i) ∧ ∀ i j : Int, 0 ≤ i → i ≤ j → j < g 7 7 → pct (g 44 i) ≤ pct (g 44 j)
def S_X2_reach (F S : Int) (h : HP) (K : HP → Prop) : Prop := ∃ P : SP, (pOK P ∧ PI P h ∧ (0 ≤ F ∧ F < 256) ∧ (∃ n, rch P n F S) ∧ ∀ i : Int, 0 ≤ i → i < h 7 7 → pct (h 44 i) ≤ pct F) ∧ ((∃ i : Int, 0 ≤ i ∧ i < h 7 7 ∧ h 44 i = F ∧ h 45 i = S) → K h) ∧ ∀ h' : HP, (∀ q, q ≠ 44 → q ≠ 45 → q ≠ 46 → q ≠ 47 → q ≠ 7 → h' q = h q) → (∀ i : Int, i ≠ 7 → h' 7 i = h 7 i) → h' 7 7 = h 7 7 + 1 → (∀ i : Int, i ≠ h 7 7 → h' 44 i = h 44 i ∧ h' 45 i = h 45 i) → h' 44 (h 7 7) = F → h' 45 (h 7 7) = S → PI P h' → K h'
theorem PI_add {P : SP} {h g : HP} {F S R : Int} (hR : R = h 7 7) (hI : PI P h) (hF : 0 ≤ F ∧ F < 256) (hr : ∃ n, rch P n F S) (ho : ∀ i : Int, 0 ≤ i → i < R → pct (h 44 i) ≤ pct F) (hn : ∀ i : Int, 0 ≤ i → i < R → ¬ (h 44 i = F ∧ h 45 i = S)) (hl : R < 2048)
    (g44 : g 44 = us (h 44) R F) (g45 : g 45 = us (h 45) R S) (g46 : g 46 = us (h 46) R (h 47 F)) (g47 : g 47 = us (h 47) F R) (g7 : g 7 7 = R + 1) : PI P g := by
  obtain ⟨p0, p1, p2, p3, p4, p5⟩ := hI
  rw [← hR] at p0 p1 p2 p3 p4 p5
  unfold PI
  rw [g44, g45, g46, g47, g7]
  refine ⟨by omega, fun i a b => ?_, fun i j a b c => ?_, fun F' a b => ⟨?_, fun i c d e => ?_⟩, fun i a b => ⟨?_, fun j c d e => ?_⟩, fun i j a b c => ?_⟩
  · by_cases e : i = R
    · rw [e, us_s, us_s]; exact hr
    · rw [us_n e, us_n e]; exact p1 i a (by omega)
  · rw [us_n (show i ≠ R by omega), us_n (show i ≠ R by omega)]
    by_cases e : j = R
    · rw [e, us_s, us_s]; exact hn i a (by omega)
    · rw [us_n e, us_n e]; exact p2 i j a b (by omega)
  · by_cases e : F' = F
    · rw [e, us_s, us_s]; exact Or.inr ⟨by omega, by omega, rfl⟩
    · rw [us_n e]
      rcases (p3 F' a b).1 with q | q
      · exact Or.inl q
      · exact Or.inr ⟨q.1, by omega, by rw [us_n (by omega)]; exact q.2.2⟩
  · by_cases z : F' = F
    · rw [z, us_s]; omega
    · rw [us_n z]
      by_cases y : i = R
      · rw [y, us_s] at e; exact absurd e.symm z
      · rw [us_n y] at e; exact (p3 F' a b).2 i c (by omega) e
  · by_cases e : i = R
    · rw [e, us_s, us_s]
      rcases (p3 F hF.1 hF.2).1 with q | q
      · exact Or.inl q
      · exact Or.inr ⟨q.1, q.2.1, by rw [us_n (by omega)]; exact q.2.2⟩
    · rw [us_n e, us_n e]
      rcases (p4 i a (by omega)).1 with q | q
      · exact Or.inl q
      · exact Or.inr ⟨q.1, q.2.1, by rw [us_n (by omega)]; exact q.2.2⟩
  · rw [us_n (show j ≠ R by omega)] at e
    by_cases y : i = R
    · rw [y, us_s] at e ⊢; exact (p3 F hF.1 hF.2).2 j c (by omega) e
    · rw [us_n y] at e ⊢; exact (p4 i a (by omega)).2 j c d e
  · by_cases y : j = R
    · rw [y, us_s]
      by_cases z : i = R
      · rw [z, us_s]; omega
      · rw [us_n z]; exact ho i a (by omega)
    · rw [us_n y, us_n (show i ≠ R by omega)]; exact p5 i j a b (by omega)
theorem PI_room {P : SP} (hP : pOK P) {h : HP} {F S : Int} (hI : PI P h) (hr : ∃ n, rch P n F S) (hn : ∀ i : Int, 0 ≤ i → i < h 7 7 → ¬ (h 44 i = F ∧ h 45 i = S)) : h 7 7 < 2048 := by
  obtain ⟨U, hU, hm⟩ := room hP
  have hl := nd_len ((F, S) :: (List.range (h 7 7).toNat).map (fun i : Nat => (h 44 (i : Int), h 45 (i : Int)))) U (by
    refine List.nodup_cons.mpr ⟨?_, ?_⟩
    · intro y
      obtain ⟨i, h1, h2⟩ := List.mem_map.mp y
      have h1 := List.mem_range.mp h1
      exact hn (i : Int) (by omega) (by omega) ⟨congrArg Prod.fst h2, congrArg Prod.snd h2⟩
    · show List.Pairwise _ _
      rw [List.pairwise_map]
      refine List.Pairwise.imp_of_mem (R := fun a b => a < b) ?_ List.pairwise_lt_range
      intro a b ha hb hab y
      have hb := List.mem_range.mp hb
      exact hI.2.2.1 (a : Int) (b : Int) (by omega) (by omega) (by omega) ⟨congrArg Prod.fst y, congrArg Prod.snd y⟩) (fun x hx => by
    rcases List.mem_cons.mp hx with e | e
    · obtain ⟨n, hn⟩ := hr
      rw [e]; exact hm n F S hn
    · obtain ⟨i, h1, h2⟩ := List.mem_map.mp e
      have h1 := List.mem_range.mp h1
      obtain ⟨n, hn⟩ := hI.2.1 (i : Int) (by omega) (by omega)
      rw [← h2]; exact hm n _ _ hn)
  rw [List.length_cons, List.length_map, List.length_range] at hl
  omega
set_option maxRecDepth 100000 in
set_option maxHeartbeats 4000000 in
theorem v_X2_reach (w : WD) (F : Int) (S : Int) (h : HP) (K : HP → Prop) 
    (I1 : Nat → Int → Int → HP → Prop)
    (H : (((0 : Int) ≤ F ∧ (F : Int) < 256) ∧ (∃ m : Nat, I1 m (h 47 F) 0 h)))
    (H1 : ∀ (n1 : Nat) (x3 : Int) (x4 : Int) (g1 : HP), I1 n1 x3 x4 g1 → ((((2048 ≤ x4 → True) ∧ (¬ 2048 ≤ x4 → ((x3 = (-1) → True) ∧ (¬ x3 = (-1) → ((0 ≤ x3 ∧ x3 < 2048) ∧ True)))))) ∧ ((((2048 ≤ x4) ∨ ((x3 = (-1)) ∨ ((g1 45 x3) = S))) → ((((x3 = (-1)) ∧ ((g1 7 7) < 2048)) → ((0 ≤ (g1 7 7) ∧ (g1 7 7) < 2048) ∧ ((0 ≤ (g1 7 7) ∧ (g1 7 7) < 2048) ∧ (((0 : Int) ≤ F ∧ (F : Int) < 256) ∧ ((0 ≤ (g1 7 7) ∧ (g1 7 7) < 2048) ∧ (((0 : Int) ≤ F ∧ (F : Int) < 256) ∧ ((iR ((g1 7 7) + 1)) ∧ K (sth (sth (sth (sth (sth g1 44 (g1 7 7) F) 45 (g1 7 7) S) 46 (g1 7 7) (g1 47 F)) 47 F (g1 7 7)) 7 7 ((g1 7 7) + 1))))))))) ∧ (¬ ((x3 = (-1)) ∧ ((g1 7 7) < 2048)) → K g1))) ∧ (¬ ((2048 ≤ x4) ∨ ((x3 = (-1)) ∨ ((g1 45 x3) = S))) → ((0 ≤ x3 ∧ x3 < 2048) ∧ ((iR (x4 + 1)) ∧ (∃ m : Nat, m < n1 ∧ I1 m (g1 46 x3) (x4 + 1) g1))))))) :
    Ev w Y_X2_reach 0 [some (vR 7), some (vI F), some (vI S), none, none] [] h (rV K) := by
  have L1 : ∀ (n1 : Nat) (x3 : Int) (x4 : Int) (g1 : HP), I1 n1 x3 x4 g1 → Ev w Y_X2_reach 10 [some (vR 7), some (vI F), some (vI S), some (vI x3), some (vI x4)] [] g1 (rV K) := by
    intro n1
    induction n1 using Nat.strongRecOn with
    | ind n1 ih1 =>
      intro x3 x4 g1 H
      have H := H1 n1 x3 x4 g1 H
      refine e_iload (pc := 10) dX2_reach_10 rfl ?_
      refine e_sipush (pc := 12) dX2_reach_12 ⟨by decide, by decide⟩ (by decide) ?_
      have Ho := H.1
      have H := H.2
      have J1 : ((2048 ≤ x4) ∨ ((x3 = (-1)) ∨ ((g1 45 x3) = S))) → Ev w Y_X2_reach 46 [some (vR 7), some (vI F), some (vI S), some (vI x3), some (vI x4)] [] g1 (rV K) := by
        intro hp
        have H := H.1 hp
        refine e_iload_n (pc := 46) dX2_reach_46 rfl rfl ?_
        refine e_iconst (pc := 47) dX2_reach_47 ⟨by decide, by decide⟩ ?_
        have J1 : ((x3 = (-1)) ∧ ((g1 7 7) < 2048)) → Ev w Y_X2_reach 62 [some (vR 7), some (vI F), some (vI S), some (vI x3), some (vI x4)] [] g1 (rV K) := by
          intro hp
          have H := H.1 hp
          refine e_aload_n (pc := 62) dX2_reach_62 rfl rfl ?_
          refine e_getR (q := 7) (ci := 2) (k := 3) (y := 44) (C := RX2) (T := TX2) (N := 8) (pc := 63) dX2_reach_63 rfl rfl ev_in2 rfl ul_2_43 ⟨rfl, rfl⟩ rfl ?_
          refine e_aload_n (pc := 66) dX2_reach_66 rfl rfl ?_
          refine e_getI (q := 7) (ci := 2) (k := 7) (kz := 7) (C := RX2) (T := TX2) (N := 8) (x := (g1 7 7)) (pc := 67) dX2_reach_67 rfl rfl rfl ev_in2 rfl ul_2_47 ⟨rfl, by decide⟩ rfl ?_
          refine e_iload_n (pc := 70) dX2_reach_70 rfl rfl ?_
          refine e_iast (q := 44) (pc := 71) dX2_reach_71 rfl H.1 ?_
          have H := H.2
          refine e_aload_n (pc := 72) dX2_reach_72 rfl rfl ?_
          refine e_getR (q := 7) (ci := 2) (k := 4) (y := 45) (C := RX2) (T := TX2) (N := 8) (pc := 73) dX2_reach_73 rfl rfl ev_in2 rfl ul_2_44 ⟨rfl, rfl⟩ rfl ?_
          refine e_aload_n (pc := 76) dX2_reach_76 rfl rfl ?_
          refine e_getI (q := 7) (ci := 2) (k := 7) (kz := 7) (C := RX2) (T := TX2) (N := 8) (x := (g1 7 7)) (pc := 77) dX2_reach_77 rfl rfl rfl ev_in2 rfl ul_2_47 ⟨rfl, by decide⟩ rfl ?_
          refine e_iload_n (pc := 80) dX2_reach_80 rfl rfl ?_
          refine e_iast (q := 45) (pc := 81) dX2_reach_81 rfl H.1 ?_
          have H := H.2
          refine e_aload_n (pc := 82) dX2_reach_82 rfl rfl ?_
          refine e_getR (q := 7) (ci := 2) (k := 5) (y := 46) (C := RX2) (T := TX2) (N := 8) (pc := 83) dX2_reach_83 rfl rfl ev_in2 rfl ul_2_45 ⟨rfl, rfl⟩ rfl ?_
          refine e_aload_n (pc := 86) dX2_reach_86 rfl rfl ?_
          refine e_getI (q := 7) (ci := 2) (k := 7) (kz := 7) (C := RX2) (T := TX2) (N := 8) (x := (g1 7 7)) (pc := 87) dX2_reach_87 rfl rfl rfl ev_in2 rfl ul_2_47 ⟨rfl, by decide⟩ rfl ?_
          refine e_aload_n (pc := 90) dX2_reach_90 rfl rfl ?_
          refine e_getR (q := 7) (ci := 2) (k := 6) (y := 47) (C := RX2) (T := TX2) (N := 8) (pc := 91) dX2_reach_91 rfl rfl ev_in2 rfl ul_2_46 ⟨rfl, rfl⟩ rfl ?_
          refine e_iload_n (pc := 94) dX2_reach_94 rfl rfl ?_
          refine e_iald (q := 47) (x := (g1 47 F)) (pc := 95) dX2_reach_95 rfl H.1 rfl ?_
          have H := H.2
          refine e_iast (q := 46) (pc := 96) dX2_reach_96 rfl H.1 ?_
          have H := H.2
          refine e_aload_n (pc := 97) dX2_reach_97 rfl rfl ?_
          refine e_getR (q := 7) (ci := 2) (k := 6) (y := 47) (C := RX2) (T := TX2) (N := 8) (pc := 98) dX2_reach_98 rfl rfl ev_in2 rfl ul_2_46 ⟨rfl, rfl⟩ rfl ?_
          refine e_iload_n (pc := 101) dX2_reach_101 rfl rfl ?_
          refine e_aload_n (pc := 102) dX2_reach_102 rfl rfl ?_
          refine e_getI (q := 7) (ci := 2) (k := 7) (kz := 7) (C := RX2) (T := TX2) (N := 8) (x := (g1 7 7)) (pc := 103) dX2_reach_103 rfl rfl rfl ev_in2 rfl ul_2_47 ⟨rfl, by decide⟩ rfl ?_
          refine e_iast (q := 47) (pc := 106) dX2_reach_106 rfl H.1 ?_
          have H := H.2
          refine e_aload_n (pc := 107) dX2_reach_107 rfl rfl ?_
          refine e_dup (pc := 108) dX2_reach_108 rfl ?_
          refine e_getI (q := 7) (ci := 2) (k := 7) (kz := 7) (C := RX2) (T := TX2) (N := 8) (x := (g1 7 7)) (pc := 109) dX2_reach_109 rfl rfl rfl ev_in2 rfl ul_2_47 ⟨rfl, by decide⟩ rfl ?_
          refine e_iconst (pc := 112) dX2_reach_112 ⟨by decide, by decide⟩ ?_
          refine e_iadd (pc := 113) dX2_reach_113 H.1 ?_
          have H := H.2
          refine e_put (q := 7) (ci := 2) (k := 7) (kz := 7) (C := RX2) (T := TX2) (N := 8) (ty := .int) (pc := 114) dX2_reach_114 rfl rfl rfl ev_in2 tyX2 tyX2_ok nmX2 rfl ul_2_47 ⟨rfl, by decide⟩ rfl (tyX2_ok 7 (by decide)) (Or.inl rfl) ?_
          exact e_ret (pc := 117) (v := none) dX2_reach_117 rfl trivial ⟨rfl, H⟩
        have J2 : ¬ ((x3 = (-1)) ∧ ((g1 7 7) < 2048)) → Ev w Y_X2_reach 61 [some (vR 7), some (vI F), some (vI S), some (vI x3), some (vI x4)] [] g1 (rV K) := by
          intro hp
          have H := H.2 hp
          exact e_ret (pc := 61) (v := none) dX2_reach_61 rfl trivial ⟨rfl, H⟩
        refine e_icmp_ne (pc := 48) (tgt := 61) dX2_reach_48 (by decide) (fun c1 => ?_) (fun c1 => ?_)
        · exact J2 (fun z => c1 z.1)
        · refine e_aload_n (pc := 51) dX2_reach_51 rfl rfl ?_
          refine e_getI (q := 7) (ci := 2) (k := 7) (kz := 7) (C := RX2) (T := TX2) (N := 8) (x := (g1 7 7)) (pc := 52) dX2_reach_52 rfl rfl rfl ev_in2 rfl ul_2_47 ⟨rfl, by decide⟩ rfl ?_
          refine e_sipush (pc := 55) dX2_reach_55 ⟨by decide, by decide⟩ (by decide) ?_
          refine e_icmp_lt (pc := 58) (tgt := 62) dX2_reach_58 (by decide) (fun c2 => ?_) (fun c2 => ?_)
          · exact J1 ⟨c1, c2⟩
          · exact J2 (fun z => c2 z.2)
      have J2 : ¬ ((2048 ≤ x4) ∨ ((x3 = (-1)) ∨ ((g1 45 x3) = S))) → Ev w Y_X2_reach 33 [some (vR 7), some (vI F), some (vI S), some (vI x3), some (vI x4)] [] g1 (rV K) := by
        intro hp
        have H := H.2 hp
        refine e_aload_n (pc := 33) dX2_reach_33 rfl rfl ?_
        refine e_getR (q := 7) (ci := 2) (k := 5) (y := 46) (C := RX2) (T := TX2) (N := 8) (pc := 34) dX2_reach_34 rfl rfl ev_in2 rfl ul_2_45 ⟨rfl, rfl⟩ rfl ?_
        refine e_iload_n (pc := 37) dX2_reach_37 rfl rfl ?_
        refine e_iald (q := 46) (x := (g1 46 x3)) (pc := 38) dX2_reach_38 rfl H.1 rfl ?_
        have H := H.2
        refine e_istore_n (lv' := [some (vR 7), some (vI F), some (vI S), some (vI (g1 46 x3)), some (vI x4)]) (pc := 39) dX2_reach_39 rfl rfl rfl ?_
        refine e_iinc (lv' := [some (vR 7), some (vI F), some (vI S), some (vI (g1 46 x3)), some (vI (x4 + 1))]) (pc := 40) dX2_reach_40 rfl H.1 rfl rfl ?_
        have H := H.2
        refine e_goto (pc := 43) (tgt := 10) dX2_reach_43 (by decide) ?_
        obtain ⟨m, hm, H⟩ := H
        exact ih1 m hm _ _ _ H
      refine e_icmp_ge (pc := 15) (tgt := 46) dX2_reach_15 (by decide) (fun c3 => ?_) (fun c3 => ?_)
      · have Ho := Ho.1 c3
        exact J1 (Or.inl c3)
      · have Ho := Ho.2 c3
        refine e_iload_n (pc := 18) dX2_reach_18 rfl rfl ?_
        refine e_iconst (pc := 19) dX2_reach_19 ⟨by decide, by decide⟩ ?_
        refine e_icmp_eq (pc := 20) (tgt := 46) dX2_reach_20 (by decide) (fun c4 => ?_) (fun c4 => ?_)
        · have Ho := Ho.1 c4
          exact J1 (Or.inr (Or.inl c4))
        · have Ho := Ho.2 c4
          refine e_aload_n (pc := 23) dX2_reach_23 rfl rfl ?_
          refine e_getR (q := 7) (ci := 2) (k := 4) (y := 45) (C := RX2) (T := TX2) (N := 8) (pc := 24) dX2_reach_24 rfl rfl ev_in2 rfl ul_2_44 ⟨rfl, rfl⟩ rfl ?_
          refine e_iload_n (pc := 27) dX2_reach_27 rfl rfl ?_
          refine e_iald (q := 45) (x := (g1 45 x3)) (pc := 28) dX2_reach_28 rfl Ho.1 rfl ?_
          have Ho := Ho.2
          refine e_iload_n (pc := 29) dX2_reach_29 rfl rfl ?_
          refine e_icmp_eq (pc := 30) (tgt := 46) dX2_reach_30 (by decide) (fun c5 => ?_) (fun c5 => ?_)
          · exact J1 (Or.inr (Or.inr c5))
          · exact J2 (fun z => z.elim c3 (fun z => z.elim c4 c5))
  refine e_aload_n (pc := 0) dX2_reach_0 rfl rfl ?_
  refine e_getR (q := 7) (ci := 2) (k := 6) (y := 47) (C := RX2) (T := TX2) (N := 8) (pc := 1) dX2_reach_1 rfl rfl ev_in2 rfl ul_2_46 ⟨rfl, rfl⟩ rfl ?_
  refine e_iload_n (pc := 4) dX2_reach_4 rfl rfl ?_
  refine e_iald (q := 47) (x := (h 47 F)) (pc := 5) dX2_reach_5 rfl H.1 rfl ?_
  have H := H.2
  refine e_istore_n (lv' := [some (vR 7), some (vI F), some (vI S), some (vI (h 47 F)), none]) (pc := 6) dX2_reach_6 rfl rfl rfl ?_
  refine e_iconst (pc := 7) dX2_reach_7 ⟨by decide, by decide⟩ ?_
  refine e_istore (lv' := [some (vR 7), some (vI F), some (vI S), some (vI (h 47 F)), some (vI 0)]) (pc := 8) dX2_reach_8 rfl rfl ?_
  obtain ⟨m, H⟩ := H
  exact L1 m _ _ _ H
set_option maxRecDepth 100000 in
set_option maxHeartbeats 4000000 in
theorem c_X2_reach (w : WD) (F : Int) (S : Int) (h : HP) (K : HP → Prop)  (H : S_X2_reach F S h K) : Ev w Y_X2_reach 0 [some (vR 7), some (vI F), some (vI S), none, none] [] h (rV K) := by
  obtain ⟨P, ⟨hP, hI, hF, hr, ho⟩, HA, HB⟩ := H
  have p0 := hI.1
  have p3 := hI.2.2.2.1 F hF.1 hF.2
  have p4 := hI.2.2.2.2.1
  refine v_X2_reach w F S h K (fun n x3 x4 g => g = h ∧ n = (x3 + 1).toNat ∧ 0 ≤ x4 ∧ x4 + x3 < h 7 7 ∧ (x3 = -1 ∨ (0 ≤ x3 ∧ x3 < h 7 7 ∧ h 44 x3 = F)) ∧ ∀ i : Int, 0 ≤ i → i < h 7 7 → h 44 i = F → x3 < i → ¬ h 45 i = S) ⟨hF, (h 47 F + 1).toNat, rfl, rfl, by omega, ?_, p3.1, fun i a b c d => ?_⟩ ?_
  · rcases p3.1 with q | q <;> omega
  · have := p3.2 i a b c; omega
  · rintro n x3 x4 g ⟨rfl, rfl, h4, h34, hx, hno⟩
    refine ⟨⟨fun _ => trivial, fun _ => ⟨fun _ => trivial, fun c => ⟨by rcases hx with q | q <;> omega, trivial⟩⟩⟩, fun z => ⟨fun y => ?_, fun y => ?_⟩, fun z => ?_⟩
    · have hn : ∀ i : Int, 0 ≤ i → i < g 7 7 → ¬ (g 44 i = F ∧ g 45 i = S) := fun i a b c => hno i a b c.1 (by omega) c.2
      have e44 : sth (sth (sth (sth (sth g 44 (g 7 7) F) 45 (g 7 7) S) 46 (g 7 7) (g 47 F)) 47 F (g 7 7)) 7 7 (g 7 7 + 1) 44 = us (g 44) (g 7 7) F := by rw [sth_ne (by decide), sth_ne (by decide), sth_ne (by decide), sth_ne (by decide), sth_eq]
      have e45 : sth (sth (sth (sth (sth g 44 (g 7 7) F) 45 (g 7 7) S) 46 (g 7 7) (g 47 F)) 47 F (g 7 7)) 7 7 (g 7 7 + 1) 45 = us (g 45) (g 7 7) S := by rw [sth_ne (by decide), sth_ne (by decide), sth_ne (by decide), sth_eq, sth_ne (by decide)]
      have e46 : sth (sth (sth (sth (sth g 44 (g 7 7) F) 45 (g 7 7) S) 46 (g 7 7) (g 47 F)) 47 F (g 7 7)) 7 7 (g 7 7 + 1) 46 = us (g 46) (g 7 7) (g 47 F) := by rw [sth_ne (by decide), sth_ne (by decide), sth_eq, sth_ne (by decide), sth_ne (by decide)]
      have e47 : sth (sth (sth (sth (sth g 44 (g 7 7) F) 45 (g 7 7) S) 46 (g 7 7) (g 47 F)) 47 F (g 7 7)) 7 7 (g 7 7 + 1) 47 = us (g 47) F (g 7 7) := by rw [sth_ne (by decide), sth_eq, sth_ne (by decide), sth_ne (by decide), sth_ne (by decide)]
      have e7 : sth (sth (sth (sth (sth g 44 (g 7 7) F) 45 (g 7 7) S) 46 (g 7 7) (g 47 F)) 47 F (g 7 7)) 7 7 (g 7 7 + 1) 7 = us (g 7) 7 (g 7 7 + 1) := by rw [sth_eq, sth_ne (by decide), sth_ne (by decide), sth_ne (by decide), sth_ne (by decide)]
      refine ⟨by omega, by omega, hF, by omega, hF, ⟨by omega, by omega⟩, HB _ (fun q a1 a2 a3 a4 a5 => by rw [sth_ne a5, sth_ne a4, sth_ne a3, sth_ne a2, sth_ne a1]) (fun i a => by rw [e7, us_n a]) (by rw [e7, us_s]) (fun i a => by rw [e44, e45, us_n a, us_n a]; exact ⟨rfl, rfl⟩) (by rw [e44, us_s]) (by rw [e45, us_s]) (PI_add rfl hI hF hr ho hn y.2 e44 e45 e46 e47 (by rw [e7, us_s]))⟩
    · by_cases c : x3 = -1
      · exfalso
        have hn : ∀ i : Int, 0 ≤ i → i < g 7 7 → ¬ (g 44 i = F ∧ g 45 i = S) := fun i a b d => hno i a b d.1 (by omega) d.2
        exact y ⟨c, PI_room hP hI hr hn⟩
      · have hx := hx.resolve_left c
        refine HA ⟨x3, hx.1, hx.2.1, hx.2.2, ?_⟩
        rcases z with z | z | z
        · omega
        · exact absurd z c
        · exact z
    · have c1 : ¬ x3 = -1 := fun q => z (Or.inr (Or.inl q))
      have c2 : ¬ g 45 x3 = S := fun q => z (Or.inr (Or.inr q))
      have hx := hx.resolve_left c1
      have q4 := p4 x3 hx.1 hx.2.1
      refine ⟨by omega, ⟨by omega, by omega⟩, (g 46 x3 + 1).toNat, ?_, rfl, rfl, by omega, ?_, ?_, fun i a b c d => ?_⟩
      · rcases q4.1 with q | q <;> omega
      · rcases q4.1 with q | q <;> omega
      · rcases q4.1 with q | q
        · exact Or.inl q
        · exact Or.inr ⟨q.1, by omega, by rw [q.2.2]; exact hx.2.2⟩
      · by_cases e : i = x3
        · rw [e]; exact c2
        · by_cases y : x3 < i
          · exact hno i a b c y
          · have := q4.2 i a (by omega) (by rw [c]; exact hx.2.2.symm)
            omega
def cloP (P : SP) (g : HP) (i s : Int) : Prop := ∀ x : Int, elg P (g 44 i) (g 45 i) x → x < s → 0 ≤ P.2.2.2.2.1 x (g 45 i) ∧ ∃ j : Int, 0 ≤ j ∧ j < g 7 7 ∧ g 44 j = stb (g 44 i) x ∧ g 45 j = P.2.2.2.2.1 x (g 45 i)
def preP (h g : HP) : Prop := h 7 7 ≤ g 7 7 ∧ ∀ i : Int, 0 ≤ i → i < h 7 7 → g 44 i = h 44 i ∧ g 45 i = h 45 i
theorem clo_p {P : SP} {h g : HP} {i s : Int} (hp : preP h g) (hi : 0 ≤ i ∧ i < h 7 7) (hc : cloP P h i s) : cloP P g i s := by
  have e := hp.2 i hi.1 hi.2
  unfold cloP
  rw [e.1, e.2]
  intro x h1 h2
  obtain ⟨a, j, b, c, d1, d2⟩ := hc x h1 h2
  have ej := hp.2 j b c
  exact ⟨a, j, b, by have := hp.1; omega, by rw [ej.1]; exact d1, by rw [ej.2]; exact d2⟩
def S_X2_comesToBarredFrom (p b : Int) (h : HP) (K : Int → HP → Prop) : Prop := (HOK h ∧ fOK h ∧ SOK h ∧ b = bset (fun k => k < h 2 6 ∧ cBar h k (dgt (h 1 8))) 40 ∧ PI (PC h) h ∧ (0 ≤ p ∧ p < h 7 7) ∧ ∀ i : Int, 0 ≤ i → i < h 7 7 → pct (h 44 i) ≤ pct (h 44 p) + 1) ∧ (∀ h' : HP, frB h h' → PI (PC h) h' → preP h h' → (∀ i : Int, 0 ≤ i → i < h' 7 7 → pct (h' 44 i) ≤ pct (h' 44 p) + 1) → cloP (PC h) h' p (h 6 7) → K 0 h') ∧ ∀ h' : HP, frB h h' → preP h h' → PI (PC h) h' → (∃ x : Int, elg (PC h) (h 44 p) (h 45 p) x ∧ (PC h).2.2.2.2.1 x (h 45 p) < 0) → K 1 h'
theorem pct_stb {P : SP} (hP : pOK P) {F S s : Int} {n : Nat} (hr : rch P n F S) (he : elg P F S s) : pct (stb F s) = pct F + 1 := by
  have hb := rch_b hP n F S hr
  have hs := stb_b hb.1 (s := s) (by have := hP.1; have := he.1.1; omega)
  unfold pct
  rw [cnt_add (p := mem F) (s := s) (fun i i0 _ => hs.2 i i0) he.2.1 he.1.1.1, b2i_t (by have := hP.1; have := he.1.1; omega)]
set_option maxRecDepth 100000 in
set_option maxHeartbeats 4000000 in
theorem v_X2_comesToBarredFrom (w : WD) (p : Int) (b : Int) (h : HP) (K : Int → HP → Prop) 
    (I1 : Nat → Int → HP → Prop)
    (H : (∃ m : Nat, I1 m 0 h))
    (H1 : ∀ (n1 : Nat) (x4 : Int) (g1 : HP), I1 n1 x4 g1 → (((g1 6 7) ≤ x4 → K 0 g1) ∧ (¬ (g1 6 7) ≤ x4 → ((0 ≤ p ∧ p < 2048) ∧ (((0 ≤ x4 ∧ x4 < 8) ∧ inS (g1 45 p) ∧ 0 ≤ g1 41 x4 ∧ g1 41 x4 < 10) ∧ ((¬ (g1 39 x4 = -1 ∧ ¬ dgt (g1 45 p) (g1 41 x4) = g1 42 x4) → ((iR (x4 + 1)) ∧ (∃ m : Nat, m < n1 ∧ I1 m (x4 + 1) g1))) ∧ ((g1 39 x4 = -1 ∧ ¬ dgt (g1 45 p) (g1 41 x4) = g1 42 x4) → ((0 ≤ p ∧ p < 2048) ∧ ((inB (g1 44 p) x4) ∧ ((¬ (mem (g1 44 p) x4) → ((0 ≤ p ∧ p < 2048) ∧ (S_X6_statesByFiring x4 (g1 45 p) b g1 (fun r21 h21 => ((0 ≤ r21 → ((0 ≤ p ∧ p < 2048) ∧ (S_X2_reach (ior (h21 44 p) (ishl 1 x4)) r21 h21 (fun h22 => ((iR (x4 + 1)) ∧ (∃ m : Nat, m < n1 ∧ I1 m (x4 + 1) h22)))))) ∧ (¬ 0 ≤ r21 → K 1 h21)))))) ∧ ((mem (g1 44 p) x4) → ((iR (x4 + 1)) ∧ (∃ m : Nat, m < n1 ∧ I1 m (x4 + 1) g1))))))))))))) :
    Ev w Y_X2_comesToBarredFrom 0 [some (vR 7), some (vI p), some (vL b), none, none, none] [] h (rI K) := by
  have L1 : ∀ (n1 : Nat) (x4 : Int) (g1 : HP), I1 n1 x4 g1 → Ev w Y_X2_comesToBarredFrom 3 [some (vR 7), some (vI p), some (vL b), none, some (vI x4), none] [] g1 (rI K) := by
    intro n1
    induction n1 using Nat.strongRecOn with
    | ind n1 ih1 =>
      intro x4 g1 H
      have H := H1 n1 x4 g1 H
      refine e_iload (pc := 3) dX2_comesToBarredFrom_3 rfl ?_
      refine e_aload_n (pc := 5) dX2_comesToBarredFrom_5 rfl rfl ?_
      refine e_getR (q := 7) (ci := 2) (k := 2) (y := 6) (C := RX2) (T := TX2) (N := 8) (pc := 6) dX2_comesToBarredFrom_6 rfl rfl ev_in2 rfl ul_2_42 ⟨rfl, rfl⟩ rfl ?_
      refine e_getI (q := 6) (ci := 6) (k := 7) (kz := 7) (C := RX6) (T := TX6) (N := 10) (x := (g1 6 7)) (pc := 9) dX2_comesToBarredFrom_9 rfl rfl rfl ev_in6 rfl ul_2_8 ⟨rfl, by decide⟩ rfl ?_
      refine e_icmp_ge (pc := 12) (tgt := 98) dX2_comesToBarredFrom_12 (by decide) (fun c1 => ?_) (fun c1 => ?_)
      · have H := H.1 c1
        refine e_iconst (pc := 98) dX2_comesToBarredFrom_98 ⟨by decide, by decide⟩ ?_
        exact e_ret (pc := 99) (v := some (vI 0)) dX2_comesToBarredFrom_99 rfl (Or.inl rfl) ⟨_, rfl, H⟩
      · have H := H.2 c1
        refine e_aload_n (pc := 15) dX2_comesToBarredFrom_15 rfl rfl ?_
        refine e_getR (q := 7) (ci := 2) (k := 2) (y := 6) (C := RX2) (T := TX2) (N := 8) (pc := 16) dX2_comesToBarredFrom_16 rfl rfl ev_in2 rfl ul_2_42 ⟨rfl, rfl⟩ rfl ?_
        refine e_iload (pc := 19) dX2_comesToBarredFrom_19 rfl ?_
        refine e_aload_n (pc := 21) dX2_comesToBarredFrom_21 rfl rfl ?_
        refine e_getR (q := 7) (ci := 2) (k := 4) (y := 45) (C := RX2) (T := TX2) (N := 8) (pc := 22) dX2_comesToBarredFrom_22 rfl rfl ev_in2 rfl ul_2_44 ⟨rfl, rfl⟩ rfl ?_
        refine e_iload_n (pc := 25) dX2_comesToBarredFrom_25 rfl rfl ?_
        refine e_iald (q := 45) (x := (g1 45 p)) (pc := 26) dX2_comesToBarredFrom_26 rfl H.1 rfl ?_
        have H := H.2
        refine e_invV (pc := 27) (Y' := Y_X6_firesByHour) (as := [vI x4, vI (g1 45 p)]) (st := []) (lv0 := [some (vR 6), some (vI x4), some (vI (g1 45 p))]) (q := 6) (ci := 6) (T := TX6) (N := 10) dX2_comesToBarredFrom_27 m_X6_firesByHour ul_4_114 ⟨ul_4_115, ul_4_116⟩ ⟨rfl, rfl⟩ rfl rfl rfl rfl rfl rfl rfl (c_X6_firesByHour w x4 (g1 45 p) g1 H.1) ?_
        rintro _ hz ⟨_, rfl, rfl, hh⟩
        rw [hh]
        show Ev w Y_X2_comesToBarredFrom 30 [some (vR 7), some (vI p), some (vL b), none, some (vI x4), none] [vI (b2i (g1 39 x4 = -1 ∧ ¬ dgt (g1 45 p) (g1 41 x4) = g1 42 x4))] g1 (rI K)
        have H := H.2
        refine e_ifb_eq (pc := 30) (tgt := 92) dX2_comesToBarredFrom_30 (by decide) (fun c2 => ?_) (fun c2 => ?_)
        · have H := H.1 c2
          refine e_iinc (lv' := [some (vR 7), some (vI p), some (vL b), none, some (vI (x4 + 1)), none]) (pc := 92) dX2_comesToBarredFrom_92 rfl H.1 rfl rfl ?_
          have H := H.2
          refine e_goto (pc := 95) (tgt := 3) dX2_comesToBarredFrom_95 (by decide) ?_
          obtain ⟨m, hm, H⟩ := H
          exact ih1 m hm _ _ H
        · have H := H.2 c2
          refine e_aload_n (pc := 33) dX2_comesToBarredFrom_33 rfl rfl ?_
          refine e_getR (q := 7) (ci := 2) (k := 3) (y := 44) (C := RX2) (T := TX2) (N := 8) (pc := 34) dX2_comesToBarredFrom_34 rfl rfl ev_in2 rfl ul_2_43 ⟨rfl, rfl⟩ rfl ?_
          refine e_iload_n (pc := 37) dX2_comesToBarredFrom_37 rfl rfl ?_
          refine e_iald (q := 44) (x := (g1 44 p)) (pc := 38) dX2_comesToBarredFrom_38 rfl H.1 rfl ?_
          have H := H.2
          refine e_iload (pc := 39) dX2_comesToBarredFrom_39 rfl ?_
          refine e_invSN (pc := 41) (Y' := Y_X8_isIn) (as := [vI (g1 44 p), vI x4]) (st := []) (lv0 := [some (vI (g1 44 p)), some (vI x4)]) dX2_comesToBarredFrom_41 m_X8_isIn nl_12 ul_3_102 ⟨rfl, rfl⟩ rfl rfl rfl rfl rfl (c_X8_isIn w (g1 44 p) x4 g1 H.1) ?_
          rintro _ hz ⟨_, rfl, rfl, hh⟩
          rw [hh]
          show Ev w Y_X2_comesToBarredFrom 44 [some (vR 7), some (vI p), some (vL b), none, some (vI x4), none] [vI (b2i (mem (g1 44 p) x4))] g1 (rI K)
          have H := H.2
          refine e_ifb_eq (pc := 44) (tgt := 50) dX2_comesToBarredFrom_44 (by decide) (fun c3 => ?_) (fun c3 => ?_)
          · have H := H.1 c3
            refine e_aload_n (pc := 50) dX2_comesToBarredFrom_50 rfl rfl ?_
            refine e_getR (q := 7) (ci := 2) (k := 2) (y := 6) (C := RX2) (T := TX2) (N := 8) (pc := 51) dX2_comesToBarredFrom_51 rfl rfl ev_in2 rfl ul_2_42 ⟨rfl, rfl⟩ rfl ?_
            refine e_iload (pc := 54) dX2_comesToBarredFrom_54 rfl ?_
            refine e_aload_n (pc := 56) dX2_comesToBarredFrom_56 rfl rfl ?_
            refine e_getR (q := 7) (ci := 2) (k := 4) (y := 45) (C := RX2) (T := TX2) (N := 8) (pc := 57) dX2_comesToBarredFrom_57 rfl rfl ev_in2 rfl ul_2_44 ⟨rfl, rfl⟩ rfl ?_
            refine e_iload_n (pc := 60) dX2_comesToBarredFrom_60 rfl rfl ?_
            refine e_iald (q := 45) (x := (g1 45 p)) (pc := 61) dX2_comesToBarredFrom_61 rfl H.1 rfl ?_
            have H := H.2
            refine e_lload_n (pc := 62) dX2_comesToBarredFrom_62 rfl rfl ?_
            refine e_invV (pc := 63) (Y' := Y_X6_statesByFiring) (as := [vI x4, vI (g1 45 p), vL b]) (st := []) (lv0 := [some (vR 6), some (vI x4), some (vI (g1 45 p)), some (vL b), none, none, none, none, none, none]) (q := 6) (ci := 6) (T := TX6) (N := 10) dX2_comesToBarredFrom_63 m_X6_statesByFiring ul_4_120 ⟨ul_4_121, ul_4_122⟩ ⟨rfl, rfl⟩ rfl rfl rfl rfl rfl rfl rfl (c_X6_statesByFiring w x4 (g1 45 p) b g1 _ H) ?_
            rintro _ h21 ⟨r21, rfl, H⟩
            show Ev w Y_X2_comesToBarredFrom 66 [some (vR 7), some (vI p), some (vL b), none, some (vI x4), none] [vI r21] h21 (rI K)
            refine e_istore (lv' := [some (vR 7), some (vI p), some (vL b), none, some (vI x4), some (vI r21)]) (pc := 66) dX2_comesToBarredFrom_66 rfl rfl ?_
            refine e_iload (pc := 68) dX2_comesToBarredFrom_68 rfl ?_
            refine e_if_ge (pc := 70) (tgt := 75) dX2_comesToBarredFrom_70 (by decide) (fun c4 => ?_) (fun c4 => ?_)
            · have H := H.1 c4
              refine e_aload_n (pc := 75) dX2_comesToBarredFrom_75 rfl rfl ?_
              refine e_aload_n (pc := 76) dX2_comesToBarredFrom_76 rfl rfl ?_
              refine e_getR (q := 7) (ci := 2) (k := 3) (y := 44) (C := RX2) (T := TX2) (N := 8) (pc := 77) dX2_comesToBarredFrom_77 rfl rfl ev_in2 rfl ul_2_43 ⟨rfl, rfl⟩ rfl ?_
              refine e_iload_n (pc := 80) dX2_comesToBarredFrom_80 rfl rfl ?_
              refine e_iald (q := 44) (x := (h21 44 p)) (pc := 81) dX2_comesToBarredFrom_81 rfl H.1 rfl ?_
              have H := H.2
              refine e_iconst (pc := 82) dX2_comesToBarredFrom_82 ⟨by decide, by decide⟩ ?_
              refine e_iload (pc := 83) dX2_comesToBarredFrom_83 rfl ?_
              refine e_ishl (pc := 85) dX2_comesToBarredFrom_85 ?_
              refine e_ior (pc := 86) dX2_comesToBarredFrom_86 ?_
              refine e_iload (pc := 87) dX2_comesToBarredFrom_87 rfl ?_
              refine e_invV (pc := 89) (Y' := Y_X2_reach) (as := [vI (ior (h21 44 p) (ishl 1 x4)), vI r21]) (st := []) (lv0 := [some (vR 7), some (vI (ior (h21 44 p) (ishl 1 x4))), some (vI r21), none, none]) (q := 7) (ci := 2) (T := TX2) (N := 8) dX2_comesToBarredFrom_89 m_X2_reach ul_4_106 ⟨ul_4_108, us_X2_reach⟩ ⟨rfl, rfl⟩ rfl rfl rfl rfl rfl rfl rfl (c_X2_reach w (ior (h21 44 p) (ishl 1 x4)) r21 h21 _ H) ?_
              rintro _ h22 ⟨rfl, H⟩
              show Ev w Y_X2_comesToBarredFrom 92 [some (vR 7), some (vI p), some (vL b), none, some (vI x4), some (vI r21)] [] h22 (rI K)
              refine e_iinc (lv' := [some (vR 7), some (vI p), some (vL b), none, some (vI (x4 + 1)), some (vI r21)]) (pc := 92) dX2_comesToBarredFrom_92 rfl H.1 rfl rfl ?_
              have H := H.2
              refine e_goto (pc := 95) (tgt := 3) dX2_comesToBarredFrom_95 (by decide) ?_
              refine e_mask [true, true, true, false, true, false] rfl ?_
              obtain ⟨m, hm, H⟩ := H
              exact ih1 m hm _ _ H
            · have H := H.2 c4
              refine e_iconst (pc := 73) dX2_comesToBarredFrom_73 ⟨by decide, by decide⟩ ?_
              exact e_ret (pc := 74) (v := some (vI 1)) dX2_comesToBarredFrom_74 rfl (Or.inr rfl) ⟨_, rfl, H⟩
          · have H := H.2 c3
            refine e_goto (pc := 47) (tgt := 92) dX2_comesToBarredFrom_47 (by decide) ?_
            refine e_iinc (lv' := [some (vR 7), some (vI p), some (vL b), none, some (vI (x4 + 1)), none]) (pc := 92) dX2_comesToBarredFrom_92 rfl H.1 rfl rfl ?_
            have H := H.2
            refine e_goto (pc := 95) (tgt := 3) dX2_comesToBarredFrom_95 (by decide) ?_
            obtain ⟨m, hm, H⟩ := H
            exact ih1 m hm _ _ H
  refine e_iconst (pc := 0) dX2_comesToBarredFrom_0 ⟨by decide, by decide⟩ ?_
  refine e_istore (lv' := [some (vR 7), some (vI p), some (vL b), none, some (vI 0), none]) (pc := 1) dX2_comesToBarredFrom_1 rfl rfl ?_
  obtain ⟨m, H⟩ := H
  exact L1 m _ _ H
set_option maxRecDepth 100000 in
set_option maxHeartbeats 4000000 in
theorem c_X2_comesToBarredFrom (w : WD) (p : Int) (b : Int) (h : HP) (K : Int → HP → Prop)  (H : S_X2_comesToBarredFrom p b h K) : Ev w Y_X2_comesToBarredFrom 0 [some (vR 7), some (vI p), some (vL b), none, none, none] [] h (rI K) := by
  obtain ⟨⟨hH, hF, hS, rfl, hI, hp, ho⟩, HA, HB⟩ := H
  have hP := pOK_C hH hS
  have h67 := hS.1
  obtain ⟨np, hnp⟩ := hI.2.1 p hp.1 hp.2
  have hbp := rch_b hP np _ _ hnp
  refine v_X2_comesToBarredFrom w p _ h K (fun n x4 g => (0 ≤ x4 ∧ x4 ≤ h 6 7) ∧ n = (8 - x4).toNat ∧ frB h g ∧ PI (PC h) g ∧ preP h g ∧ (∀ i : Int, 0 ≤ i → i < g 7 7 → pct (g 44 i) ≤ pct (h 44 p) + 1) ∧ cloP (PC h) g p x4) ⟨8, by omega, rfl, frB_r h, hI, ⟨Int.le_refl _, fun _ _ _ => ⟨rfl, rfl⟩⟩, ho, fun x a b => by have := a.1.1; omega⟩ ?_
  rintro n x4 g ⟨h4, rfl, hfr, hIg, hpre, hog, hcl⟩
  have ep := hpre.2 p hp.1 hp.2
  have e39 : g 39 = h 39 := hfr.1 _ (by decide) (by decide) (by decide) (by decide) (by decide) (by decide) (by decide)
  have e41 : g 41 = h 41 := hfr.1 _ (by decide) (by decide) (by decide) (by decide) (by decide) (by decide) (by decide)
  have e42 : g 42 = h 42 := hfr.1 _ (by decide) (by decide) (by decide) (by decide) (by decide) (by decide) (by decide)
  have h2048 := hI.1
  rw [hfr.2.1 7 (by decide), e39, e41, e42, ep.1, ep.2]
  refine ⟨fun c => ?_, fun c => ?_⟩
  · have e : x4 = h 6 7 := by omega
    rw [e] at hcl
    exact HA g hfr hIg hpre (fun i a b => by rw [ep.1]; exact hog i a b) hcl
  · have hst := hS.2 x4 h4.1 (by omega)
    have h10 := hH.1
    have skip : ¬ elg (PC h) (h 44 p) (h 45 p) x4 → ((iR (x4 + 1)) ∧ (∃ m : Nat, m < (8 - x4).toNat ∧ (0 ≤ x4 + 1 ∧ x4 + 1 ≤ h 6 7) ∧ m = (8 - (x4 + 1)).toNat ∧ frB h g ∧ PI (PC h) g ∧ preP h g ∧ (∀ i : Int, 0 ≤ i → i < g 7 7 → pct (g 44 i) ≤ pct (h 44 p) + 1) ∧ cloP (PC h) g p (x4 + 1))) := fun ne => ⟨⟨by omega, by omega⟩, (8 - (x4 + 1)).toNat, by omega, by omega, rfl, hfr, hIg, hpre, hog, fun x a b => by
      by_cases e : x = x4
      · rw [e, ep.1, ep.2] at a; exact absurd a ne
      · exact hcl x a (by omega)⟩
    refine ⟨by omega, ⟨by omega, hbp.2.1, by omega, by omega⟩, fun z => skip (fun y => z ⟨y.1.2, y.2.2⟩), fun z => ⟨by omega, ⟨⟨hbp.1.1, by have := hbp.1.2; omega⟩, by omega, by omega⟩, fun zm => ⟨by omega, ?_⟩, fun zm => skip (fun y => y.2.1 zm)⟩⟩
    have hel : elg (PC h) (h 44 p) (h 45 p) x4 := ⟨⟨⟨h4.1, by show x4 < h 6 7; omega⟩, z.1⟩, zm, z.2⟩
    have hok := ok_c hfr hH hF hS
    have hPC : PC g = PC h := PC_c hfr
    have hfw : fwC g = fwC h := congrArg (fun P : SP => P.2.2.2.2.1) hPC
    have eb : bset (fun k => k < h 2 6 ∧ cBar h k (dgt (h 1 8))) 40 = bset (fun k => k < g 2 6 ∧ cBar g k (dgt (g 1 8))) 40 := by
      have e1 : g 1 = h 1 := hfr.1 _ (by decide) (by decide) (by decide) (by decide) (by decide) (by decide) (by decide)
      have e2 : g 2 = h 2 := hfr.1 _ (by decide) (by decide) (by decide) (by decide) (by decide) (by decide) (by decide)
      rw [e1, e2]
      refine bset_c (fun k _ _ => ?_)
      unfold cBar
      rw [hfr.1 18 (by decide) (by decide) (by decide) (by decide) (by decide) (by decide) (by decide), hfr.1 19 (by decide) (by decide) (by decide) (by decide) (by decide) (by decide) (by decide), hfr.1 15 (by decide) (by decide) (by decide) (by decide) (by decide) (by decide) (by decide), hfr.1 9 (by decide) (by decide) (by decide) (by decide) (by decide) (by decide) (by decide)]
    refine ⟨⟨hok.1, hok.2.1, hok.2.2, by rw [hfr.2.1 7 (by decide)]; omega, hbp.2.1, eb⟩, fun g2 q1 q2 q3 => ?_⟩
    rw [hfw] at q3 ⊢
    have fr2 : frB h g2 := frB_t hfr ⟨fun q a1 a2 a3 a4 a5 a6 a7 => q1 q a1 a2, q2, fun i _ => by rw [q1 7 (by decide) (by decide)]⟩
    have e44 : g2 44 = g 44 := q1 _ (by decide) (by decide)
    have e45 : g2 45 = g 45 := q1 _ (by decide) (by decide)
    have e7 : g2 7 = g 7 := q1 _ (by decide) (by decide)
    have hI2 : PI (PC h) g2 := by unfold PI; rw [e7, e44, e45, q1 46 (by decide) (by decide), q1 47 (by decide) (by decide)]; exact hIg
    have hpre2 : preP h g2 := by unfold preP; rw [e7, e44, e45]; exact hpre
    refine ⟨fun z0 => ⟨by omega, ?_⟩, fun z0 => HB g2 fr2 hpre2 hI2 ⟨x4, hel, by show fwC h x4 (h 45 p) < 0; omega⟩⟩
    rw [e44, ep.1]
    have hstb := stb_b hbp.1 (s := x4) (by omega)
    have hrn : rch (PC h) (np + 1) (stb (h 44 p) x4) (fwC h x4 (h 45 p)) := ⟨h 44 p, h 45 p, x4, hnp, hel, rfl, z0, rfl⟩
    have hpc := pct_stb hP hnp hel
    have hcl2 : cloP (PC h) g2 p x4 := clo_p (h := g) ⟨by rw [e7]; exact Int.le_refl _, fun i _ _ => by rw [e44, e45]; exact ⟨rfl, rfl⟩⟩ (by have := hpre.1; omega) hcl
    have ext : ∀ g3 : HP, preP g2 g3 → (∃ j : Int, 0 ≤ j ∧ j < g3 7 7 ∧ g3 44 j = stb (h 44 p) x4 ∧ g3 45 j = fwC h x4 (h 45 p)) → cloP (PC h) g3 p (x4 + 1) := fun g3 hp3 hex x a b => by
      have e3 := hp3.2 p hp.1 (by rw [e7]; have := hpre.1; omega)
      by_cases e : x = x4
      · rw [e, e3.1, e3.2, e44, e45, ep.1, ep.2]
        exact ⟨z0, hex⟩
      · exact clo_p hp3 (by rw [e7]; have := hpre.1; omega) hcl2 x a (by omega)
    refine ⟨PC h, ⟨hP, hI2, hstb.1, ⟨_, hrn⟩, fun i a b => by rw [e7] at b; rw [e44]; show _ ≤ pct (stb (h 44 p) x4); rw [hpc]; exact hog i a b⟩, fun ⟨j, j0, j1, j2, j3⟩ => ⟨⟨by omega, by omega⟩, (8 - (x4 + 1)).toNat, by omega, by omega, rfl, fr2, hI2, hpre2, by rw [e7, e44]; exact hog, ext g2 ⟨Int.le_refl _, fun _ _ _ => ⟨rfl, rfl⟩⟩ ⟨j, j0, j1, j2, j3⟩⟩, fun g3 r1 r2 r3 r4 r5 r6 r7 => ?_⟩
    have hp3 : preP g2 g3 := ⟨by omega, fun i a b => r4 i (by omega)⟩
    have h7p := hIg.1
    have e77 : g2 7 7 = g 7 7 := by rw [e7]
    refine ⟨⟨by omega, by omega⟩, (8 - (x4 + 1)).toNat, by omega, by omega, rfl, frB_t fr2 ⟨fun q a1 a2 a3 a4 a5 a6 a7 => r1 q a3 a4 a5 a6 a7, fun i _ => by rw [r1 6 (by decide) (by decide) (by decide) (by decide) (by decide)], r2⟩, r7, ⟨by have := hpre2.1; omega, fun i a b => by have := hpre2.2 i a b; have := hpre2.1; rw [(r4 i (by omega)).1, (r4 i (by omega)).2]; exact hpre2.2 i a b⟩, fun i a b => ?_, ext g3 hp3 ⟨g2 7 7, by omega, by omega, r5, r6⟩⟩
    by_cases e : i = g2 7 7
    · rw [e, r5]; show pct (stb (h 44 p) x4) ≤ _; rw [hpc]; exact Int.le_refl _
    · rw [(r4 i e).1, e44]; exact hog i a (by omega)
theorem cnt_past {p : Int → Prop} : ∀ {m n : Nat}, m ≤ n → (∀ i : Int, (m : Int) ≤ i → i < (n : Int) → ¬ p i) → cnt p n = cnt p m
  | m, 0, h, _ => by rw [Nat.le_zero.mp h]
  | m, n + 1, h, hp => by
    by_cases e : m = n + 1
    · rw [e]
    · simp only [cnt]
      rw [b2i_f (hp (n : Int) (by omega) (by omega)), Int.add_zero]
      exact cnt_past (by omega) (fun i h0 h1 => hp i h0 (by omega))
def S_X2_fewestToBarred (h : HP) (K : Int → HP → Prop) : Prop := (HOK h ∧ fOK h ∧ SOK h) ∧ ∀ (r : Int) (h' : HP), frB h h' → shR (PC h) r → K r h'
/-- all that is reached in n firings stands among the places, if those of fewer are closed -/
theorem bfs_all {P : SP} (hP : pOK P) {g : HP} {p : Int} (hI : PI P g) (h0 : 0 < g 7 7) (h44 : g 44 0 = 0) (h45 : g 45 0 = P.2.2.2.2.2) (hcl : ∀ i : Int, 0 ≤ i → i < p → cloP P g i P.1) : ∀ (n : Nat) (F S : Int), (∀ i : Int, 0 ≤ i → i < g 7 7 → pct (g 44 i) < (n : Int) → i < p) → rch P n F S → ∃ i : Int, 0 ≤ i ∧ i < g 7 7 ∧ g 44 i = F ∧ g 45 i = S
  | 0, F, S, _, h => by
    obtain ⟨rfl, rfl⟩ := h
    exact ⟨0, Int.le_refl _, h0, h44, h45⟩
  | n + 1, F, S, hc, h => by
    obtain ⟨F0, S1, s, h1, h2, h3, h4, rfl⟩ := h
    obtain ⟨i, i0, i1, i2, i3⟩ := bfs_all hP hI h0 h44 h45 hcl n F0 S1 (fun i a b c => hc i a b (by omega)) h1
    have hpc : pct F0 = (n : Int) := (rch_b hP n F0 S1 h1).2.2.1
    have hip := hc i i0 i1 (by rw [i2, hpc]; omega)
    obtain ⟨_, j, j0, j1, j2, j3⟩ := hcl i i0 hip s (by rw [i2, i3]; exact h2) h2.1.1.2
    rw [i2] at j2
    rw [i3, h3] at j3
    exact ⟨j, j0, j1, j2, j3⟩
set_option maxRecDepth 100000 in
set_option maxHeartbeats 4000000 in
theorem v_X2_fewestToBarred (w : WD)  (h : HP) (K : Int → HP → Prop) 
    (I1 : Nat → Int → Int → HP → Prop)
    (H : ((¬ (h 2 6) = 0 → ((HOK h ∧ fOK h ∧ inS (h 1 8)) ∧ (S_J7_fill_53178 47 (-1) h (fun h21 => (S_X2_reach 0 (h21 1 8) (sth h21 7 7 0) (fun h22 => (∃ m : Nat, I1 m (bset (fun k => k < h 2 6 ∧ cBar h k (dgt (h 1 8))) 40) 0 h22))))))) ∧ ((h 2 6) = 0 → K (-4) h)))
    (H1 : ∀ (n1 : Nat) (x1 : Int) (x3 : Int) (g1 : HP), I1 n1 x1 x3 g1 → ((((2048 ≤ x3) ∨ ((g1 7 7) ≤ x3)) → K (-4) g1) ∧ (¬ ((2048 ≤ x3) ∨ ((g1 7 7) ≤ x3)) → (S_X2_comesToBarredFrom x3 x1 g1 (fun r23 h23 => ((r23 = 0 → ((iR (x3 + 1)) ∧ (∃ m : Nat, m < n1 ∧ I1 m x1 (x3 + 1) h23))) ∧ (¬ r23 = 0 → ((0 ≤ x3 ∧ x3 < 2048) ∧ ((0 ≤ (h23 44 x3) ∧ (h23 44 x3) < 65536) ∧ ((iR ((cnt (mem (h23 44 x3)) 16) + 1)) ∧ K ((cnt (mem (h23 44 x3)) 16) + 1) h23)))))))))) :
    Ev w Y_X2_fewestToBarred 0 [some (vR 7), none, none, none] [] h (rI K) := by
  have L1 : ∀ (n1 : Nat) (x1 : Int) (x3 : Int) (g1 : HP), I1 n1 x1 x3 g1 → Ev w Y_X2_fewestToBarred 55 [some (vR 7), some (vL x1), none, some (vI x3)] [] g1 (rI K) := by
    intro n1
    induction n1 using Nat.strongRecOn with
    | ind n1 ih1 =>
      intro x1 x3 g1 H
      have H := H1 n1 x1 x3 g1 H
      refine e_iload_n (pc := 55) dX2_fewestToBarred_55 rfl rfl ?_
      refine e_sipush (pc := 56) dX2_fewestToBarred_56 ⟨by decide, by decide⟩ (by decide) ?_
      have J1 : ((2048 ≤ x3) ∨ ((g1 7 7) ≤ x3)) → Ev w Y_X2_fewestToBarred 97 [some (vR 7), some (vL x1), none, some (vI x3)] [] g1 (rI K) := by
        intro hp
        have H := H.1 hp
        refine e_bipush (pc := 97) dX2_fewestToBarred_97 ⟨by decide, by decide⟩ (by decide) ?_
        exact e_ret (pc := 99) (v := some (vI (-4))) dX2_fewestToBarred_99 rfl trivial ⟨_, rfl, H⟩
      have J2 : ¬ ((2048 ≤ x3) ∨ ((g1 7 7) ≤ x3)) → Ev w Y_X2_fewestToBarred 70 [some (vR 7), some (vL x1), none, some (vI x3)] [] g1 (rI K) := by
        intro hp
        have H := H.2 hp
        refine e_aload_n (pc := 70) dX2_fewestToBarred_70 rfl rfl ?_
        refine e_iload_n (pc := 71) dX2_fewestToBarred_71 rfl rfl ?_
        refine e_lload_n (pc := 72) dX2_fewestToBarred_72 rfl rfl ?_
        refine e_invV (pc := 73) (Y' := Y_X2_comesToBarredFrom) (as := [vI x3, vL x1]) (st := []) (lv0 := [some (vR 7), some (vI x3), some (vL x1), none, none, none]) (q := 7) (ci := 2) (T := TX2) (N := 8) dX2_fewestToBarred_73 m_X2_comesToBarredFrom ul_4_110 ⟨ul_4_112, us_X2_comesToBarredFrom⟩ ⟨rfl, rfl⟩ rfl rfl rfl rfl rfl rfl rfl (c_X2_comesToBarredFrom w x3 x1 g1 _ H) ?_
        rintro _ h23 ⟨r23, rfl, H⟩
        show Ev w Y_X2_fewestToBarred 76 [some (vR 7), some (vL x1), none, some (vI x3)] [vI r23] h23 (rI K)
        refine e_if_eq (pc := 76) (tgt := 91) dX2_fewestToBarred_76 (by decide) (fun c2 => ?_) (fun c2 => ?_)
        · have H := H.1 c2
          refine e_iinc (lv' := [some (vR 7), some (vL x1), none, some (vI (x3 + 1))]) (pc := 91) dX2_fewestToBarred_91 rfl H.1 rfl rfl ?_
          have H := H.2
          refine e_goto (pc := 94) (tgt := 55) dX2_fewestToBarred_94 (by decide) ?_
          obtain ⟨m, hm, H⟩ := H
          exact ih1 m hm _ _ _ H
        · have H := H.2 c2
          refine e_aload_n (pc := 79) dX2_fewestToBarred_79 rfl rfl ?_
          refine e_getR (q := 7) (ci := 2) (k := 3) (y := 44) (C := RX2) (T := TX2) (N := 8) (pc := 80) dX2_fewestToBarred_80 rfl rfl ev_in2 rfl ul_2_43 ⟨rfl, rfl⟩ rfl ?_
          refine e_iload_n (pc := 83) dX2_fewestToBarred_83 rfl rfl ?_
          refine e_iald (q := 44) (x := (h23 44 x3)) (pc := 84) dX2_fewestToBarred_84 rfl H.1 rfl ?_
          have H := H.2
          refine e_invS (pc := 85) (Y' := Y_J6_bitCount_0f7a4) (as := [vI (h23 44 x3)]) (st := []) (lv0 := [some (vI (h23 44 x3))]) dX2_fewestToBarred_85 m_J6_bitCount_0f7a4 ul_4_126 ul_4_15 ⟨rfl, rfl⟩ rfl rfl rfl rfl rfl (c_J6_bitCount_0f7a4 w (h23 44 x3) h23 H.1) ?_
          rintro _ hz ⟨_, rfl, rfl, hh⟩
          rw [hh]
          show Ev w Y_X2_fewestToBarred 88 [some (vR 7), some (vL x1), none, some (vI x3)] [vI (cnt (mem (h23 44 x3)) 16)] h23 (rI K)
          have H := H.2
          refine e_iconst (pc := 88) dX2_fewestToBarred_88 ⟨by decide, by decide⟩ ?_
          refine e_iadd (pc := 89) dX2_fewestToBarred_89 H.1 ?_
          have H := H.2
          exact e_ret (pc := 90) (v := some (vI ((cnt (mem (h23 44 x3)) 16) + 1))) dX2_fewestToBarred_90 rfl trivial ⟨_, rfl, H⟩
      refine e_icmp_ge (pc := 59) (tgt := 97) dX2_fewestToBarred_59 (by decide) (fun c3 => ?_) (fun c3 => ?_)
      · exact J1 (Or.inl c3)
      · refine e_iload_n (pc := 62) dX2_fewestToBarred_62 rfl rfl ?_
        refine e_aload_n (pc := 63) dX2_fewestToBarred_63 rfl rfl ?_
        refine e_getI (q := 7) (ci := 2) (k := 7) (kz := 7) (C := RX2) (T := TX2) (N := 8) (x := (g1 7 7)) (pc := 64) dX2_fewestToBarred_64 rfl rfl rfl ev_in2 rfl ul_2_47 ⟨rfl, by decide⟩ rfl ?_
        refine e_icmp_ge (pc := 67) (tgt := 97) dX2_fewestToBarred_67 (by decide) (fun c4 => ?_) (fun c4 => ?_)
        · exact J1 (Or.inr c4)
        · exact J2 (fun z => z.elim c3 c4)
  refine e_aload_n (pc := 0) dX2_fewestToBarred_0 rfl rfl ?_
  refine e_getR (q := 7) (ci := 2) (k := 1) (y := 2) (C := RX2) (T := TX2) (N := 8) (pc := 1) dX2_fewestToBarred_1 rfl rfl ev_in2 rfl ul_2_41 ⟨rfl, rfl⟩ rfl ?_
  refine e_getI (q := 2) (ci := 5) (k := 6) (kz := 6) (C := RX5) (T := TX5) (N := 7) (x := (h 2 6)) (pc := 4) dX2_fewestToBarred_4 rfl rfl rfl ev_in5 rfl ul_1_91 ⟨rfl, by decide⟩ rfl ?_
  refine e_if_ne (pc := 7) (tgt := 13) dX2_fewestToBarred_7 (by decide) (fun c1 => ?_) (fun c1 => ?_)
  · have H := H.1 c1
    refine e_aload_n (pc := 13) dX2_fewestToBarred_13 rfl rfl ?_
    refine e_getR (q := 7) (ci := 2) (k := 1) (y := 2) (C := RX2) (T := TX2) (N := 8) (pc := 14) dX2_fewestToBarred_14 rfl rfl ev_in2 rfl ul_2_41 ⟨rfl, rfl⟩ rfl ?_
    refine e_aload_n (pc := 17) dX2_fewestToBarred_17 rfl rfl ?_
    refine e_getR (q := 7) (ci := 2) (k := 0) (y := 1) (C := RX2) (T := TX2) (N := 8) (pc := 18) dX2_fewestToBarred_18 rfl rfl ev_in2 rfl ul_2_40 ⟨rfl, rfl⟩ rfl ?_
    refine e_getI (q := 1) (ci := 4) (k := 8) (kz := 8) (C := RX4) (T := TX4) (N := 10) (x := (h 1 8)) (pc := 21) dX2_fewestToBarred_21 rfl rfl rfl ev_in4 rfl ul_1_49 ⟨rfl, by decide⟩ rfl ?_
    refine e_invV (pc := 24) (Y' := Y_X5_barring) (as := [vI (h 1 8)]) (st := []) (lv0 := [some (vR 2), some (vI (h 1 8)), none, none, none]) (q := 2) (ci := 5) (T := TX5) (N := 7) dX2_fewestToBarred_24 m_X5_barring ul_4_104 ⟨ul_3_23, ul_3_24⟩ ⟨rfl, rfl⟩ rfl rfl rfl rfl rfl rfl rfl (c_X5_barring w (h 1 8) h H.1) ?_
    rintro _ hz ⟨_, rfl, rfl, hh⟩
    rw [hh]
    show Ev w Y_X2_fewestToBarred 27 [some (vR 7), none, none, none] [vL (bset (fun k => k < h 2 6 ∧ cBar h k (dgt (h 1 8))) 40)] h (rI K)
    have H := H.2
    refine e_lstore_n (lv' := [some (vR 7), some (vL (bset (fun k => k < h 2 6 ∧ cBar h k (dgt (h 1 8))) 40)), none, none]) (pc := 27) dX2_fewestToBarred_27 rfl rfl rfl ?_
    refine e_aload_n (pc := 28) dX2_fewestToBarred_28 rfl rfl ?_
    refine e_getR (q := 7) (ci := 2) (k := 6) (y := 47) (C := RX2) (T := TX2) (N := 8) (pc := 29) dX2_fewestToBarred_29 rfl rfl ev_in2 rfl ul_2_46 ⟨rfl, rfl⟩ rfl ?_
    refine e_iconst (pc := 32) dX2_fewestToBarred_32 ⟨by decide, by decide⟩ ?_
    refine e_invS (pc := 33) (Y' := Y_J7_fill_53178) (as := [vR 47, vI (-1)]) (st := []) (lv0 := [some (vR 47), some (vI (-1)), none, none]) dX2_fewestToBarred_33 m_J7_fill_53178 ul_4_105 ul_1_31 ⟨rfl, rfl⟩ rfl rfl rfl rfl rfl (c_J7_fill_53178 w 47 (-1) h _ rfl H) ?_
    rintro _ h21 ⟨rfl, H⟩
    show Ev w Y_X2_fewestToBarred 36 [some (vR 7), some (vL (bset (fun k => k < h 2 6 ∧ cBar h k (dgt (h 1 8))) 40)), none, none] [] h21 (rI K)
    refine e_aload_n (pc := 36) dX2_fewestToBarred_36 rfl rfl ?_
    refine e_iconst (pc := 37) dX2_fewestToBarred_37 ⟨by decide, by decide⟩ ?_
    refine e_put (q := 7) (ci := 2) (k := 7) (kz := 7) (C := RX2) (T := TX2) (N := 8) (ty := .int) (pc := 38) dX2_fewestToBarred_38 rfl rfl rfl ev_in2 tyX2 tyX2_ok nmX2 rfl ul_2_47 ⟨rfl, by decide⟩ rfl (tyX2_ok 7 (by decide)) (Or.inl rfl) ?_
    refine e_aload_n (pc := 41) dX2_fewestToBarred_41 rfl rfl ?_
    refine e_iconst (pc := 42) dX2_fewestToBarred_42 ⟨by decide, by decide⟩ ?_
    refine e_aload_n (pc := 43) dX2_fewestToBarred_43 rfl rfl ?_
    refine e_getR (q := 7) (ci := 2) (k := 0) (y := 1) (C := RX2) (T := TX2) (N := 8) (pc := 44) dX2_fewestToBarred_44 rfl rfl ev_in2 rfl ul_2_40 ⟨rfl, rfl⟩ rfl ?_
    refine e_getI (q := 1) (ci := 4) (k := 8) (kz := 8) (C := RX4) (T := TX4) (N := 10) (x := (h21 1 8)) (pc := 47) dX2_fewestToBarred_47 rfl rfl rfl ev_in4 rfl ul_1_49 ⟨rfl, by decide⟩ rfl ?_
    refine e_invV (pc := 50) (Y' := Y_X2_reach) (as := [vI 0, vI (h21 1 8)]) (st := []) (lv0 := [some (vR 7), some (vI 0), some (vI (h21 1 8)), none, none]) (q := 7) (ci := 2) (T := TX2) (N := 8) dX2_fewestToBarred_50 m_X2_reach ul_4_106 ⟨ul_4_108, us_X2_reach⟩ ⟨rfl, rfl⟩ rfl rfl rfl rfl rfl rfl rfl (c_X2_reach w 0 (h21 1 8) (sth h21 7 7 0) _ H) ?_
    rintro _ h22 ⟨rfl, H⟩
    show Ev w Y_X2_fewestToBarred 53 [some (vR 7), some (vL (bset (fun k => k < h 2 6 ∧ cBar h k (dgt (h 1 8))) 40)), none, none] [] h22 (rI K)
    refine e_iconst (pc := 53) dX2_fewestToBarred_53 ⟨by decide, by decide⟩ ?_
    refine e_istore_n (lv' := [some (vR 7), some (vL (bset (fun k => k < h 2 6 ∧ cBar h k (dgt (h 1 8))) 40)), none, some (vI 0)]) (pc := 54) dX2_fewestToBarred_54 rfl rfl rfl ?_
    obtain ⟨m, H⟩ := H
    exact L1 m _ _ _ H
  · have H := H.2 c1
    refine e_bipush (pc := 10) dX2_fewestToBarred_10 ⟨by decide, by decide⟩ (by decide) ?_
    exact e_ret (pc := 12) (v := some (vI (-4))) dX2_fewestToBarred_12 rfl trivial ⟨_, rfl, H⟩
set_option maxRecDepth 100000 in
set_option maxHeartbeats 4000000 in
theorem c_X2_fewestToBarred (w : WD)  (h : HP) (K : Int → HP → Prop)  (H : S_X2_fewestToBarred  h K) : Ev w Y_X2_fewestToBarred 0 [some (vR 7), none, none, none] [] h (rI K) := by
  obtain ⟨⟨hH, hF, hS⟩, HK⟩ := H
  have hP := pOK_C hH hS
  refine v_X2_fewestToBarred w h K (fun n x1 x3 g => x1 = bset (fun k => k < h 2 6 ∧ cBar h k (dgt (h 1 8))) 40 ∧ frB h g ∧ PI (PC h) g ∧ (0 ≤ x3 ∧ x3 ≤ g 7 7) ∧ n = (2048 - x3).toNat ∧ 0 < g 7 7 ∧ g 44 0 = 0 ∧ g 45 0 = h 1 8 ∧ (x3 < g 7 7 → ∀ i : Int, 0 ≤ i → i < g 7 7 → pct (g 44 i) ≤ pct (g 44 x3) + 1) ∧ ∀ i : Int, 0 ≤ i → i < x3 → cloP (PC h) g i (h 6 7)) ⟨fun c => ⟨⟨hH, hF, hH.2.2.1⟩, fun g1 f1 f2 => ?_⟩, fun c => HK (-4) h (frB_r h) (Or.inl ⟨rfl, ?_⟩)⟩ ?_
  · have e1 : g1 1 = h 1 := f1 1 (by decide)
    have f2 := f2 256 rfl
    have e7 : sth g1 7 7 0 7 7 = 0 := by rw [sth_eq, us_s]
    have e47 : sth g1 7 7 0 47 = g1 47 := sth_ne (by decide)
    have hI0 : PI (PC h) (sth g1 7 7 0) := by
      unfold PI
      rw [e7, e47]
      exact ⟨by omega, fun i a b => by omega, fun i j a b c => by omega, fun F a b => ⟨Or.inl (f2 F a b), fun i c d => by omega⟩, fun i a b => by omega, fun i j a b c => by omega⟩
    have hr0 : rch (PC h) 0 0 (g1 1 8) := ⟨rfl, by rw [e1]; rfl⟩
    refine ⟨PC h, ⟨hP, hI0, by decide, ⟨0, hr0⟩, fun i a b => by rw [e7] at b; omega⟩, fun ⟨i, a, b, _⟩ => by rw [e7] at b; omega, fun g2 r1 r2 r3 r4 r5 r6 r7 => ?_⟩
    rw [e7] at r3 r4 r5 r6
    refine ⟨2048, rfl, ⟨fun q a1 a2 a3 a4 a5 a6 a7 => by rw [r1 q a3 a4 a5 a6 a7, sth_ne a7]; exact f1 q a6, fun i _ => by rw [r1 6 (by decide) (by decide) (by decide) (by decide) (by decide), sth_ne (by decide), f1 6 (by decide)], fun i a => by rw [r2 i a, sth_eq, us_n a, f1 7 (by decide)]⟩, r7, by omega, rfl, by omega, r5, by rw [r6, e1], fun _ i a b => ?_, fun i a b => by omega⟩
    rw [show i = 0 by omega]; omega
  · rintro n ⟨F, S, s, h1, h2, h3⟩
    have hin := (rch_b hP n F S h1).2.1
    have hnb : ∀ S', ¬ (fun S' => cNB h (dgt (h 1 8)) (dgt S')) S' := fun S' ⟨k, k0, k1, _⟩ => by omega
    have := sbf_pos (TN := h 41) (IN := h 42) (wk := wkC h) (N := h 6 7) hnb (fun x a b => (hS.2 x a b).2) (fun t v x hx => wkC_m hS.1 t v x hx) 257 0 0 S [s] hin (fun x hx => by rw [List.mem_singleton] at hx; rw [hx]; exact h2.1.1)
    have h4 : fwC h s S < 0 := h3
    unfold fwC at h4
    have := this.1
    omega
  · rintro n x1 x3 g ⟨rfl, hfr, hI, h3, rfl, h0, h44, h45, ho, hcl⟩
    have h2048 := hI.1
    have hok := ok_c hfr hH hF hS
    have hPC : PC g = PC h := PC_c hfr
    refine ⟨fun z => HK (-4) g hfr (Or.inl ⟨rfl, ?_⟩), fun z => ?_⟩
    · have e : x3 = g 7 7 := by rcases z with z | z <;> omega
      rintro m ⟨F, S, s, h1, h2, h4⟩
      obtain ⟨i, i0, i1, i2, i3⟩ := bfs_all hP (p := x3) hI h0 h44 h45 hcl m F S (fun i a b _ => by omega) h1
      have := (hcl i i0 (by omega) s (by rw [i2, i3]; exact h2) h2.1.1.2).1
      rw [i3] at this
      omega
    · have hlt : x3 < g 7 7 := Classical.byContradiction (fun y => z (Or.inr (by omega)))
      have eb : bset (fun k => k < h 2 6 ∧ cBar h k (dgt (h 1 8))) 40 = bset (fun k => k < g 2 6 ∧ cBar g k (dgt (g 1 8))) 40 := by
        have e1 : g 1 = h 1 := hfr.1 _ (by decide) (by decide) (by decide) (by decide) (by decide) (by decide) (by decide)
        have e2 : g 2 = h 2 := hfr.1 _ (by decide) (by decide) (by decide) (by decide) (by decide) (by decide) (by decide)
        rw [e1, e2]
        refine bset_c (fun k _ _ => ?_)
        unfold cBar
        rw [hfr.1 18 (by decide) (by decide) (by decide) (by decide) (by decide) (by decide) (by decide), hfr.1 19 (by decide) (by decide) (by decide) (by decide) (by decide) (by decide) (by decide), hfr.1 15 (by decide) (by decide) (by decide) (by decide) (by decide) (by decide) (by decide), hfr.1 9 (by decide) (by decide) (by decide) (by decide) (by decide) (by decide) (by decide)]
      refine ⟨⟨hok.1, hok.2.1, hok.2.2, eb, by rw [hPC]; exact hI, by omega, ho hlt⟩, fun g2 q1 q2 q3 q4 q5 => ⟨fun _ => ?_, fun y => absurd rfl y⟩, fun g2 q1 q2 q3 q4 => ⟨fun y => absurd y (by decide), fun _ => ?_⟩⟩
      · rw [hPC] at q2 q5
        have e67 : g 6 7 = h 6 7 := hfr.2.1 7 (by decide)
        rw [e67] at q5
        have hl := q3.1
        have hpl := q3.2
        refine ⟨⟨by omega, by omega⟩, (2048 - (x3 + 1)).toNat, by omega, rfl, frB_t hfr q1, q2, by omega, rfl, by omega, by rw [(hpl 0 (by omega) (by omega)).1]; exact h44, by rw [(hpl 0 (by omega) (by omega)).2]; exact h45, fun y i a b => ?_, fun i a b => ?_⟩
        · have h1 := q4 i a b
          have h2 := q2.2.2.2.2.2 x3 (x3 + 1) (by omega) (by omega) y
          omega
        · by_cases e : i = x3
          · rw [e]; exact q5
          · exact clo_p q3 (by omega) (hcl i a (by omega))
      · obtain ⟨x, x1, x2⟩ := q4
        rw [hPC] at q3 x1 x2
        obtain ⟨m, hm⟩ := hI.2.1 x3 h3.1 hlt
        have hb := rch_b hP m _ _ hm
        have e44 := (q2.2 x3 h3.1 hlt).1
        have hpc : pct (g 44 x3) = (m : Int) := hb.2.2.1
        have hc16 : cnt (mem (g2 44 x3)) 16 = (m : Int) := by
          rw [e44, ← hpc]
          exact cnt_past (by decide) (fun i a b y => by have := mem_lt (n := 8) hb.1 (by omega) y; omega)
        rw [hc16]
        have hm8 : (m : Int) ≤ 8 := by rw [← hpc]; exact (cnt_b _ 8).2
        refine ⟨by omega, by rw [e44]; omega, ⟨by omega, by omega⟩, HK _ g2 (frB_t hfr q1) (Or.inr ⟨m, rfl, ⟨_, _, x, hm, x1, x2⟩, fun k hk hbk => ?_⟩)⟩
        obtain ⟨F, S, s, k1, k2, k3⟩ := hbk
        have hord : ∀ i : Int, 0 ≤ i → i < g 7 7 → pct (g 44 i) < (m : Int) → i < x3 := fun i a b c => Classical.byContradiction (fun y => by
          have := hI.2.2.2.2.2 x3 i h3.1 (by omega) b
          omega)
        obtain ⟨i, i0, i1, i2, i3⟩ := bfs_all hP (p := x3) hI h0 h44 h45 hcl k F S (fun i a b c => hord i a b (by omega)) k1
        have hpk : pct F = (k : Int) := (rch_b hP k F S k1).2.2.1
        have := (hcl i i0 (hord i i0 i1 (by rw [i2, hpk]; omega)) s (by rw [i2, i3]; exact k2) k2.1.1.2).1
        rw [i3] at this
        omega
def S_X8_show  (h : HP) (K : Int → HP → Prop) : Prop :=
  (S_X2_fewestToBarred  h (fun r21 h21 => K r21 h21))
set_option maxRecDepth 100000 in
set_option maxHeartbeats 4000000 in
theorem v_X8_show (w : WD)  (h : HP) (K : Int → HP → Prop) 
    (H : (S_X2_fewestToBarred  h (fun r21 h21 => K r21 h21))) :
    Ev w Y_X8_show 0 [some (vR 0)] [] h (rI K) := by
  refine e_aload_n (pc := 0) dX8_show_0 rfl rfl ?_
  refine e_getR (q := 0) (ci := 8) (k := 6) (y := 7) (C := RX8) (T := TX8) (N := 9) (pc := 1) dX8_show_1 rfl rfl ev_in8 rfl ul_2_104 ⟨rfl, rfl⟩ rfl ?_
  refine e_invV (pc := 4) (Y' := Y_X2_fewestToBarred) (as := []) (st := []) (lv0 := [some (vR 7), none, none, none]) (q := 7) (ci := 2) (T := TX2) (N := 8) dX8_show_4 m_X2_fewestToBarred ul_4_100 ⟨ul_4_101, ul_4_102⟩ ⟨rfl, rfl⟩ rfl rfl rfl rfl rfl rfl rfl (c_X2_fewestToBarred w h _ H) ?_
  rintro _ h21 ⟨r21, rfl, H⟩
  show Ev w Y_X8_show 7 [some (vR 0)] [vI r21] h21 (rI K)
  exact e_ret (pc := 7) (v := some (vI r21)) dX8_show_7 rfl trivial ⟨_, rfl, H⟩
theorem c_X8_show (w : WD)  (h : HP) (K : Int → HP → Prop)  (H : S_X8_show  h K) : Ev w Y_X8_show 0 [some (vR 0)] [] h (rI K) := v_X8_show w  h K  H
