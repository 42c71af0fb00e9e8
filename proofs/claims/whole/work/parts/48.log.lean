/-! the log as a list, both sides -/
abbrev LE : Type := Int × Int × Int × Int × Int
abbrev d0 : LE := (0, 0, 0, 0, 0)
def leC (h : HP) (i : Int) : LE := (h 48 i, h 49 i, h 50 i, h 51 i, h 52 i)
def leM (h : HP) (i : Int) : LE := (h 80 (5 * i), h 80 (5 * i + 1), h 80 (5 * i + 2), h 80 (5 * i + 3), h 80 (5 * i + 4))
def lgC (h : HP) (L : List LE) : Prop := h 8 6 = (L.length : Int) ∧ L.length ≤ 60 ∧ ∀ i : Nat, i < L.length → leC h (i : Int) = L.getD i d0
def lgM (h : HP) (L : List LE) : Prop := h 55 36 = (L.length : Int) ∧ L.length ≤ 60 ∧ ∀ i : Nat, i < L.length → leM h (i : Int) = L.getD i d0
def adL (L : List LE) (e : LE) : List LE := (if L.length = 60 then L.tail else L) ++ [e]
def dF (fo : Int) (L : List LE) : List LE := L.filter (fun e => decide (¬ e.1 = fo))
theorem gd_l {L : List LE} {e : LE} {i : Nat} (h : i < L.length) : (L ++ [e]).getD i d0 = L.getD i d0 := by
  rw [List.getD_eq_getElem?_getD, List.getD_eq_getElem?_getD, List.getElem?_append_left h]
theorem gd_e {L : List LE} {e : LE} {i : Nat} (h : i = L.length) : (L ++ [e]).getD i d0 = e := by
  subst h
  rw [List.getD_eq_getElem?_getD, List.getElem?_append_right (Nat.le_refl _), Nat.sub_self]
  rfl
theorem gd_t {L : List LE} {i : Nat} : L.tail.getD i d0 = L.getD (i + 1) d0 := by
  rw [List.getD_eq_getElem?_getD, List.getD_eq_getElem?_getD, List.getElem?_tail]
theorem dF_s {L : List LE} {k : Nat} {fo : Int} (hk : k < L.length) : dF fo (L.take (k + 1)) = dF fo (L.take k) ++ (if (L.getD k d0).1 = fo then [] else [L.getD k d0]) := by
  unfold dF
  rw [List.take_succ_eq_append_getElem hk, List.filter_append, List.getD_eq_getElem?_getD, List.getElem?_eq_getElem hk]
  congr 1
  by_cases c : (L[k]).1 = fo
  · rw [if_pos (by exact c)]
    simp [c]
  · rw [if_neg (by exact c)]
    simp [c]
theorem dF_l {L : List LE} {fo : Int} : (dF fo L).length ≤ L.length := List.length_filter_le _ _
theorem lc_st {g : HP} {p e0 e1 e2 e3 e4 : Int} (j : Int) : leC (sth (sth (sth (sth (sth g 48 p e0) 49 p e1) 50 p e2) 51 p e3) 52 p e4) j = if j = p then (e0, e1, e2, e3, e4) else leC g j := by
  unfold leC
  have q48 : sth (sth (sth (sth (sth g 48 p e0) 49 p e1) 50 p e2) 51 p e3) 52 p e4 48 = us (g 48) p e0 := by rw [sth_ne (by decide), sth_ne (by decide), sth_ne (by decide), sth_ne (by decide), sth_eq]
  have q49 : sth (sth (sth (sth (sth g 48 p e0) 49 p e1) 50 p e2) 51 p e3) 52 p e4 49 = us (g 49) p e1 := by rw [sth_ne (by decide), sth_ne (by decide), sth_ne (by decide), sth_eq, sth_ne (by decide)]
  have q50 : sth (sth (sth (sth (sth g 48 p e0) 49 p e1) 50 p e2) 51 p e3) 52 p e4 50 = us (g 50) p e2 := by rw [sth_ne (by decide), sth_ne (by decide), sth_eq, sth_ne (by decide), sth_ne (by decide)]
  have q51 : sth (sth (sth (sth (sth g 48 p e0) 49 p e1) 50 p e2) 51 p e3) 52 p e4 51 = us (g 51) p e3 := by rw [sth_ne (by decide), sth_eq, sth_ne (by decide), sth_ne (by decide), sth_ne (by decide)]
  have q52 : sth (sth (sth (sth (sth g 48 p e0) 49 p e1) 50 p e2) 51 p e3) 52 p e4 52 = us (g 52) p e4 := by rw [sth_eq, sth_ne (by decide), sth_ne (by decide), sth_ne (by decide), sth_ne (by decide)]
  rw [q48, q49, q50, q51, q52]
  by_cases c : j = p
  · rw [if_pos c, c, us_s, us_s, us_s, us_s, us_s]
  · rw [if_neg c, us_n c, us_n c, us_n c, us_n c, us_n c]
theorem lc_q {g : HP} {p e0 e1 e2 e3 e4 : Int} {q : Nat} (a1 : q ≠ 48) (a2 : q ≠ 49) (a3 : q ≠ 50) (a4 : q ≠ 51) (a5 : q ≠ 52) : sth (sth (sth (sth (sth g 48 p e0) 49 p e1) 50 p e2) 51 p e3) 52 p e4 q = g q := by rw [sth_ne a5, sth_ne a4, sth_ne a3, sth_ne a2, sth_ne a1]
theorem leC_c {h g : HP} (a1 : g 48 = h 48) (a2 : g 49 = h 49) (a3 : g 50 = h 50) (a4 : g 51 = h 51) (a5 : g 52 = h 52) (j : Int) : leC g j = leC h j := by unfold leC; rw [a1, a2, a3, a4, a5]
def S_X1_drop (fo : Int) (h : HP) (K : Int → HP → Prop) : Prop := ∃ L : List LE, (lgC h L ∧ (0 ≤ h 8 7 ∧ h 8 7 ≤ 2000000000)) ∧ ∀ h' : HP, (∀ q, q ≠ 48 → q ≠ 49 → q ≠ 50 → q ≠ 51 → q ≠ 52 → q ≠ 8 → h' q = h q) → lgC h' (dF fo L) → h' 8 7 = h 8 7 + ((L.length : Int) - ((dF fo L).length : Int)) → K ((L.length : Int) - ((dF fo L).length : Int)) h'
set_option maxRecDepth 100000 in
set_option maxHeartbeats 4000000 in
theorem v_X1_drop (w : WD) (fo : Int) (h : HP) (K : Int → HP → Prop) 
    (I1 : Nat → Int → Int → HP → Prop)
    (H : (∃ m : Nat, I1 m 0 0 h))
    (H1 : ∀ (n1 : Nat) (x2 : Int) (x3 : Int) (g1 : HP), I1 n1 x2 x3 g1 → (((g1 8 6) ≤ x3 → ((iR ((g1 8 6) - x2)) ∧ ((iR ((g1 8 7) + ((g1 8 6) - x2))) ∧ K ((g1 8 6) - x2) (sth (sth g1 8 6 x2) 8 7 ((g1 8 7) + ((g1 8 6) - x2)))))) ∧ (¬ (g1 8 6) ≤ x3 → ((0 ≤ x3 ∧ x3 < 60) ∧ (((g1 48 x3) = fo → ((iR (x3 + 1)) ∧ (∃ m : Nat, m < n1 ∧ I1 m x2 (x3 + 1) g1))) ∧ (¬ (g1 48 x3) = fo → (S_X1_moveEntry x3 x2 g1 (fun h21 => ((iR (x2 + 1)) ∧ ((iR (x3 + 1)) ∧ (∃ m : Nat, m < n1 ∧ I1 m (x2 + 1) (x3 + 1) h21))))))))))) :
    Ev w Y_X1_drop 0 [some (vR 8), some (vI fo), none, none] [] h (rI K) := by
  have L1 : ∀ (n1 : Nat) (x2 : Int) (x3 : Int) (g1 : HP), I1 n1 x2 x3 g1 → Ev w Y_X1_drop 4 [some (vR 8), some (vI fo), some (vI x2), some (vI x3)] [] g1 (rI K) := by
    intro n1
    induction n1 using Nat.strongRecOn with
    | ind n1 ih1 =>
      intro x2 x3 g1 H
      have H := H1 n1 x2 x3 g1 H
      refine e_iload_n (pc := 4) dX1_drop_4 rfl rfl ?_
      refine e_aload_n (pc := 5) dX1_drop_5 rfl rfl ?_
      refine e_getI (q := 8) (ci := 1) (k := 6) (kz := 6) (C := RX1) (T := TX1) (N := 8) (x := (g1 8 6)) (pc := 6) dX1_drop_6 rfl rfl rfl ev_in1 rfl ul_2_77 ⟨rfl, by decide⟩ rfl ?_
      refine e_icmp_ge (pc := 9) (tgt := 37) dX1_drop_9 (by decide) (fun c1 => ?_) (fun c1 => ?_)
      · have H := H.1 c1
        refine e_aload_n (pc := 37) dX1_drop_37 rfl rfl ?_
        refine e_getI (q := 8) (ci := 1) (k := 6) (kz := 6) (C := RX1) (T := TX1) (N := 8) (x := (g1 8 6)) (pc := 38) dX1_drop_38 rfl rfl rfl ev_in1 rfl ul_2_77 ⟨rfl, by decide⟩ rfl ?_
        refine e_iload_n (pc := 41) dX1_drop_41 rfl rfl ?_
        refine e_isub (pc := 42) dX1_drop_42 H.1 ?_
        have H := H.2
        refine e_istore_n (lv' := [some (vR 8), some (vI fo), some (vI x2), some (vI ((g1 8 6) - x2))]) (pc := 43) dX1_drop_43 rfl rfl rfl ?_
        refine e_aload_n (pc := 44) dX1_drop_44 rfl rfl ?_
        refine e_iload_n (pc := 45) dX1_drop_45 rfl rfl ?_
        refine e_put (q := 8) (ci := 1) (k := 6) (kz := 6) (C := RX1) (T := TX1) (N := 8) (ty := .int) (pc := 46) dX1_drop_46 rfl rfl rfl ev_in1 tyX1 tyX1_ok nmX1 rfl ul_2_77 ⟨rfl, by decide⟩ rfl (tyX1_ok 6 (by decide)) (Or.inl rfl) ?_
        refine e_aload_n (pc := 49) dX1_drop_49 rfl rfl ?_
        refine e_dup (pc := 50) dX1_drop_50 rfl ?_
        refine e_getI (q := 8) (ci := 1) (k := 7) (kz := 7) (C := RX1) (T := TX1) (N := 8) (x := (g1 8 7)) (pc := 51) dX1_drop_51 rfl rfl rfl ev_in1 rfl ul_2_79 ⟨rfl, by decide⟩ rfl ?_
        refine e_iload_n (pc := 54) dX1_drop_54 rfl rfl ?_
        refine e_iadd (pc := 55) dX1_drop_55 H.1 ?_
        have H := H.2
        refine e_put (q := 8) (ci := 1) (k := 7) (kz := 7) (C := RX1) (T := TX1) (N := 8) (ty := .int) (pc := 56) dX1_drop_56 rfl rfl rfl ev_in1 tyX1 tyX1_ok nmX1 rfl ul_2_79 ⟨rfl, by decide⟩ rfl (tyX1_ok 7 (by decide)) (Or.inl rfl) ?_
        refine e_iload_n (pc := 59) dX1_drop_59 rfl rfl ?_
        exact e_ret (pc := 60) (v := some (vI ((g1 8 6) - x2))) dX1_drop_60 rfl trivial ⟨_, rfl, H⟩
      · have H := H.2 c1
        refine e_aload_n (pc := 12) dX1_drop_12 rfl rfl ?_
        refine e_getR (q := 8) (ci := 1) (k := 0) (y := 48) (C := RX1) (T := TX1) (N := 8) (pc := 13) dX1_drop_13 rfl rfl ev_in1 rfl ul_2_71 ⟨rfl, rfl⟩ rfl ?_
        refine e_iload_n (pc := 16) dX1_drop_16 rfl rfl ?_
        refine e_iald (q := 48) (x := (g1 48 x3)) (pc := 17) dX1_drop_17 rfl H.1 rfl ?_
        have H := H.2
        refine e_iload_n (pc := 18) dX1_drop_18 rfl rfl ?_
        refine e_icmp_eq (pc := 19) (tgt := 31) dX1_drop_19 (by decide) (fun c2 => ?_) (fun c2 => ?_)
        · have H := H.1 c2
          refine e_iinc (lv' := [some (vR 8), some (vI fo), some (vI x2), some (vI (x3 + 1))]) (pc := 31) dX1_drop_31 rfl H.1 rfl rfl ?_
          have H := H.2
          refine e_goto (pc := 34) (tgt := 4) dX1_drop_34 (by decide) ?_
          obtain ⟨m, hm, H⟩ := H
          exact ih1 m hm _ _ _ H
        · have H := H.2 c2
          refine e_aload_n (pc := 22) dX1_drop_22 rfl rfl ?_
          refine e_iload_n (pc := 23) dX1_drop_23 rfl rfl ?_
          refine e_iload_n (pc := 24) dX1_drop_24 rfl rfl ?_
          refine e_invV (pc := 25) (Y' := Y_X1_moveEntry) (as := [vI x3, vI x2]) (st := []) (lv0 := [some (vR 8), some (vI x3), some (vI x2)]) (q := 8) (ci := 1) (T := TX1) (N := 8) dX1_drop_25 m_X1_moveEntry ul_3_237 ⟨ul_3_239, us_X1_moveEntry⟩ ⟨rfl, rfl⟩ rfl rfl rfl rfl rfl rfl rfl (c_X1_moveEntry w x3 x2 g1 _ H) ?_
          rintro _ h21 ⟨rfl, H⟩
          show Ev w Y_X1_drop 28 [some (vR 8), some (vI fo), some (vI x2), some (vI x3)] [] h21 (rI K)
          refine e_iinc (lv' := [some (vR 8), some (vI fo), some (vI (x2 + 1)), some (vI x3)]) (pc := 28) dX1_drop_28 rfl H.1 rfl rfl ?_
          have H := H.2
          refine e_iinc (lv' := [some (vR 8), some (vI fo), some (vI (x2 + 1)), some (vI (x3 + 1))]) (pc := 31) dX1_drop_31 rfl H.1 rfl rfl ?_
          have H := H.2
          refine e_goto (pc := 34) (tgt := 4) dX1_drop_34 (by decide) ?_
          obtain ⟨m, hm, H⟩ := H
          exact ih1 m hm _ _ _ H
  refine e_iconst (pc := 0) dX1_drop_0 ⟨by decide, by decide⟩ ?_
  refine e_istore_n (lv' := [some (vR 8), some (vI fo), some (vI 0), none]) (pc := 1) dX1_drop_1 rfl rfl rfl ?_
  refine e_iconst (pc := 2) dX1_drop_2 ⟨by decide, by decide⟩ ?_
  refine e_istore_n (lv' := [some (vR 8), some (vI fo), some (vI 0), some (vI 0)]) (pc := 3) dX1_drop_3 rfl rfl rfl ?_
  obtain ⟨m, H⟩ := H
  exact L1 m _ _ _ H
set_option maxRecDepth 100000 in
set_option maxHeartbeats 4000000 in
theorem c_X1_drop (w : WD) (fo : Int) (h : HP) (K : Int → HP → Prop)  (H : S_X1_drop fo h K) : Ev w Y_X1_drop 0 [some (vR 8), some (vI fo), none, none] [] h (rI K) := by
  obtain ⟨L, ⟨hL, h7⟩, HK⟩ := H
  refine v_X1_drop w fo h K (fun n x2 x3 g => ∃ k : Nat, x3 = (k : Int) ∧ k ≤ L.length ∧ n = 60 - k ∧ x2 = ((dF fo (L.take k)).length : Int) ∧ (∀ q, q ≠ 48 → q ≠ 49 → q ≠ 50 → q ≠ 51 → q ≠ 52 → g q = h q) ∧ (∀ i : Nat, i < (dF fo (L.take k)).length → leC g (i : Int) = (dF fo (L.take k)).getD i d0) ∧ ∀ i : Nat, k ≤ i → i < L.length → leC g (i : Int) = L.getD i d0) ⟨60, 0, rfl, Nat.zero_le _, rfl, rfl, fun _ _ _ _ _ _ => rfl, fun i a => absurd a (by simp [dF]), fun i _ b => hL.2.2 i b⟩ ?_
  rintro n x2 x3 g ⟨k, rfl, hk, rfl, rfl, hg, hd, hr⟩
  have g8 : g 8 = h 8 := hg 8 (by decide) (by decide) (by decide) (by decide) (by decide)
  have hlen := hL.1
  have h60 := hL.2.1
  have hdl := dF_l (L := L.take k) (fo := fo)
  rw [List.length_take] at hdl
  rw [g8]
  refine ⟨fun c => ?_, fun c => ?_⟩
  · have e : k = L.length := by omega
    subst e
    rw [List.take_length] at *
    rw [hlen]
    refine ⟨⟨by omega, by omega⟩, ⟨by omega, by omega⟩, HK _ (fun q a1 a2 a3 a4 a5 a6 => by rw [sth_ne a6, sth_ne a6]; exact hg q a1 a2 a3 a4 a5) ⟨by rw [sth_eq, us_n (by decide), sth_eq, us_s], by omega, fun i a => ?_⟩ (by rw [sth_eq, us_s])⟩
    rw [leC_c (h := g) (by rw [sth_ne (by decide), sth_ne (by decide)]) (by rw [sth_ne (by decide), sth_ne (by decide)]) (by rw [sth_ne (by decide), sth_ne (by decide)]) (by rw [sth_ne (by decide), sth_ne (by decide)]) (by rw [sth_ne (by decide), sth_ne (by decide)])]
    exact hd i a
  · have hk2 : k < L.length := by omega
    have hs := dF_s (fo := fo) hk2
    have hrk := hr k (Nat.le_refl _) hk2
    have hf : g 48 (k : Int) = (L.getD k d0).1 := by rw [← hrk]; rfl
    rw [hf]
    refine ⟨by omega, fun z => ⟨⟨by omega, by omega⟩, 60 - (k + 1), by omega, k + 1, by omega, by omega, rfl, ?_, hg, ?_, fun i a b => hr i (by omega) b⟩, fun z => ⟨by omega, by omega, by omega, by omega, by omega, by omega, by omega, by omega, by omega, by omega, ⟨by omega, by omega⟩, ⟨by omega, by omega⟩, 60 - (k + 1), by omega, k + 1, by omega, by omega, rfl, ?_, fun q a1 a2 a3 a4 a5 => by rw [lc_q a1 a2 a3 a4 a5]; exact hg q a1 a2 a3 a4 a5, ?_, ?_⟩⟩
    · rw [hs, if_pos z, List.append_nil]
    · rw [hs, if_pos z, List.append_nil]; exact hd
    · rw [hs, if_neg z, List.length_append, List.length_singleton]; omega
    · rw [hs, if_neg z]
      intro i hi
      rw [List.length_append, List.length_singleton] at hi
      rw [lc_st]
      by_cases e : i = (dF fo (L.take k)).length
      · rw [if_pos (by omega), gd_e e]
        exact hrk
      · rw [if_neg (by omega), gd_l (by omega)]
        exact hd i (by omega)
    · intro i a b
      rw [lc_st, if_neg (by omega)]
      exact hr i (by omega) b
theorem lgC_app {g : HP} {L : List LE} {n e0 e1 e2 e3 e4 : Int} (hL : lgC g L) (h6 : L.length < 60) (hn : n = g 8 6) : lgC (sth (sth (sth (sth (sth (sth g 48 n e0) 49 n e1) 50 n e2) 51 n e3) 52 n e4) 8 6 (n + 1)) (L ++ [(e0, e1, e2, e3, e4)]) := by
  have h1 := hL.1
  refine ⟨by rw [sth_eq, us_s, List.length_append, List.length_singleton]; omega, by rw [List.length_append, List.length_singleton]; omega, fun i hi => ?_⟩
  rw [List.length_append, List.length_singleton] at hi
  rw [leC_c (h := sth (sth (sth (sth (sth g 48 n e0) 49 n e1) 50 n e2) 51 n e3) 52 n e4) (sth_ne (by decide)) (sth_ne (by decide)) (sth_ne (by decide)) (sth_ne (by decide)) (sth_ne (by decide)), lc_st]
  by_cases e : i = L.length
  · rw [if_pos (by omega), gd_e e]
  · rw [if_neg (by omega), gd_l (by omega)]
    exact hL.2.2 i (by omega)
theorem add_c {fo dy hr t v : Int} {h : HP} {K : HP → Prop} {L : List LE} (hL : lgC h L) (HK : ∀ h' : HP, (∀ q, q ≠ 48 → q ≠ 49 → q ≠ 50 → q ≠ 51 → q ≠ 52 → q ≠ 8 → h' q = h q) → (∀ i : Int, i ≠ 6 → h' 8 i = h 8 i) → lgC h' (adL L (fo, dy, hr, t, v)) → K h') : S_X1_add fo dy hr t v h K := by
  have h1 := hL.1
  have h2 := hL.2.1
  refine ⟨fun c => ⟨by omega, by omega, by omega, by omega, by omega, ⟨by omega, by omega⟩, HK _ (fun q a1 a2 a3 a4 a5 a6 => by rw [sth_ne a6, lc_q a1 a2 a3 a4 a5]) (fun i a => by rw [sth_eq, us_n a, lc_q (by decide) (by decide) (by decide) (by decide) (by decide)]) ?_⟩, fun c => ⟨by omega, fun g p1 p2 p3 p4 => ?_⟩⟩
  · unfold adL
    rw [if_neg (by omega)]
    exact lgC_app hL (by omega) rfl
  · have hT : lgC g L.tail := by
      refine ⟨by rw [p3, List.length_tail]; omega, by rw [List.length_tail]; omega, fun i hi => ?_⟩
      rw [List.length_tail] at hi
      rw [gd_t]
      have e := p4 (i : Int) (by omega) (by omega)
      have e2 := hL.2.2 (i + 1) (by omega)
      rw [← e2]
      unfold leC
      rw [e.1, e.2.1, e.2.2.1, e.2.2.2.1, e.2.2.2.2]
      rfl
    have hlt : L.tail.length = 59 := by rw [List.length_tail]; omega
    have hg6 := hT.1
    refine ⟨by omega, by omega, by omega, by omega, by omega, ⟨by omega, by omega⟩, HK _ (fun q a1 a2 a3 a4 a5 a6 => by rw [sth_ne a6, lc_q a1 a2 a3 a4 a5]; exact p1 q a1 a2 a3 a4 a5 a6) (fun i a => by rw [sth_eq, us_n a, lc_q (by decide) (by decide) (by decide) (by decide) (by decide)]; exact p2 i a) ?_⟩
    unfold adL
    rw [if_pos (by omega)]
    exact lgC_app hT (by omega) rfl
theorem us5 {f : Int → Int} {n e0 e1 e2 e3 e4 : Int} (j : Int) : (us (us (us (us (us f (5 * n) e0) (5 * n + 1) e1) (5 * n + 2) e2) (5 * n + 3) e3) (5 * n + 4) e4 (5 * j), us (us (us (us (us f (5 * n) e0) (5 * n + 1) e1) (5 * n + 2) e2) (5 * n + 3) e3) (5 * n + 4) e4 (5 * j + 1), us (us (us (us (us f (5 * n) e0) (5 * n + 1) e1) (5 * n + 2) e2) (5 * n + 3) e3) (5 * n + 4) e4 (5 * j + 2), us (us (us (us (us f (5 * n) e0) (5 * n + 1) e1) (5 * n + 2) e2) (5 * n + 3) e3) (5 * n + 4) e4 (5 * j + 3), us (us (us (us (us f (5 * n) e0) (5 * n + 1) e1) (5 * n + 2) e2) (5 * n + 3) e3) (5 * n + 4) e4 (5 * j + 4)) = if j = n then (e0, e1, e2, e3, e4) else (f (5 * j), f (5 * j + 1), f (5 * j + 2), f (5 * j + 3), f (5 * j + 4)) := by
  by_cases c : j = n
  · subst c
    rw [if_pos rfl, us_s, us_n (by omega), us_n (by omega), us_n (by omega), us_n (by omega), us_s, us_n (by omega), us_n (by omega), us_n (by omega), us_s, us_n (by omega), us_n (by omega), us_s, us_n (by omega), us_s]
  · rw [if_neg c]
    rw [us_n (show 5 * j ≠ 5 * n + 4 by omega), us_n (show 5 * j ≠ 5 * n + 3 by omega), us_n (show 5 * j ≠ 5 * n + 2 by omega), us_n (show 5 * j ≠ 5 * n + 1 by omega), us_n (show 5 * j ≠ 5 * n by omega)]
    rw [us_n (show 5 * j + 1 ≠ 5 * n + 4 by omega), us_n (show 5 * j + 1 ≠ 5 * n + 3 by omega), us_n (show 5 * j + 1 ≠ 5 * n + 2 by omega), us_n (show 5 * j + 1 ≠ 5 * n + 1 by omega), us_n (show 5 * j + 1 ≠ 5 * n by omega)]
    rw [us_n (show 5 * j + 2 ≠ 5 * n + 4 by omega), us_n (show 5 * j + 2 ≠ 5 * n + 3 by omega), us_n (show 5 * j + 2 ≠ 5 * n + 2 by omega), us_n (show 5 * j + 2 ≠ 5 * n + 1 by omega), us_n (show 5 * j + 2 ≠ 5 * n by omega)]
    rw [us_n (show 5 * j + 3 ≠ 5 * n + 4 by omega), us_n (show 5 * j + 3 ≠ 5 * n + 3 by omega), us_n (show 5 * j + 3 ≠ 5 * n + 2 by omega), us_n (show 5 * j + 3 ≠ 5 * n + 1 by omega), us_n (show 5 * j + 3 ≠ 5 * n by omega)]
    rw [us_n (show 5 * j + 4 ≠ 5 * n + 4 by omega), us_n (show 5 * j + 4 ≠ 5 * n + 3 by omega), us_n (show 5 * j + 4 ≠ 5 * n + 2 by omega), us_n (show 5 * j + 4 ≠ 5 * n + 1 by omega), us_n (show 5 * j + 4 ≠ 5 * n by omega)]
theorem lm_st {g : HP} {n e0 e1 e2 e3 e4 : Int} (j : Int) : leM (sth (sth (sth (sth (sth g 80 (5 * n) e0) 80 (5 * n + 1) e1) 80 (5 * n + 2) e2) 80 (5 * n + 3) e3) 80 (5 * n + 4) e4) j = if j = n then (e0, e1, e2, e3, e4) else leM g j := by
  unfold leM
  rw [sth_eq, sth_eq, sth_eq, sth_eq, sth_eq]
  exact us5 j
theorem leM_c {h g : HP} (a1 : g 80 = h 80) (j : Int) : leM g j = leM h j := by unfold leM; rw [a1]
theorem lm_q {g : HP} {p0 p1 p2 p3 p4 e0 e1 e2 e3 e4 : Int} {q : Nat} (a1 : q ≠ 80) : sth (sth (sth (sth (sth g 80 p0 e0) 80 p1 e1) 80 p2 e2) 80 p3 e3) 80 p4 e4 q = g q := by rw [sth_ne a1, sth_ne a1, sth_ne a1, sth_ne a1, sth_ne a1]
theorem lgM_app {g : HP} {L : List LE} {n m e0 e1 e2 e3 e4 : Int} (hL : ∀ i : Nat, i < L.length → leM g (i : Int) = L.getD i d0) (h6 : L.length < 60) (hn : n = (L.length : Int)) (hm : m = n + 1) : lgM (sth (sth (sth (sth (sth (sth g 80 (5 * n) e0) 80 (5 * n + 1) e1) 80 (5 * n + 2) e2) 80 (5 * n + 3) e3) 80 (5 * n + 4) e4) 55 36 m) (L ++ [(e0, e1, e2, e3, e4)]) := by
  refine ⟨by rw [sth_eq, us_s, List.length_append, List.length_singleton]; omega, by rw [List.length_append, List.length_singleton]; omega, fun i hi => ?_⟩
  rw [List.length_append, List.length_singleton] at hi
  rw [leM_c (h := sth (sth (sth (sth (sth g 80 (5 * n) e0) 80 (5 * n + 1) e1) 80 (5 * n + 2) e2) 80 (5 * n + 3) e3) 80 (5 * n + 4) e4) (sth_ne (by decide)), lm_st]
  by_cases e : i = L.length
  · rw [if_pos (by omega), gd_e e]
  · rw [if_neg (by omega), gd_l (by omega)]
    exact hL i (by omega)
def S_X9_log (t v : Int) (h : HP) (K : HP → Prop) : Prop := ∃ L : List LE, (lgM h L ∧ 0 ≤ h 55 8) ∧ ∀ h' : HP, (∀ q, q ≠ 80 → q ≠ 55 → h' q = h q) → (∀ i : Int, i ≠ 36 → h' 55 i = h 55 i) → lgM h' (adL L (h 55 21, h 55 8 / 24, h 55 8 % 24, t, v)) → K h'
set_option maxRecDepth 100000 in
set_option maxHeartbeats 4000000 in
theorem v_X9_log (w : WD) (t : Int) (v : Int) (h : HP) (K : HP → Prop) 
    (I1 : Nat → Int → HP → Prop)
    (H : ((¬ (h 55 36) = 60 → ((iR (5 * (h 55 36))) ∧ ((0 ≤ (5 * (h 55 36)) ∧ (5 * (h 55 36)) < 300) ∧ ((iR ((5 * (h 55 36)) + 1)) ∧ ((0 ≤ (h 55 8)) ∧ ((0 ≤ ((5 * (h 55 36)) + 1) ∧ ((5 * (h 55 36)) + 1) < 300) ∧ ((iR ((5 * (h 55 36)) + 2)) ∧ ((0 ≤ (h 55 8)) ∧ ((0 ≤ ((5 * (h 55 36)) + 2) ∧ ((5 * (h 55 36)) + 2) < 300) ∧ ((iR ((5 * (h 55 36)) + 3)) ∧ ((0 ≤ ((5 * (h 55 36)) + 3) ∧ ((5 * (h 55 36)) + 3) < 300) ∧ ((iR ((5 * (h 55 36)) + 4)) ∧ ((0 ≤ ((5 * (h 55 36)) + 4) ∧ ((5 * (h 55 36)) + 4) < 300) ∧ ((iR ((h 55 36) + 1)) ∧ K (sth (sth (sth (sth (sth (sth h 80 (5 * (h 55 36)) (h 55 21)) 80 ((5 * (h 55 36)) + 1) ((h 55 8) / 24)) 80 ((5 * (h 55 36)) + 2) ((h 55 8) % 24)) 80 ((5 * (h 55 36)) + 3) t) 80 ((5 * (h 55 36)) + 4) v) 55 36 ((h 55 36) + 1)))))))))))))))) ∧ ((h 55 36) = 60 → (∃ m : Nat, I1 m 0 h))))
    (H1 : ∀ (n1 : Nat) (x3 : Int) (g1 : HP), I1 n1 x3 g1 → ((295 ≤ x3 → ((iR (5 * 59)) ∧ (((0 : Int) ≤ (5 * 59) ∧ ((5 * 59) : Int) < 300) ∧ ((iR ((5 * 59) + 1)) ∧ ((0 ≤ (g1 55 8)) ∧ (((0 : Int) ≤ ((5 * 59) + 1) ∧ (((5 * 59) + 1) : Int) < 300) ∧ ((iR ((5 * 59) + 2)) ∧ ((0 ≤ (g1 55 8)) ∧ (((0 : Int) ≤ ((5 * 59) + 2) ∧ (((5 * 59) + 2) : Int) < 300) ∧ ((iR ((5 * 59) + 3)) ∧ (((0 : Int) ≤ ((5 * 59) + 3) ∧ (((5 * 59) + 3) : Int) < 300) ∧ ((iR ((5 * 59) + 4)) ∧ (((0 : Int) ≤ ((5 * 59) + 4) ∧ (((5 * 59) + 4) : Int) < 300) ∧ ((iR (59 + 1)) ∧ K (sth (sth (sth (sth (sth (sth (sth g1 55 36 59) 80 (5 * 59) (g1 55 21)) 80 ((5 * 59) + 1) ((g1 55 8) / 24)) 80 ((5 * 59) + 2) ((g1 55 8) % 24)) 80 ((5 * 59) + 3) t) 80 ((5 * 59) + 4) v) 55 36 (59 + 1)))))))))))))))) ∧ (¬ 295 ≤ x3 → ((iR (x3 + 5)) ∧ ((0 ≤ (x3 + 5) ∧ (x3 + 5) < 300) ∧ ((0 ≤ x3 ∧ x3 < 300) ∧ ((iR (x3 + 1)) ∧ (∃ m : Nat, m < n1 ∧ I1 m (x3 + 1) (sth g1 80 x3 (g1 80 (x3 + 5))))))))))) :
    Ev w Y_X9_log 0 [some (vR 55), some (vI t), some (vI v), none] [] h (rV K) := by
  have L1 : ∀ (n1 : Nat) (x3 : Int) (g1 : HP), I1 n1 x3 g1 → Ev w Y_X9_log 11 [some (vR 55), some (vI t), some (vI v), some (vI x3)] [] g1 (rV K) := by
    intro n1
    induction n1 using Nat.strongRecOn with
    | ind n1 ih1 =>
      intro x3 g1 H
      have H := H1 n1 x3 g1 H
      refine e_iload_n (pc := 11) dX9_log_11 rfl rfl ?_
      refine e_sipush (pc := 12) dX9_log_12 ⟨by decide, by decide⟩ (by decide) ?_
      refine e_icmp_ge (pc := 15) (tgt := 38) dX9_log_15 (by decide) (fun c2 => ?_) (fun c2 => ?_)
      · have H := H.1 c2
        refine e_aload_n (pc := 38) dX9_log_38 rfl rfl ?_
        refine e_bipush (pc := 39) dX9_log_39 ⟨by decide, by decide⟩ (by decide) ?_
        refine e_put (q := 55) (ci := 9) (k := 36) (kz := 36) (C := RX9) (T := TX9) (N := 52) (ty := .int) (pc := 41) dX9_log_41 rfl rfl rfl ev_in9 tyX9 tyX9_ok nmX9 rfl ul_4_218 ⟨rfl, by decide⟩ rfl (tyX9_ok 36 (by decide)) (Or.inl rfl) ?_
        refine e_iconst (pc := 44) dX9_log_44 ⟨by decide, by decide⟩ ?_
        refine e_aload_n (pc := 45) dX9_log_45 rfl rfl ?_
        refine e_getI (q := 55) (ci := 9) (k := 36) (kz := 36) (C := RX9) (T := TX9) (N := 52) (x := 59) (pc := 46) dX9_log_46 rfl rfl rfl ev_in9 rfl ul_4_218 ⟨rfl, by decide⟩ rfl ?_
        refine e_imul (pc := 49) dX9_log_49 H.1 ?_
        have H := H.2
        refine e_istore_n (lv' := [some (vR 55), some (vI t), some (vI v), some (vI (5 * 59))]) (pc := 50) dX9_log_50 rfl rfl rfl ?_
        refine e_aload_n (pc := 51) dX9_log_51 rfl rfl ?_
        refine e_getR (q := 55) (ci := 9) (k := 37) (y := 80) (C := RX9) (T := TX9) (N := 52) (pc := 52) dX9_log_52 rfl rfl ev_in9 rfl ul_4_219 ⟨rfl, rfl⟩ rfl ?_
        refine e_iload_n (pc := 55) dX9_log_55 rfl rfl ?_
        refine e_aload_n (pc := 56) dX9_log_56 rfl rfl ?_
        refine e_getI (q := 55) (ci := 9) (k := 21) (kz := 21) (C := RX9) (T := TX9) (N := 52) (x := (g1 55 21)) (pc := 57) dX9_log_57 rfl rfl rfl ev_in9 rfl ul_4_203 ⟨rfl, by decide⟩ rfl ?_
        refine e_iast (q := 80) (pc := 60) dX9_log_60 rfl H.1 ?_
        have H := H.2
        refine e_aload_n (pc := 61) dX9_log_61 rfl rfl ?_
        refine e_getR (q := 55) (ci := 9) (k := 37) (y := 80) (C := RX9) (T := TX9) (N := 52) (pc := 62) dX9_log_62 rfl rfl ev_in9 rfl ul_4_219 ⟨rfl, rfl⟩ rfl ?_
        refine e_iload_n (pc := 65) dX9_log_65 rfl rfl ?_
        refine e_iconst (pc := 66) dX9_log_66 ⟨by decide, by decide⟩ ?_
        refine e_iadd (pc := 67) dX9_log_67 H.1 ?_
        have H := H.2
        refine e_aload_n (pc := 68) dX9_log_68 rfl rfl ?_
        refine e_getI (q := 55) (ci := 9) (k := 8) (kz := 8) (C := RX9) (T := TX9) (N := 52) (x := (g1 55 8)) (pc := 69) dX9_log_69 rfl rfl rfl ev_in9 rfl ul_4_190 ⟨rfl, by decide⟩ rfl ?_
        refine e_bipush (pc := 72) dX9_log_72 ⟨by decide, by decide⟩ (by decide) ?_
        refine e_idiv (pc := 74) dX9_log_74 ⟨H.1, by decide⟩ ?_
        have H := H.2
        refine e_iast (q := 80) (pc := 75) dX9_log_75 rfl H.1 ?_
        have H := H.2
        refine e_aload_n (pc := 76) dX9_log_76 rfl rfl ?_
        refine e_getR (q := 55) (ci := 9) (k := 37) (y := 80) (C := RX9) (T := TX9) (N := 52) (pc := 77) dX9_log_77 rfl rfl ev_in9 rfl ul_4_219 ⟨rfl, rfl⟩ rfl ?_
        refine e_iload_n (pc := 80) dX9_log_80 rfl rfl ?_
        refine e_iconst (pc := 81) dX9_log_81 ⟨by decide, by decide⟩ ?_
        refine e_iadd (pc := 82) dX9_log_82 H.1 ?_
        have H := H.2
        refine e_aload_n (pc := 83) dX9_log_83 rfl rfl ?_
        refine e_getI (q := 55) (ci := 9) (k := 8) (kz := 8) (C := RX9) (T := TX9) (N := 52) (x := (g1 55 8)) (pc := 84) dX9_log_84 rfl rfl rfl ev_in9 rfl ul_4_190 ⟨rfl, by decide⟩ rfl ?_
        refine e_bipush (pc := 87) dX9_log_87 ⟨by decide, by decide⟩ (by decide) ?_
        refine e_irem (pc := 89) dX9_log_89 ⟨H.1, by decide⟩ ?_
        have H := H.2
        refine e_iast (q := 80) (pc := 90) dX9_log_90 rfl H.1 ?_
        have H := H.2
        refine e_aload_n (pc := 91) dX9_log_91 rfl rfl ?_
        refine e_getR (q := 55) (ci := 9) (k := 37) (y := 80) (C := RX9) (T := TX9) (N := 52) (pc := 92) dX9_log_92 rfl rfl ev_in9 rfl ul_4_219 ⟨rfl, rfl⟩ rfl ?_
        refine e_iload_n (pc := 95) dX9_log_95 rfl rfl ?_
        refine e_iconst (pc := 96) dX9_log_96 ⟨by decide, by decide⟩ ?_
        refine e_iadd (pc := 97) dX9_log_97 H.1 ?_
        have H := H.2
        refine e_iload_n (pc := 98) dX9_log_98 rfl rfl ?_
        refine e_iast (q := 80) (pc := 99) dX9_log_99 rfl H.1 ?_
        have H := H.2
        refine e_aload_n (pc := 100) dX9_log_100 rfl rfl ?_
        refine e_getR (q := 55) (ci := 9) (k := 37) (y := 80) (C := RX9) (T := TX9) (N := 52) (pc := 101) dX9_log_101 rfl rfl ev_in9 rfl ul_4_219 ⟨rfl, rfl⟩ rfl ?_
        refine e_iload_n (pc := 104) dX9_log_104 rfl rfl ?_
        refine e_iconst (pc := 105) dX9_log_105 ⟨by decide, by decide⟩ ?_
        refine e_iadd (pc := 106) dX9_log_106 H.1 ?_
        have H := H.2
        refine e_iload_n (pc := 107) dX9_log_107 rfl rfl ?_
        refine e_iast (q := 80) (pc := 108) dX9_log_108 rfl H.1 ?_
        have H := H.2
        refine e_aload_n (pc := 109) dX9_log_109 rfl rfl ?_
        refine e_dup (pc := 110) dX9_log_110 rfl ?_
        refine e_getI (q := 55) (ci := 9) (k := 36) (kz := 36) (C := RX9) (T := TX9) (N := 52) (x := 59) (pc := 111) dX9_log_111 rfl rfl rfl ev_in9 rfl ul_4_218 ⟨rfl, by decide⟩ rfl ?_
        refine e_iconst (pc := 114) dX9_log_114 ⟨by decide, by decide⟩ ?_
        refine e_iadd (pc := 115) dX9_log_115 H.1 ?_
        have H := H.2
        refine e_put (q := 55) (ci := 9) (k := 36) (kz := 36) (C := RX9) (T := TX9) (N := 52) (ty := .int) (pc := 116) dX9_log_116 rfl rfl rfl ev_in9 tyX9 tyX9_ok nmX9 rfl ul_4_218 ⟨rfl, by decide⟩ rfl (tyX9_ok 36 (by decide)) (Or.inl rfl) ?_
        exact e_ret (pc := 119) (v := none) dX9_log_119 rfl trivial ⟨rfl, H⟩
      · have H := H.2 c2
        refine e_aload_n (pc := 18) dX9_log_18 rfl rfl ?_
        refine e_getR (q := 55) (ci := 9) (k := 37) (y := 80) (C := RX9) (T := TX9) (N := 52) (pc := 19) dX9_log_19 rfl rfl ev_in9 rfl ul_4_219 ⟨rfl, rfl⟩ rfl ?_
        refine e_iload_n (pc := 22) dX9_log_22 rfl rfl ?_
        refine e_aload_n (pc := 23) dX9_log_23 rfl rfl ?_
        refine e_getR (q := 55) (ci := 9) (k := 37) (y := 80) (C := RX9) (T := TX9) (N := 52) (pc := 24) dX9_log_24 rfl rfl ev_in9 rfl ul_4_219 ⟨rfl, rfl⟩ rfl ?_
        refine e_iload_n (pc := 27) dX9_log_27 rfl rfl ?_
        refine e_iconst (pc := 28) dX9_log_28 ⟨by decide, by decide⟩ ?_
        refine e_iadd (pc := 29) dX9_log_29 H.1 ?_
        have H := H.2
        refine e_iald (q := 80) (x := (g1 80 (x3 + 5))) (pc := 30) dX9_log_30 rfl H.1 rfl ?_
        have H := H.2
        refine e_iast (q := 80) (pc := 31) dX9_log_31 rfl H.1 ?_
        have H := H.2
        refine e_iinc (lv' := [some (vR 55), some (vI t), some (vI v), some (vI (x3 + 1))]) (pc := 32) dX9_log_32 rfl H.1 rfl rfl ?_
        have H := H.2
        refine e_goto (pc := 35) (tgt := 11) dX9_log_35 (by decide) ?_
        obtain ⟨m, hm, H⟩ := H
        exact ih1 m hm _ _ H
  refine e_aload_n (pc := 0) dX9_log_0 rfl rfl ?_
  refine e_getI (q := 55) (ci := 9) (k := 36) (kz := 36) (C := RX9) (T := TX9) (N := 52) (x := (h 55 36)) (pc := 1) dX9_log_1 rfl rfl rfl ev_in9 rfl ul_4_218 ⟨rfl, by decide⟩ rfl ?_
  refine e_bipush (pc := 4) dX9_log_4 ⟨by decide, by decide⟩ (by decide) ?_
  refine e_icmp_ne (pc := 6) (tgt := 44) dX9_log_6 (by decide) (fun c1 => ?_) (fun c1 => ?_)
  · have H := H.1 c1
    refine e_iconst (pc := 44) dX9_log_44 ⟨by decide, by decide⟩ ?_
    refine e_aload_n (pc := 45) dX9_log_45 rfl rfl ?_
    refine e_getI (q := 55) (ci := 9) (k := 36) (kz := 36) (C := RX9) (T := TX9) (N := 52) (x := (h 55 36)) (pc := 46) dX9_log_46 rfl rfl rfl ev_in9 rfl ul_4_218 ⟨rfl, by decide⟩ rfl ?_
    refine e_imul (pc := 49) dX9_log_49 H.1 ?_
    have H := H.2
    refine e_istore_n (lv' := [some (vR 55), some (vI t), some (vI v), some (vI (5 * (h 55 36)))]) (pc := 50) dX9_log_50 rfl rfl rfl ?_
    refine e_aload_n (pc := 51) dX9_log_51 rfl rfl ?_
    refine e_getR (q := 55) (ci := 9) (k := 37) (y := 80) (C := RX9) (T := TX9) (N := 52) (pc := 52) dX9_log_52 rfl rfl ev_in9 rfl ul_4_219 ⟨rfl, rfl⟩ rfl ?_
    refine e_iload_n (pc := 55) dX9_log_55 rfl rfl ?_
    refine e_aload_n (pc := 56) dX9_log_56 rfl rfl ?_
    refine e_getI (q := 55) (ci := 9) (k := 21) (kz := 21) (C := RX9) (T := TX9) (N := 52) (x := (h 55 21)) (pc := 57) dX9_log_57 rfl rfl rfl ev_in9 rfl ul_4_203 ⟨rfl, by decide⟩ rfl ?_
    refine e_iast (q := 80) (pc := 60) dX9_log_60 rfl H.1 ?_
    have H := H.2
    refine e_aload_n (pc := 61) dX9_log_61 rfl rfl ?_
    refine e_getR (q := 55) (ci := 9) (k := 37) (y := 80) (C := RX9) (T := TX9) (N := 52) (pc := 62) dX9_log_62 rfl rfl ev_in9 rfl ul_4_219 ⟨rfl, rfl⟩ rfl ?_
    refine e_iload_n (pc := 65) dX9_log_65 rfl rfl ?_
    refine e_iconst (pc := 66) dX9_log_66 ⟨by decide, by decide⟩ ?_
    refine e_iadd (pc := 67) dX9_log_67 H.1 ?_
    have H := H.2
    refine e_aload_n (pc := 68) dX9_log_68 rfl rfl ?_
    refine e_getI (q := 55) (ci := 9) (k := 8) (kz := 8) (C := RX9) (T := TX9) (N := 52) (x := (h 55 8)) (pc := 69) dX9_log_69 rfl rfl rfl ev_in9 rfl ul_4_190 ⟨rfl, by decide⟩ rfl ?_
    refine e_bipush (pc := 72) dX9_log_72 ⟨by decide, by decide⟩ (by decide) ?_
    refine e_idiv (pc := 74) dX9_log_74 ⟨H.1, by decide⟩ ?_
    have H := H.2
    refine e_iast (q := 80) (pc := 75) dX9_log_75 rfl H.1 ?_
    have H := H.2
    refine e_aload_n (pc := 76) dX9_log_76 rfl rfl ?_
    refine e_getR (q := 55) (ci := 9) (k := 37) (y := 80) (C := RX9) (T := TX9) (N := 52) (pc := 77) dX9_log_77 rfl rfl ev_in9 rfl ul_4_219 ⟨rfl, rfl⟩ rfl ?_
    refine e_iload_n (pc := 80) dX9_log_80 rfl rfl ?_
    refine e_iconst (pc := 81) dX9_log_81 ⟨by decide, by decide⟩ ?_
    refine e_iadd (pc := 82) dX9_log_82 H.1 ?_
    have H := H.2
    refine e_aload_n (pc := 83) dX9_log_83 rfl rfl ?_
    refine e_getI (q := 55) (ci := 9) (k := 8) (kz := 8) (C := RX9) (T := TX9) (N := 52) (x := (h 55 8)) (pc := 84) dX9_log_84 rfl rfl rfl ev_in9 rfl ul_4_190 ⟨rfl, by decide⟩ rfl ?_
    refine e_bipush (pc := 87) dX9_log_87 ⟨by decide, by decide⟩ (by decide) ?_
    refine e_irem (pc := 89) dX9_log_89 ⟨H.1, by decide⟩ ?_
    have H := H.2
    refine e_iast (q := 80) (pc := 90) dX9_log_90 rfl H.1 ?_
    have H := H.2
    refine e_aload_n (pc := 91) dX9_log_91 rfl rfl ?_
    refine e_getR (q := 55) (ci := 9) (k := 37) (y := 80) (C := RX9) (T := TX9) (N := 52) (pc := 92) dX9_log_92 rfl rfl ev_in9 rfl ul_4_219 ⟨rfl, rfl⟩ rfl ?_
    refine e_iload_n (pc := 95) dX9_log_95 rfl rfl ?_
    refine e_iconst (pc := 96) dX9_log_96 ⟨by decide, by decide⟩ ?_
    refine e_iadd (pc := 97) dX9_log_97 H.1 ?_
    have H := H.2
    refine e_iload_n (pc := 98) dX9_log_98 rfl rfl ?_
    refine e_iast (q := 80) (pc := 99) dX9_log_99 rfl H.1 ?_
    have H := H.2
    refine e_aload_n (pc := 100) dX9_log_100 rfl rfl ?_
    refine e_getR (q := 55) (ci := 9) (k := 37) (y := 80) (C := RX9) (T := TX9) (N := 52) (pc := 101) dX9_log_101 rfl rfl ev_in9 rfl ul_4_219 ⟨rfl, rfl⟩ rfl ?_
    refine e_iload_n (pc := 104) dX9_log_104 rfl rfl ?_
    refine e_iconst (pc := 105) dX9_log_105 ⟨by decide, by decide⟩ ?_
    refine e_iadd (pc := 106) dX9_log_106 H.1 ?_
    have H := H.2
    refine e_iload_n (pc := 107) dX9_log_107 rfl rfl ?_
    refine e_iast (q := 80) (pc := 108) dX9_log_108 rfl H.1 ?_
    have H := H.2
    refine e_aload_n (pc := 109) dX9_log_109 rfl rfl ?_
    refine e_dup (pc := 110) dX9_log_110 rfl ?_
    refine e_getI (q := 55) (ci := 9) (k := 36) (kz := 36) (C := RX9) (T := TX9) (N := 52) (x := (h 55 36)) (pc := 111) dX9_log_111 rfl rfl rfl ev_in9 rfl ul_4_218 ⟨rfl, by decide⟩ rfl ?_
    refine e_iconst (pc := 114) dX9_log_114 ⟨by decide, by decide⟩ ?_
    refine e_iadd (pc := 115) dX9_log_115 H.1 ?_
    have H := H.2
    refine e_put (q := 55) (ci := 9) (k := 36) (kz := 36) (C := RX9) (T := TX9) (N := 52) (ty := .int) (pc := 116) dX9_log_116 rfl rfl rfl ev_in9 tyX9 tyX9_ok nmX9 rfl ul_4_218 ⟨rfl, by decide⟩ rfl (tyX9_ok 36 (by decide)) (Or.inl rfl) ?_
    exact e_ret (pc := 119) (v := none) dX9_log_119 rfl trivial ⟨rfl, H⟩
  · have H := H.2 c1
    refine e_iconst (pc := 9) dX9_log_9 ⟨by decide, by decide⟩ ?_
    refine e_istore_n (lv' := [some (vR 55), some (vI t), some (vI v), some (vI 0)]) (pc := 10) dX9_log_10 rfl rfl rfl ?_
    obtain ⟨m, H⟩ := H
    exact L1 m _ _ H
set_option maxRecDepth 100000 in
set_option maxHeartbeats 4000000 in
theorem c_X9_log (w : WD) (t : Int) (v : Int) (h : HP) (K : HP → Prop)  (H : S_X9_log t v h K) : Ev w Y_X9_log 0 [some (vR 55), some (vI t), some (vI v), none] [] h (rV K) := by
  obtain ⟨L, ⟨hL, h8⟩, HK⟩ := H
  have h1 := hL.1
  have h2 := hL.2.1
  refine v_X9_log w t v h K (fun n x3 g => h 55 36 = 60 ∧ (0 ≤ x3 ∧ x3 ≤ 295) ∧ n = (295 - x3).toNat ∧ (∀ q, q ≠ 80 → g q = h q) ∧ (∀ j : Int, 0 ≤ j → j < x3 → g 80 j = h 80 (j + 5)) ∧ ∀ j : Int, x3 ≤ j → g 80 j = h 80 j) ⟨fun c => ⟨⟨by omega, by omega⟩, by omega, ⟨by omega, by omega⟩, h8, by omega, ⟨by omega, by omega⟩, h8, by omega, ⟨by omega, by omega⟩, by omega, ⟨by omega, by omega⟩, by omega, ⟨by omega, by omega⟩, ?_⟩, fun c => ⟨295, c, by omega, rfl, fun _ _ => rfl, fun j a b => by omega, fun _ _ => rfl⟩⟩ ?_
  · refine HK _ (fun q a b => by rw [sth_ne b, lm_q a]) (fun i a => by rw [sth_eq, us_n a, lm_q (by decide)]) ?_
    unfold adL
    rw [if_neg (by omega)]
    exact lgM_app hL.2.2 (by omega) h1 rfl
  · rintro n x3 g ⟨h60, h0, rfl, hg, hl, hr⟩
    have g55 : g 55 = h 55 := hg 55 (by decide)
    rw [g55]
    refine ⟨fun c => ⟨⟨by omega, by omega⟩, by omega, ⟨by omega, by omega⟩, h8, by omega, ⟨by omega, by omega⟩, h8, by omega, ⟨by omega, by omega⟩, by omega, ⟨by omega, by omega⟩, by omega, ⟨by omega, by omega⟩, ?_⟩, fun c => ⟨⟨by omega, by omega⟩, by omega, by omega, ⟨by omega, by omega⟩, (295 - (x3 + 1)).toNat, by omega, h60, by omega, rfl, fun q a => by rw [sth_ne a]; exact hg q a, fun j a b => ?_, fun j a => ?_⟩⟩
    · refine HK _ (fun q a b => by rw [sth_ne b, lm_q a, sth_ne b]; exact hg q a) (fun i a => by rw [sth_eq, us_n a, lm_q (by decide), sth_eq, us_n a, g55]) ?_
      unfold adL
      rw [if_pos (by omega)]
      refine lgM_app (fun i hi => ?_) (by rw [List.length_tail]; omega) (by rw [List.length_tail]; omega) rfl
      rw [List.length_tail] at hi
      rw [gd_t, ← hL.2.2 (i + 1) (by omega), leM_c (h := g) (sth_ne (by decide))]
      unfold leM
      rw [hl _ (by omega) (by omega), hl _ (by omega) (by omega), hl _ (by omega) (by omega), hl _ (by omega) (by omega), hl _ (by omega) (by omega)]
      rw [show 5 * ((i + 1 : Nat) : Int) = 5 * (i : Int) + 5 by omega]
      rw [show 5 * (i : Int) + 1 + 5 = 5 * (i : Int) + 5 + 1 by omega, show 5 * (i : Int) + 2 + 5 = 5 * (i : Int) + 5 + 2 by omega, show 5 * (i : Int) + 3 + 5 = 5 * (i : Int) + 5 + 3 by omega, show 5 * (i : Int) + 4 + 5 = 5 * (i : Int) + 5 + 4 by omega]
    · rw [sth_eq]
      by_cases e : j = x3
      · rw [e, us_s, hr _ (by omega)]
      · rw [us_n e]; exact hl j a (by omega)
    · rw [sth_eq, us_n (by omega)]
      exact hr j (by omega)
def S_X9_forget (fo : Int) (h : HP) (K : Int → HP → Prop) : Prop := (¬ (0 ≤ fo ∧ fo ≤ 5) → K (-1) h) ∧ ((0 ≤ fo ∧ fo ≤ 5) → ∃ L : List LE, (lgM h L ∧ (0 ≤ h 55 38 ∧ h 55 38 ≤ 2000000000)) ∧ ∀ h' : HP, (∀ q, q ≠ 80 → q ≠ 55 → h' q = h q) → (∀ i : Int, i ≠ 36 → i ≠ 38 → h' 55 i = h 55 i) → lgM h' (dF fo L) → h' 55 38 = h 55 38 + ((L.length : Int) - ((dF fo L).length : Int)) → K ((L.length : Int) - ((dF fo L).length : Int)) h')
set_option maxRecDepth 100000 in
set_option maxHeartbeats 4000000 in
theorem v_X9_forget (w : WD) (fo : Int) (h : HP) (K : Int → HP → Prop) 
    (I1 : Nat → Int → Int → HP → Prop)
    (I2 : Nat → Nat → Int → Int → Int → Int → HP → Prop)
    (H : (((0 ≤ fo ∧ fo ≤ 5) → (∃ m : Nat, I1 m 0 0 h)) ∧ (¬ (0 ≤ fo ∧ fo ≤ 5) → K (-1) h)))
    (H1 : ∀ (n1 : Nat) (x2 : Int) (x3 : Int) (g1 : HP), I1 n1 x2 x3 g1 → (((g1 55 36) ≤ x3 → ((iR ((g1 55 36) - x2)) ∧ ((iR ((g1 55 38) + ((g1 55 36) - x2))) ∧ K ((g1 55 36) - x2) (sth (sth g1 55 36 x2) 55 38 ((g1 55 38) + ((g1 55 36) - x2)))))) ∧ (¬ (g1 55 36) ≤ x3 → ((iR (5 * x3)) ∧ ((0 ≤ (5 * x3) ∧ (5 * x3) < 300) ∧ (∃ m : Nat, I2 n1 m x2 x3 (b2i (¬ (g1 80 (5 * x3)) = fo)) 0 g1))))))
    (H2 : ∀ (n1 : Nat) (n2 : Nat) (x2 : Int) (x3 : Int) (x4 : Int) (x5 : Int) (g2 : HP), I2 n1 n2 x2 x3 x4 x5 g2 → ((((5 ≤ x5) ∨ (x4 = 0)) → ((iR (x2 + (b2i (¬ x4 = 0)))) ∧ ((iR (x3 + 1)) ∧ (∃ m : Nat, m < n1 ∧ I1 m (x2 + (b2i (¬ x4 = 0))) (x3 + 1) g2)))) ∧ (¬ ((5 ≤ x5) ∨ (x4 = 0)) → ((iR (5 * x2)) ∧ ((iR ((5 * x2) + x5)) ∧ ((iR (5 * x3)) ∧ ((iR ((5 * x3) + x5)) ∧ ((0 ≤ ((5 * x3) + x5) ∧ ((5 * x3) + x5) < 300) ∧ ((0 ≤ ((5 * x2) + x5) ∧ ((5 * x2) + x5) < 300) ∧ ((iR (x5 + 1)) ∧ (∃ m : Nat, m < n2 ∧ I2 n1 m x2 x3 x4 (x5 + 1) (sth g2 80 ((5 * x2) + x5) (g2 80 ((5 * x3) + x5)))))))))))))) :
    Ev w Y_X9_forget 0 [some (vR 55), some (vI fo), none, none, none, none] [] h (rI K) := by
  have L1 : ∀ (n1 : Nat) (x2 : Int) (x3 : Int) (g1 : HP), I1 n1 x2 x3 g1 → Ev w Y_X9_forget 18 [some (vR 55), some (vI fo), some (vI x2), some (vI x3), none, none] [] g1 (rI K) := by
    intro n1
    induction n1 using Nat.strongRecOn with
    | ind n1 ih1 =>
      have L2 : ∀ (n2 : Nat) (x2 : Int) (x3 : Int) (x4 : Int) (x5 : Int) (g2 : HP), I2 n1 n2 x2 x3 x4 x5 g2 → Ev w Y_X9_forget 48 [some (vR 55), some (vI fo), some (vI x2), some (vI x3), some (vI x4), some (vI x5)] [] g2 (rI K) := by
        intro n2
        induction n2 using Nat.strongRecOn with
        | ind n2 ih2 =>
          intro x2 x3 x4 x5 g2 H
          have H := H2 n1 n2 x2 x3 x4 x5 g2 H
          refine e_iload (pc := 48) dX9_forget_48 rfl ?_
          refine e_iconst (pc := 50) dX9_forget_50 ⟨by decide, by decide⟩ ?_
          have J1 : ((5 ≤ x5) ∨ (x4 = 0)) → Ev w Y_X9_forget 87 [some (vR 55), some (vI fo), some (vI x2), some (vI x3), some (vI x4), some (vI x5)] [] g2 (rI K) := by
            intro hp
            have H := H.1 hp
            refine e_iload_n (pc := 87) dX9_forget_87 rfl rfl ?_
            refine e_iload (pc := 88) dX9_forget_88 rfl ?_
            have J : Ev w Y_X9_forget 98 [some (vR 55), some (vI fo), some (vI x2), some (vI x3), some (vI x4), some (vI x5)] [vI (b2i (¬ x4 = 0)), vI x2] g2 (rI K) := by
              refine e_iadd (pc := 98) dX9_forget_98 H.1 ?_
              have H := H.2
              refine e_istore_n (lv' := [some (vR 55), some (vI fo), some (vI (x2 + (b2i (¬ x4 = 0)))), some (vI x3), some (vI x4), some (vI x5)]) (pc := 99) dX9_forget_99 rfl rfl rfl ?_
              refine e_iinc (lv' := [some (vR 55), some (vI fo), some (vI (x2 + (b2i (¬ x4 = 0)))), some (vI (x3 + 1)), some (vI x4), some (vI x5)]) (pc := 100) dX9_forget_100 rfl H.1 rfl rfl ?_
              have H := H.2
              refine e_goto (pc := 103) (tgt := 18) dX9_forget_103 (by decide) ?_
              refine e_mask [true, true, true, true, false, false] rfl ?_
              obtain ⟨m, hm, H⟩ := H
              exact ih1 m hm _ _ _ H
            refine e_if_eq (pc := 90) (tgt := 97) dX9_forget_90 (by decide) (fun c4 => ?_) (fun c4 => ?_)
            · refine e_iconst (pc := 97) dX9_forget_97 ⟨by decide, by decide⟩ ?_
              exact e_top (b2i_f (fun z => z c4)) J
            · refine e_iconst (pc := 93) dX9_forget_93 ⟨by decide, by decide⟩ ?_
              refine e_goto (pc := 94) (tgt := 98) dX9_forget_94 (by decide) ?_
              exact e_top (b2i_t c4) J
          have J2 : ¬ ((5 ≤ x5) ∨ (x4 = 0)) → Ev w Y_X9_forget 59 [some (vR 55), some (vI fo), some (vI x2), some (vI x3), some (vI x4), some (vI x5)] [] g2 (rI K) := by
            intro hp
            have H := H.2 hp
            refine e_aload_n (pc := 59) dX9_forget_59 rfl rfl ?_
            refine e_getR (q := 55) (ci := 9) (k := 37) (y := 80) (C := RX9) (T := TX9) (N := 52) (pc := 60) dX9_forget_60 rfl rfl ev_in9 rfl ul_4_219 ⟨rfl, rfl⟩ rfl ?_
            refine e_iconst (pc := 63) dX9_forget_63 ⟨by decide, by decide⟩ ?_
            refine e_iload_n (pc := 64) dX9_forget_64 rfl rfl ?_
            refine e_imul (pc := 65) dX9_forget_65 H.1 ?_
            have H := H.2
            refine e_iload (pc := 66) dX9_forget_66 rfl ?_
            refine e_iadd (pc := 68) dX9_forget_68 H.1 ?_
            have H := H.2
            refine e_aload_n (pc := 69) dX9_forget_69 rfl rfl ?_
            refine e_getR (q := 55) (ci := 9) (k := 37) (y := 80) (C := RX9) (T := TX9) (N := 52) (pc := 70) dX9_forget_70 rfl rfl ev_in9 rfl ul_4_219 ⟨rfl, rfl⟩ rfl ?_
            refine e_iconst (pc := 73) dX9_forget_73 ⟨by decide, by decide⟩ ?_
            refine e_iload_n (pc := 74) dX9_forget_74 rfl rfl ?_
            refine e_imul (pc := 75) dX9_forget_75 H.1 ?_
            have H := H.2
            refine e_iload (pc := 76) dX9_forget_76 rfl ?_
            refine e_iadd (pc := 78) dX9_forget_78 H.1 ?_
            have H := H.2
            refine e_iald (q := 80) (x := (g2 80 ((5 * x3) + x5))) (pc := 79) dX9_forget_79 rfl H.1 rfl ?_
            have H := H.2
            refine e_iast (q := 80) (pc := 80) dX9_forget_80 rfl H.1 ?_
            have H := H.2
            refine e_iinc (lv' := [some (vR 55), some (vI fo), some (vI x2), some (vI x3), some (vI x4), some (vI (x5 + 1))]) (pc := 81) dX9_forget_81 rfl H.1 rfl rfl ?_
            have H := H.2
            refine e_goto (pc := 84) (tgt := 48) dX9_forget_84 (by decide) ?_
            obtain ⟨m, hm, H⟩ := H
            exact ih2 m hm _ _ _ _ _ H
          refine e_icmp_ge (pc := 51) (tgt := 87) dX9_forget_51 (by decide) (fun c5 => ?_) (fun c5 => ?_)
          · exact J1 (Or.inl c5)
          · refine e_iload (pc := 54) dX9_forget_54 rfl ?_
            refine e_if_eq (pc := 56) (tgt := 87) dX9_forget_56 (by decide) (fun c6 => ?_) (fun c6 => ?_)
            · exact J1 (Or.inr c6)
            · exact J2 (fun z => z.elim c5 c6)
      intro x2 x3 g1 H
      have H := H1 n1 x2 x3 g1 H
      refine e_iload_n (pc := 18) dX9_forget_18 rfl rfl ?_
      refine e_aload_n (pc := 19) dX9_forget_19 rfl rfl ?_
      refine e_getI (q := 55) (ci := 9) (k := 36) (kz := 36) (C := RX9) (T := TX9) (N := 52) (x := (g1 55 36)) (pc := 20) dX9_forget_20 rfl rfl rfl ev_in9 rfl ul_4_218 ⟨rfl, by decide⟩ rfl ?_
      refine e_icmp_ge (pc := 23) (tgt := 106) dX9_forget_23 (by decide) (fun c2 => ?_) (fun c2 => ?_)
      · have H := H.1 c2
        refine e_aload_n (pc := 106) dX9_forget_106 rfl rfl ?_
        refine e_getI (q := 55) (ci := 9) (k := 36) (kz := 36) (C := RX9) (T := TX9) (N := 52) (x := (g1 55 36)) (pc := 107) dX9_forget_107 rfl rfl rfl ev_in9 rfl ul_4_218 ⟨rfl, by decide⟩ rfl ?_
        refine e_iload_n (pc := 110) dX9_forget_110 rfl rfl ?_
        refine e_isub (pc := 111) dX9_forget_111 H.1 ?_
        have H := H.2
        refine e_istore_n (lv' := [some (vR 55), some (vI fo), some (vI x2), some (vI ((g1 55 36) - x2)), none, none]) (pc := 112) dX9_forget_112 rfl rfl rfl ?_
        refine e_aload_n (pc := 113) dX9_forget_113 rfl rfl ?_
        refine e_iload_n (pc := 114) dX9_forget_114 rfl rfl ?_
        refine e_put (q := 55) (ci := 9) (k := 36) (kz := 36) (C := RX9) (T := TX9) (N := 52) (ty := .int) (pc := 115) dX9_forget_115 rfl rfl rfl ev_in9 tyX9 tyX9_ok nmX9 rfl ul_4_218 ⟨rfl, by decide⟩ rfl (tyX9_ok 36 (by decide)) (Or.inl rfl) ?_
        refine e_aload_n (pc := 118) dX9_forget_118 rfl rfl ?_
        refine e_dup (pc := 119) dX9_forget_119 rfl ?_
        refine e_getI (q := 55) (ci := 9) (k := 38) (kz := 38) (C := RX9) (T := TX9) (N := 52) (x := (g1 55 38)) (pc := 120) dX9_forget_120 rfl rfl rfl ev_in9 rfl ul_4_220 ⟨rfl, by decide⟩ rfl ?_
        refine e_iload_n (pc := 123) dX9_forget_123 rfl rfl ?_
        refine e_iadd (pc := 124) dX9_forget_124 H.1 ?_
        have H := H.2
        refine e_put (q := 55) (ci := 9) (k := 38) (kz := 38) (C := RX9) (T := TX9) (N := 52) (ty := .int) (pc := 125) dX9_forget_125 rfl rfl rfl ev_in9 tyX9 tyX9_ok nmX9 rfl ul_4_220 ⟨rfl, by decide⟩ rfl (tyX9_ok 38 (by decide)) (Or.inl rfl) ?_
        refine e_iload_n (pc := 128) dX9_forget_128 rfl rfl ?_
        exact e_ret (pc := 129) (v := some (vI ((g1 55 36) - x2))) dX9_forget_129 rfl trivial ⟨_, rfl, H⟩
      · have H := H.2 c2
        refine e_aload_n (pc := 26) dX9_forget_26 rfl rfl ?_
        refine e_getR (q := 55) (ci := 9) (k := 37) (y := 80) (C := RX9) (T := TX9) (N := 52) (pc := 27) dX9_forget_27 rfl rfl ev_in9 rfl ul_4_219 ⟨rfl, rfl⟩ rfl ?_
        refine e_iconst (pc := 30) dX9_forget_30 ⟨by decide, by decide⟩ ?_
        refine e_iload_n (pc := 31) dX9_forget_31 rfl rfl ?_
        refine e_imul (pc := 32) dX9_forget_32 H.1 ?_
        have H := H.2
        refine e_iald (q := 80) (x := (g1 80 (5 * x3))) (pc := 33) dX9_forget_33 rfl H.1 rfl ?_
        have H := H.2
        refine e_iload_n (pc := 34) dX9_forget_34 rfl rfl ?_
        have J : Ev w Y_X9_forget 43 [some (vR 55), some (vI fo), some (vI x2), some (vI x3), none, none] [vI (b2i (¬ (g1 80 (5 * x3)) = fo))] g1 (rI K) := by
          refine e_istore (lv' := [some (vR 55), some (vI fo), some (vI x2), some (vI x3), some (vI (b2i (¬ (g1 80 (5 * x3)) = fo))), none]) (pc := 43) dX9_forget_43 rfl rfl ?_
          refine e_iconst (pc := 45) dX9_forget_45 ⟨by decide, by decide⟩ ?_
          refine e_istore (lv' := [some (vR 55), some (vI fo), some (vI x2), some (vI x3), some (vI (b2i (¬ (g1 80 (5 * x3)) = fo))), some (vI 0)]) (pc := 46) dX9_forget_46 rfl rfl ?_
          obtain ⟨m, H⟩ := H
          exact L2 m _ _ _ _ _ H
        refine e_icmp_eq (pc := 35) (tgt := 42) dX9_forget_35 (by decide) (fun c3 => ?_) (fun c3 => ?_)
        · refine e_iconst (pc := 42) dX9_forget_42 ⟨by decide, by decide⟩ ?_
          exact e_top (b2i_f (fun z => z c3)) J
        · refine e_iconst (pc := 38) dX9_forget_38 ⟨by decide, by decide⟩ ?_
          refine e_goto (pc := 39) (tgt := 43) dX9_forget_39 (by decide) ?_
          exact e_top (b2i_t c3) J
  refine e_iload_n (pc := 0) dX9_forget_0 rfl rfl ?_
  refine e_i2l (pc := 1) dX9_forget_1 ?_
  refine e_lconst (x := 0) (pc := 2) dX9_forget_2 ⟨by decide, by decide⟩ (by decide) ?_
  refine e_ldc2 (x := 5) (pc := 3) dX9_forget_3 ul_5_113 ⟨by decide, by decide⟩ ?_
  refine e_invS (pc := 6) (Y' := Y_X9_in) (as := [vL fo, vL 0, vL 5]) (st := []) (lv0 := [some (vL fo), none, some (vL 0), none, some (vL 5), none]) dX9_forget_6 m_X9_in ul_5_104 ul_5_105 ⟨rfl, rfl⟩ rfl rfl rfl rfl rfl (c_X9_in w fo 0 5 h) ?_
  rintro _ hz ⟨_, rfl, rfl, hh⟩
  rw [hh]
  show Ev w Y_X9_forget 9 [some (vR 55), some (vI fo), none, none, none, none] [vI (b2i (0 ≤ fo ∧ fo ≤ 5))] h (rI K)
  refine e_ifb_ne (pc := 9) (tgt := 14) dX9_forget_9 (by decide) (fun c1 => ?_) (fun c1 => ?_)
  · have H := H.1 c1
    refine e_iconst (pc := 14) dX9_forget_14 ⟨by decide, by decide⟩ ?_
    refine e_istore_n (lv' := [some (vR 55), some (vI fo), some (vI 0), none, none, none]) (pc := 15) dX9_forget_15 rfl rfl rfl ?_
    refine e_iconst (pc := 16) dX9_forget_16 ⟨by decide, by decide⟩ ?_
    refine e_istore_n (lv' := [some (vR 55), some (vI fo), some (vI 0), some (vI 0), none, none]) (pc := 17) dX9_forget_17 rfl rfl rfl ?_
    obtain ⟨m, H⟩ := H
    exact L1 m _ _ _ H
  · have H := H.2 c1
    refine e_iconst (pc := 12) dX9_forget_12 ⟨by decide, by decide⟩ ?_
    exact e_ret (pc := 13) (v := some (vI (-1))) dX9_forget_13 rfl trivial ⟨_, rfl, H⟩
set_option maxRecDepth 100000 in
set_option maxHeartbeats 4000000 in
theorem c_X9_forget (w : WD) (fo : Int) (h : HP) (K : Int → HP → Prop)  (H : S_X9_forget fo h K) : Ev w Y_X9_forget 0 [some (vR 55), some (vI fo), none, none, none, none] [] h (rI K) := by
  obtain ⟨H1, H2⟩ := H
  by_cases hfo : 0 ≤ fo ∧ fo ≤ 5
  case neg => exact v_X9_forget w fo h K (fun _ _ _ _ => False) (fun _ _ _ _ _ _ _ => False) ⟨fun c => absurd c hfo, fun c => H1 c⟩ (fun _ _ _ _ f => f.elim) (fun _ _ _ _ _ _ _ f => f.elim)
  obtain ⟨L, ⟨hL, h7⟩, HK⟩ := H2 hfo
  have hlen := hL.1
  have h60 := hL.2.1
  refine v_X9_forget w fo h K (fun n x2 x3 g => ∃ k : Nat, x3 = (k : Int) ∧ k ≤ L.length ∧ n = 60 - k ∧ x2 = ((dF fo (L.take k)).length : Int) ∧ (∀ q, q ≠ 80 → g q = h q) ∧ (∀ i : Nat, i < (dF fo (L.take k)).length → leM g (i : Int) = (dF fo (L.take k)).getD i d0) ∧ ∀ i : Nat, k ≤ i → i < L.length → leM g (i : Int) = L.getD i d0)
    (fun n1 n2 x2 x3 x4 x5 g => ∃ (g0 : HP) (k : Nat), x3 = (k : Int) ∧ k < L.length ∧ n1 = 60 - k ∧ n2 = (5 - x5).toNat ∧ x2 = ((dF fo (L.take k)).length : Int) ∧ (∀ q, q ≠ 80 → g0 q = h q) ∧ (∀ i : Nat, i < (dF fo (L.take k)).length → leM g0 (i : Int) = (dF fo (L.take k)).getD i d0) ∧ (∀ i : Nat, k ≤ i → i < L.length → leM g0 (i : Int) = L.getD i d0) ∧ x4 = b2i (¬ (L.getD k d0).1 = fo) ∧ (0 ≤ x5 ∧ x5 ≤ 5) ∧ (x4 = 0 → x5 = 0) ∧ (∀ q, q ≠ 80 → g q = h q) ∧ ∀ j : Int, g 80 j = if 5 * x2 ≤ j ∧ j < 5 * x2 + x5 then g0 80 (5 * x3 + (j - 5 * x2)) else g0 80 j)
    ⟨fun _ => ⟨60, 0, rfl, Nat.zero_le _, rfl, rfl, fun _ _ => rfl, fun i a => absurd a (by simp [dF]), fun i _ b => hL.2.2 i b⟩, fun c => absurd hfo c⟩ ?_ ?_
  · rintro n x2 x3 g ⟨k, rfl, hk, rfl, rfl, hg, hd, hr⟩
    have hdl := dF_l (L := L.take k) (fo := fo)
    rw [List.length_take] at hdl
    rw [hg 55 (by decide)]
    refine ⟨fun c => ?_, fun c => ?_⟩
    · have e : k = L.length := by omega
      subst e
      rw [List.take_length] at *
      rw [hlen]
      refine ⟨⟨by omega, by omega⟩, ⟨by omega, by omega⟩, HK _ (fun q a1 a6 => by rw [sth_ne a6, sth_ne a6]; exact hg q a1) (fun i a b => by rw [sth_eq, us_n b, sth_eq, us_n a, hg 55 (by decide)]) ⟨by rw [sth_eq, us_n (by decide), sth_eq, us_s], by omega, fun i a => ?_⟩ (by rw [sth_eq, us_s])⟩
      rw [leM_c (h := g) (by rw [sth_ne (by decide), sth_ne (by decide)])]
      exact hd i a
    · have hk2 : k < L.length := by omega
      have hrk := hr k (Nat.le_refl _) hk2
      have hf : g 80 (5 * (k : Int)) = (L.getD k d0).1 := by rw [← hrk]; rfl
      rw [hf]
      exact ⟨⟨by omega, by omega⟩, by omega, 5, g, k, rfl, hk2, rfl, rfl, rfl, hg, hd, hr, rfl, by omega, fun _ => rfl, hg, fun j => by rw [if_neg (by omega)]⟩
  · rintro n1 n2 x2 x3 x4 x5 g ⟨g0, k, rfl, hk, rfl, rfl, rfl, hg0, hd, hr, rfl, h5, hx5, hg, h80⟩
    have hdl := dF_l (L := L.take k) (fo := fo)
    rw [List.length_take] at hdl
    have hs := dF_s (fo := fo) hk
    have hrk := hr k (Nat.le_refl _) hk
    refine ⟨fun c => ?_, fun c => ?_⟩
    · by_cases z : (L.getD k d0).1 = fo
      · have e0 : b2i (¬ (L.getD k d0).1 = fo) = 0 := b2i_f (fun y => y z)
        have e5 := hx5 e0
        subst e5
        have e80 : g 80 = g0 80 := by funext j; rw [h80 j, if_neg (by omega)]
        rw [b2i_f (p := ¬ b2i (¬ (L.getD k d0).1 = fo) = 0) (fun y => y e0), Int.add_zero]
        exact ⟨⟨by omega, by omega⟩, ⟨by omega, by omega⟩, 60 - (k + 1), by omega, k + 1, by omega, by omega, rfl, by rw [hs, if_pos z, List.append_nil], hg, by rw [hs, if_pos z, List.append_nil]; exact fun i a => by rw [leM_c e80]; exact hd i a, fun i a b => by rw [leM_c e80]; exact hr i (by omega) b⟩
      · have e1 : b2i (¬ (L.getD k d0).1 = fo) = 1 := b2i_t z
        rw [e1] at c ⊢
        have e5 : x5 = 5 := by rcases c with c | c <;> omega
        subst e5
        rw [b2i_t (p := ¬ (1 : Int) = 0) (by decide)]
        refine ⟨⟨by omega, by omega⟩, ⟨by omega, by omega⟩, 60 - (k + 1), by omega, k + 1, by omega, by omega, rfl, by rw [hs, if_neg z, List.length_append, List.length_singleton]; omega, hg, ?_, ?_⟩
        · rw [hs, if_neg z]
          intro i hi
          rw [List.length_append, List.length_singleton] at hi
          by_cases e : i = (dF fo (L.take k)).length
          · rw [gd_e e, ← hrk]
            unfold leM
            rw [h80, h80, h80, h80, h80, if_pos (by omega), if_pos (by omega), if_pos (by omega), if_pos (by omega), if_pos (by omega), e]
            rw [show 5 * (k : Int) + (5 * ((dF fo (L.take k)).length : Int) - 5 * ((dF fo (L.take k)).length : Int)) = 5 * (k : Int) by omega, show 5 * (k : Int) + (5 * ((dF fo (L.take k)).length : Int) + 1 - 5 * ((dF fo (L.take k)).length : Int)) = 5 * (k : Int) + 1 by omega, show 5 * (k : Int) + (5 * ((dF fo (L.take k)).length : Int) + 2 - 5 * ((dF fo (L.take k)).length : Int)) = 5 * (k : Int) + 2 by omega, show 5 * (k : Int) + (5 * ((dF fo (L.take k)).length : Int) + 3 - 5 * ((dF fo (L.take k)).length : Int)) = 5 * (k : Int) + 3 by omega, show 5 * (k : Int) + (5 * ((dF fo (L.take k)).length : Int) + 4 - 5 * ((dF fo (L.take k)).length : Int)) = 5 * (k : Int) + 4 by omega]
          · rw [gd_l (by omega), ← hd i (by omega)]
            unfold leM
            rw [h80, h80, h80, h80, h80, if_neg (by omega), if_neg (by omega), if_neg (by omega), if_neg (by omega), if_neg (by omega)]
        · intro i a b
          rw [← hr i (by omega) b]
          unfold leM
          rw [h80, h80, h80, h80, h80, if_neg (by omega), if_neg (by omega), if_neg (by omega), if_neg (by omega), if_neg (by omega)]
    · have z5 : ¬ 5 ≤ x5 := fun y => c (Or.inl y)
      have zb : ¬ b2i (¬ (L.getD k d0).1 = fo) = 0 := fun y => c (Or.inr y)
      refine ⟨⟨by omega, by omega⟩, ⟨by omega, by omega⟩, ⟨by omega, by omega⟩, ⟨by omega, by omega⟩, by omega, by omega, ⟨by omega, by omega⟩, (5 - (x5 + 1)).toNat, by omega, g0, k, rfl, hk, rfl, rfl, rfl, hg0, hd, hr, rfl, by omega, fun y => absurd y zb, fun q a => by rw [sth_ne a]; exact hg q a, fun j => ?_⟩
      rw [sth_eq]
      by_cases e : j = 5 * ((dF fo (L.take k)).length : Int) + x5
      · rw [e, us_s, if_pos (by omega), h80, if_neg (by omega)]
        congr 1; omega
      · rw [us_n e, h80 j]
        by_cases y : 5 * ((dF fo (L.take k)).length : Int) ≤ j ∧ j < 5 * ((dF fo (L.take k)).length : Int) + x5
        · rw [if_pos y, if_pos (by omega)]
        · rw [if_neg y, if_neg (by omega)]
