/-! rules: the text, the items -/
def nW (l : Int) : Int := if l = 114 then 5 else if l = 120 then 4 else if l = 110 then 2 else 0
theorem nW_b (l : Int) : 0 ≤ nW l ∧ nW l ≤ 5 := by unfold nW; split <;> (try split) <;> (try split) <;> omega
def tOK (h : HP) : Prop := 0 ≤ h 2 5 ∧ h 2 5 ≤ 200 ∧ ∀ j : Int, 0 ≤ j → j < h 2 5 → 0 ≤ h 16 j ∧ h 16 j ≤ 255
def fig (T : Int → Int) (L q : Int) : Prop := q < L ∧ 48 ≤ T q ∧ T q ≤ 57
noncomputable def nln (T : Int → Int) (L q : Int) : Int := cif (fig T L (q + 1)) 2 1
noncomputable def nvl (T : Int → Int) (L q : Int) : Int := cif (fig T L (q + 1)) (10 * (T q - 48) + (T (q + 1) - 48)) (T q - 48)
noncomputable def np (T : Int → Int) (L p : Int) : Nat → Int
  | 0 => p + 1
  | j + 1 => np T L p j + nln T L (np T L p j) + 1
def dlm (l : Int) (j : Nat) : Int := if (j : Int) = nW l - 1 then 59 else 44
def nok (T : Int → Int) (L q d : Int) : Prop := fig T L q ∧ q + nln T L q < L ∧ T (q + nln T L q) = d
def fitI (l : Int) (v : Int → Int) : Prop := (l = 114 ∧ v 0 ≤ 6 ∧ v 1 ≤ 4 ∧ v 2 ≤ 5 ∧ v 3 ≤ v 4 ∧ v 4 < 24) ∨ (l = 120 ∧ v 0 < 10 ∧ (1 ≤ v 1 ∧ v 1 ≤ 3) ∧ v 2 < 10 ∧ v 3 ≤ 3) ∨ (l = 110 ∧ v 0 < 10 ∧ 1 ≤ v 1 ∧ v 1 ≤ 3)
def iv (T : Int → Int) (L p : Int) : Prop := (∀ j : Nat, (j : Int) < nW (T p) → nok T L (np T L p j) (dlm (T p) j)) ∧ fitI (T p) (fun j => nvl T L (np T L p j.toNat))
noncomputable def nxt (T : Int → Int) (L p : Int) : Int := np T L p (nW (T p)).toNat
noncomputable def ps (T : Int → Int) (L : Int) : Nat → Int
  | 0 => 0
  | k + 1 => nxt T L (ps T L k)
theorem fit_c {l : Int} {v v' : Int → Int} (h : ∀ i : Int, 0 ≤ i → i < nW l → v i = v' i) : fitI l v ↔ fitI l v' := by
  unfold fitI
  by_cases h1 : l = 114
  · subst h1
    rw [h 0 (by decide) (by decide), h 1 (by decide) (by decide), h 2 (by decide) (by decide), h 3 (by decide) (by decide), h 4 (by decide) (by decide)]
  · by_cases h2 : l = 120
    · subst h2
      rw [h 0 (by decide) (by decide), h 1 (by decide) (by decide), h 2 (by decide) (by decide), h 3 (by decide) (by decide)]
      simp
    · by_cases h3 : l = 110
      · subst h3
        rw [h 0 (by decide) (by decide), h 1 (by decide) (by decide)]
        simp
      · simp [h1, h2, h3]
theorem nln_b (T : Int → Int) (L q : Int) : nln T L q = 1 ∨ nln T L q = 2 := by
  unfold nln
  by_cases c : fig T L (q + 1)
  · exact Or.inr (cif_t c)
  · exact Or.inl (cif_f c)
theorem nvl_b {T : Int → Int} {L q : Int} (h : fig T L q) : 0 ≤ nvl T L q ∧ nvl T L q ≤ 99 := by
  unfold nvl
  have h1 := h.2
  by_cases c : fig T L (q + 1)
  · rw [cif_t c]; have := c.2; omega
  · rw [cif_f c]; omega
theorem np_ge (T : Int → Int) (L p : Int) : ∀ j : Nat, p + 1 + 2 * (j : Int) ≤ np T L p j
  | 0 => by simp only [np]; omega
  | j + 1 => by
    have := np_ge T L p j
    have := nln_b T L (np T L p j)
    simp only [np]
    omega
theorem fitI_W {l : Int} {v : Int → Int} (h : fitI l v) : 2 ≤ nW l := by
  unfold fitI at h
  rcases h with ⟨rfl, _⟩ | ⟨rfl, _⟩ | ⟨rfl, _⟩ <;> decide
theorem nxt_b {T : Int → Int} {L p : Int} (h : iv T L p) : p + 5 ≤ nxt T L p ∧ nxt T L p ≤ L := by
  have hw := fitI_W h.2
  have hb := nW_b (T p)
  obtain ⟨k, hk⟩ : ∃ k : Nat, (nW (T p)).toNat = k + 1 := ⟨(nW (T p)).toNat - 1, by omega⟩
  unfold nxt
  refine ⟨?_, ?_⟩
  · have := np_ge T L p (nW (T p)).toNat
    omega
  · rw [hk]
    have := (h.1 k (by omega)).2.1
    simp only [np]
    omega
theorem ps_ge {T : Int → Int} {L : Int} : ∀ k : Nat, (∀ i, i < k → iv T L (ps T L i)) → 5 * (k : Int) ≤ ps T L k
  | 0, _ => by simp only [ps]; omega
  | k + 1, h => by
    have h1 := ps_ge k (fun i hi => h i (by omega))
    have h2 := (nxt_b (h k (by omega))).1
    simp only [ps]
    omega
def iOK (L a0 a1 a2 a3 a4 : Int) : Prop := (L = 114 ∧ (0 ≤ a0 ∧ a0 ≤ 6) ∧ (0 ≤ a1 ∧ a1 ≤ 4) ∧ (0 ≤ a2 ∧ a2 ≤ 5) ∧ 0 ≤ a3 ∧ a3 ≤ a4 ∧ a4 < 24) ∨ (L = 120 ∧ (0 ≤ a0 ∧ a0 < 10) ∧ (1 ≤ a1 ∧ a1 ≤ 3) ∧ (0 ≤ a2 ∧ a2 < 10) ∧ (0 ≤ a3 ∧ a3 ≤ 3)) ∨ (L = 110 ∧ (0 ≤ a0 ∧ a0 < 10) ∧ (1 ≤ a1 ∧ a1 ≤ 3))
def iBar (L a0 a1 a2 a3 : Int) (s : Int → Int) (emp : Int → Prop) : Prop := (L = 120 ∧ a1 ≤ s a0 ∧ a3 ≤ s a2) ∨ (L = 110 ∧ a1 ≤ s a0 ∧ emp a0)
def fOK (h : HP) : Prop := (0 ≤ h 2 6 ∧ h 2 6 ≤ 40) ∧ ∀ k : Int, 0 ≤ k → k < h 2 6 → iOK (h 18 k) (h 19 (k * 5)) (h 19 (k * 5 + 1)) (h 19 (k * 5 + 2)) (h 19 (k * 5 + 3)) (h 19 (k * 5 + 4))
def cLet (h : HP) (k fo t hr : Int) : Prop := h 18 k = 114 ∧ h 19 (k * 5) = fo ∧ (h 19 (k * 5 + 1) = 4 ∨ h 19 (k * 5 + 1) = h 10 t) ∧ (h 19 (k * 5 + 2) = 5 ∨ h 19 (k * 5 + 2) = h 9 t) ∧ h 19 (k * 5 + 3) ≤ hr ∧ hr ≤ h 19 (k * 5 + 4)
def cBar (h : HP) (k : Int) (s : Int → Int) : Prop := iBar (h 18 k) (h 19 (k * 5)) (h 19 (k * 5 + 1)) (h 19 (k * 5 + 2)) (h 19 (k * 5 + 3)) s (fun t => h 15 (h 9 t) = 0)
theorem iv_OK {T : Int → Int} {L p : Int} (h : iv T L p) : T p = 114 ∧ iOK 114 (nvl T L (np T L p 0)) (nvl T L (np T L p 1)) (nvl T L (np T L p 2)) (nvl T L (np T L p 3)) (nvl T L (np T L p 4)) ∨ T p = 120 ∧ (∀ a4, iOK 120 (nvl T L (np T L p 0)) (nvl T L (np T L p 1)) (nvl T L (np T L p 2)) (nvl T L (np T L p 3)) a4) ∨ T p = 110 ∧ ∀ a2 a3 a4, iOK 110 (nvl T L (np T L p 0)) (nvl T L (np T L p 1)) a2 a3 a4 := by
  obtain ⟨h1, h2⟩ := h
  have nb : ∀ j : Nat, (j : Int) < nW (T p) → 0 ≤ nvl T L (np T L p j) := fun j hj => (nvl_b (h1 j hj).1).1
  unfold fitI at h2
  simp only [Int.toNat_zero, show (1 : Int).toNat = 1 from rfl, show (2 : Int).toNat = 2 from rfl, show (3 : Int).toNat = 3 from rfl, show (4 : Int).toNat = 4 from rfl] at h2
  rcases h2 with ⟨e, a⟩ | ⟨e, a⟩ | ⟨e, a⟩
  · have b0 := nb 0 (by rw [e]; decide)
    have b1 := nb 1 (by rw [e]; decide)
    have b2 := nb 2 (by rw [e]; decide)
    have b3 := nb 3 (by rw [e]; decide)
    exact Or.inl ⟨e, Or.inl ⟨rfl, by omega, by omega, by omega, by omega, by omega, by omega⟩⟩
  · have b0 := nb 0 (by rw [e]; decide)
    have b2 := nb 2 (by rw [e]; decide)
    have b3 := nb 3 (by rw [e]; decide)
    exact Or.inr (Or.inl ⟨e, fun a4 => Or.inr (Or.inl ⟨rfl, by omega, by omega, by omega, by omega⟩)⟩)
  · have b0 := nb 0 (by rw [e]; decide)
    exact Or.inr (Or.inr ⟨e, fun a2 a3 a4 => Or.inr (Or.inr ⟨rfl, by omega, by omega⟩)⟩)
set_option maxRecDepth 100000 in
set_option maxHeartbeats 4000000 in
theorem v_X5_numbersWanted (w : WD) (l : Int) (h : HP) (K : Int → HP → Prop) 
    (H : ((l = 110 → K 2 h) ∧ ((l = 114 → K 5 h) ∧ ((l = 120 → K 4 h) ∧ ((¬ l = 110 ∧ ¬ l = 114 ∧ ¬ l = 120 → K 0 h)))))) :
    Ev w Y_X5_numbersWanted 0 [some (vI l)] [] h (rI K) := by
  refine e_iload_n (pc := 0) dX5_numbersWanted_0 rfl rfl ?_
  refine e_lookup (pc := 1) dX5_numbersWanted_1 (by decide) ?_
  by_cases c1 : l = 110
  · have H := H.1 c1
    refine ⟨39, 40, by rw [c1]; rfl, by decide, ?_⟩
    refine e_iconst (pc := 40) dX5_numbersWanted_40 ⟨by decide, by decide⟩ ?_
    exact e_ret (pc := 41) (v := some (vI 2)) dX5_numbersWanted_41 rfl trivial ⟨_, rfl, H⟩
  · skip
    by_cases c2 : l = 114
    · have H := H.2.1 c2
      refine ⟨35, 36, by rw [c2]; rfl, by decide, ?_⟩
      refine e_iconst (pc := 36) dX5_numbersWanted_36 ⟨by decide, by decide⟩ ?_
      exact e_ret (pc := 37) (v := some (vI 5)) dX5_numbersWanted_37 rfl trivial ⟨_, rfl, H⟩
    · skip
      by_cases c3 : l = 120
      · have H := H.2.2.1 c3
        refine ⟨37, 38, by rw [c3]; rfl, by decide, ?_⟩
        refine e_iconst (pc := 38) dX5_numbersWanted_38 ⟨by decide, by decide⟩ ?_
        exact e_ret (pc := 39) (v := some (vI 4)) dX5_numbersWanted_39 rfl trivial ⟨_, rfl, H⟩
      · skip
        have H := H.2.2.2 ⟨c1, c2, c3⟩
        refine ⟨41, 42, by simp [Op.lookupswitch.offset] <;> (repeat' split) <;> omega, by decide, ?_⟩
        refine e_iconst (pc := 42) dX5_numbersWanted_42 ⟨by decide, by decide⟩ ?_
        exact e_ret (pc := 43) (v := some (vI 0)) dX5_numbersWanted_43 rfl trivial ⟨_, rfl, H⟩
set_option maxRecDepth 100000 in
set_option maxHeartbeats 4000000 in
theorem c_X5_numbersWanted (w : WD) (l : Int) (h : HP) : Ev w Y_X5_numbersWanted 0 [some (vI l)] [] h (rI (fun r h' => r = (nW l) ∧ h' = h)) := by
  refine v_X5_numbersWanted w l h _ ⟨fun c => ⟨by rw [c]; rfl, rfl⟩, fun c => ⟨by rw [c]; rfl, rfl⟩, fun c => ⟨by rw [c]; rfl, rfl⟩, fun c => ⟨by unfold nW; rw [if_neg c.2.1, if_neg c.2.2, if_neg c.1], rfl⟩⟩
set_option maxRecDepth 100000 in
set_option maxHeartbeats 4000000 in
theorem v_X5_isFigure (w : WD) (q : Int) (h : HP) (K : Int → HP → Prop) 
    (H : (((((h 2 5) ≤ q → True) ∧ (¬ (h 2 5) ≤ q → ((0 ≤ q ∧ q < 200) ∧ (((h 16 q) < 48 → True) ∧ (¬ (h 16 q) < 48 → ((0 ≤ q ∧ q < 200) ∧ True))))))) ∧ K (b2i ((¬ (h 2 5) ≤ q) ∧ ((¬ (h 16 q) < 48) ∧ (¬ 57 < (h 16 q))))) h)) :
    Ev w Y_X5_isFigure 0 [some (vR 2), some (vI q)] [] h (rI K) := by
  refine e_iload_n (pc := 0) dX5_isFigure_0 rfl rfl ?_
  refine e_aload_n (pc := 1) dX5_isFigure_1 rfl rfl ?_
  refine e_getI (q := 2) (ci := 5) (k := 5) (kz := 5) (C := RX5) (T := TX5) (N := 7) (x := (h 2 5)) (pc := 2) dX5_isFigure_2 rfl rfl rfl ev_in5 rfl ul_1_89 ⟨rfl, by decide⟩ rfl ?_
  have J : Ev w Y_X5_isFigure 35 [some (vR 2), some (vI q)] [vI (b2i ((¬ (h 2 5) ≤ q) ∧ ((¬ (h 16 q) < 48) ∧ (¬ 57 < (h 16 q)))))] h (rI K) := by
    have H := H.2
    exact e_ret (pc := 35) (v := some (vI (b2i ((¬ (h 2 5) ≤ q) ∧ ((¬ (h 16 q) < 48) ∧ (¬ 57 < (h 16 q))))))) dX5_isFigure_35 rfl (b2i_01 _) ⟨_, rfl, H⟩
  have Ho := H.1
  refine e_icmp_ge (pc := 5) (tgt := 34) dX5_isFigure_5 (by decide) (fun c1 => ?_) (fun c1 => ?_)
  · have Ho := Ho.1 c1
    refine e_iconst (pc := 34) dX5_isFigure_34 ⟨by decide, by decide⟩ ?_
    exact e_top (b2i_f (fun z => (fun z => z c1) z.1)) J
  · have Ho := Ho.2 c1
    refine e_aload_n (pc := 8) dX5_isFigure_8 rfl rfl ?_
    refine e_getR (q := 2) (ci := 5) (k := 1) (y := 16) (C := RX5) (T := TX5) (N := 7) (pc := 9) dX5_isFigure_9 rfl rfl ev_in5 rfl ul_1_85 ⟨rfl, rfl⟩ rfl ?_
    refine e_iload_n (pc := 12) dX5_isFigure_12 rfl rfl ?_
    refine e_iald (q := 16) (x := (h 16 q)) (pc := 13) dX5_isFigure_13 rfl Ho.1 rfl ?_
    have Ho := Ho.2
    refine e_bipush (pc := 14) dX5_isFigure_14 ⟨by decide, by decide⟩ (by decide) ?_
    refine e_icmp_lt (pc := 16) (tgt := 34) dX5_isFigure_16 (by decide) (fun c2 => ?_) (fun c2 => ?_)
    · have Ho := Ho.1 c2
      refine e_iconst (pc := 34) dX5_isFigure_34 ⟨by decide, by decide⟩ ?_
      exact e_top (b2i_f (fun z => (fun z => (fun z => z c2) z.1) z.2)) J
    · have Ho := Ho.2 c2
      refine e_aload_n (pc := 19) dX5_isFigure_19 rfl rfl ?_
      refine e_getR (q := 2) (ci := 5) (k := 1) (y := 16) (C := RX5) (T := TX5) (N := 7) (pc := 20) dX5_isFigure_20 rfl rfl ev_in5 rfl ul_1_85 ⟨rfl, rfl⟩ rfl ?_
      refine e_iload_n (pc := 23) dX5_isFigure_23 rfl rfl ?_
      refine e_iald (q := 16) (x := (h 16 q)) (pc := 24) dX5_isFigure_24 rfl Ho.1 rfl ?_
      have Ho := Ho.2
      refine e_bipush (pc := 25) dX5_isFigure_25 ⟨by decide, by decide⟩ (by decide) ?_
      refine e_icmp_gt (pc := 27) (tgt := 34) dX5_isFigure_27 (by decide) (fun c3 => ?_) (fun c3 => ?_)
      · refine e_iconst (pc := 34) dX5_isFigure_34 ⟨by decide, by decide⟩ ?_
        exact e_top (b2i_f (fun z => (fun z => (fun z => z c3) z.2) z.2)) J
      · refine e_iconst (pc := 30) dX5_isFigure_30 ⟨by decide, by decide⟩ ?_
        refine e_goto (pc := 31) (tgt := 35) dX5_isFigure_31 (by decide) ?_
        exact e_top (b2i_t ⟨c1, ⟨c2, c3⟩⟩) J
set_option maxRecDepth 100000 in
set_option maxHeartbeats 4000000 in
theorem c_X5_isFigure (w : WD) (q : Int) (h : HP) (H : tOK h ∧ 0 ≤ q) : Ev w Y_X5_isFigure 0 [some (vR 2), some (vI q)] [] h (rI (fun r h' => r = b2i (fig (h 16) (h 2 5) q) ∧ h' = h)) := by
  obtain ⟨⟨h1, h2, h3⟩, h4⟩ := H
  exact v_X5_isFigure w q h _ ⟨⟨fun _ => trivial, fun c => ⟨by omega, fun _ => trivial, fun _ => ⟨by omega, trivial⟩⟩⟩, b2i_c (by unfold fig; omega), rfl⟩
set_option maxRecDepth 100000 in
set_option maxHeartbeats 4000000 in
theorem v_X5_figuresAt (w : WD) (q : Int) (h : HP) (K : Int → HP → Prop) 
    (H : ((tOK h ∧ 0 ≤ q) ∧ (((fig (h 16) (h 2 5) q) → ((iR (q + 1)) ∧ ((tOK h ∧ 0 ≤ (q + 1)) ∧ K (cif (¬ (fig (h 16) (h 2 5) (q + 1))) 1 2) h))) ∧ (¬ (fig (h 16) (h 2 5) q) → K 0 h)))) :
    Ev w Y_X5_figuresAt 0 [some (vR 2), some (vI q)] [] h (rI K) := by
  refine e_aload_n (pc := 0) dX5_figuresAt_0 rfl rfl ?_
  refine e_iload_n (pc := 1) dX5_figuresAt_1 rfl rfl ?_
  refine e_invV (pc := 2) (Y' := Y_X5_isFigure) (as := [vI q]) (st := []) (lv0 := [some (vR 2), some (vI q)]) (q := 2) (ci := 5) (T := TX5) (N := 7) dX5_figuresAt_2 m_X5_isFigure ul_2_218 ⟨ul_2_220, us_X5_isFigure⟩ ⟨rfl, rfl⟩ rfl rfl rfl rfl rfl rfl rfl (c_X5_isFigure w q h H.1) ?_
  rintro _ hz ⟨_, rfl, rfl, hh⟩
  rw [hh]
  show Ev w Y_X5_figuresAt 5 [some (vR 2), some (vI q)] [vI (b2i (fig (h 16) (h 2 5) q))] h (rI K)
  have H := H.2
  refine e_ifb_ne (pc := 5) (tgt := 10) dX5_figuresAt_5 (by decide) (fun c1 => ?_) (fun c1 => ?_)
  · have H := H.1 c1
    refine e_aload_n (pc := 10) dX5_figuresAt_10 rfl rfl ?_
    refine e_iload_n (pc := 11) dX5_figuresAt_11 rfl rfl ?_
    refine e_iconst (pc := 12) dX5_figuresAt_12 ⟨by decide, by decide⟩ ?_
    refine e_iadd (pc := 13) dX5_figuresAt_13 H.1 ?_
    have H := H.2
    refine e_invV (pc := 14) (Y' := Y_X5_isFigure) (as := [vI (q + 1)]) (st := []) (lv0 := [some (vR 2), some (vI (q + 1))]) (q := 2) (ci := 5) (T := TX5) (N := 7) dX5_figuresAt_14 m_X5_isFigure ul_2_218 ⟨ul_2_220, us_X5_isFigure⟩ ⟨rfl, rfl⟩ rfl rfl rfl rfl rfl rfl rfl (c_X5_isFigure w (q + 1) h H.1) ?_
    rintro _ hz ⟨_, rfl, rfl, hh⟩
    rw [hh]
    show Ev w Y_X5_figuresAt 17 [some (vR 2), some (vI q)] [vI (b2i (fig (h 16) (h 2 5) (q + 1)))] h (rI K)
    have H := H.2
    have J : Ev w Y_X5_figuresAt 25 [some (vR 2), some (vI q)] [vI (cif (¬ (fig (h 16) (h 2 5) (q + 1))) 1 2)] h (rI K) := by
      exact e_ret (pc := 25) (v := some (vI (cif (¬ (fig (h 16) (h 2 5) (q + 1))) 1 2))) dX5_figuresAt_25 rfl trivial ⟨_, rfl, H⟩
    refine e_ifb_eq (pc := 17) (tgt := 24) dX5_figuresAt_17 (by decide) (fun c2 => ?_) (fun c2 => ?_)
    · refine e_iconst (pc := 24) dX5_figuresAt_24 ⟨by decide, by decide⟩ ?_
      exact e_top (cif_t c2) J
    · refine e_iconst (pc := 20) dX5_figuresAt_20 ⟨by decide, by decide⟩ ?_
      refine e_goto (pc := 21) (tgt := 25) dX5_figuresAt_21 (by decide) ?_
      exact e_top (cif_f (fun z => z c2)) J
  · have H := H.2 c1
    refine e_iconst (pc := 8) dX5_figuresAt_8 ⟨by decide, by decide⟩ ?_
    exact e_ret (pc := 9) (v := some (vI 0)) dX5_figuresAt_9 rfl trivial ⟨_, rfl, H⟩
set_option maxRecDepth 100000 in
set_option maxHeartbeats 4000000 in
theorem c_X5_figuresAt (w : WD) (q : Int) (h : HP) (H : tOK h ∧ 0 ≤ q ∧ q < 1000) : Ev w Y_X5_figuresAt 0 [some (vR 2), some (vI q)] [] h (rI (fun r h' => r = (cif (fig (h 16) (h 2 5) q) (nln (h 16) (h 2 5) q) 0) ∧ h' = h)) := by
  obtain ⟨h1, h2, h3⟩ := H
  refine v_X5_figuresAt w q h _ ⟨⟨h1, h2⟩, fun c => ⟨⟨by omega, by omega⟩, ⟨h1, by omega⟩, ?_, rfl⟩, fun c => ⟨(cif_f c).symm, rfl⟩⟩
  rw [cif_t c]
  unfold nln
  by_cases c2 : fig (h 16) (h 2 5) (q + 1)
  · rw [cif_f (fun z => z c2), cif_t c2]
  · rw [cif_t c2, cif_f c2]
set_option maxRecDepth 100000 in
set_option maxHeartbeats 4000000 in
theorem v_X5_valueAt (w : WD) (q : Int) (f : Int) (h : HP) (K : Int → HP → Prop) 
    (H : ((0 ≤ q ∧ q < 200) ∧ ((iR ((h 16 q) - 48)) ∧ ((((¬ f = 1 → ((iR (10 * ((h 16 q) - 48))) ∧ ((iR (q + 1)) ∧ ((0 ≤ (q + 1) ∧ (q + 1) < 200) ∧ ((iR ((10 * ((h 16 q) - 48)) + (h 16 (q + 1)))) ∧ ((iR (((10 * ((h 16 q) - 48)) + (h 16 (q + 1))) - 48)) ∧ True)))))) ∧ (f = 1 → True))) ∧ K (cif (¬ f = 1) (((10 * ((h 16 q) - 48)) + (h 16 (q + 1))) - 48) ((h 16 q) - 48)) h)))) :
    Ev w Y_X5_valueAt 0 [some (vR 2), some (vI q), some (vI f), none] [] h (rI K) := by
  refine e_aload_n (pc := 0) dX5_valueAt_0 rfl rfl ?_
  refine e_getR (q := 2) (ci := 5) (k := 1) (y := 16) (C := RX5) (T := TX5) (N := 7) (pc := 1) dX5_valueAt_1 rfl rfl ev_in5 rfl ul_1_85 ⟨rfl, rfl⟩ rfl ?_
  refine e_iload_n (pc := 4) dX5_valueAt_4 rfl rfl ?_
  refine e_iald (q := 16) (x := (h 16 q)) (pc := 5) dX5_valueAt_5 rfl H.1 rfl ?_
  have H := H.2
  refine e_bipush (pc := 6) dX5_valueAt_6 ⟨by decide, by decide⟩ (by decide) ?_
  refine e_isub (pc := 8) dX5_valueAt_8 H.1 ?_
  have H := H.2
  refine e_istore_n (lv' := [some (vR 2), some (vI q), some (vI f), some (vI ((h 16 q) - 48))]) (pc := 9) dX5_valueAt_9 rfl rfl rfl ?_
  refine e_iload_n (pc := 10) dX5_valueAt_10 rfl rfl ?_
  refine e_iconst (pc := 11) dX5_valueAt_11 ⟨by decide, by decide⟩ ?_
  have J : Ev w Y_X5_valueAt 35 [some (vR 2), some (vI q), some (vI f), some (vI ((h 16 q) - 48))] [vI (cif (¬ f = 1) (((10 * ((h 16 q) - 48)) + (h 16 (q + 1))) - 48) ((h 16 q) - 48))] h (rI K) := by
    have H := H.2
    exact e_ret (pc := 35) (v := some (vI (cif (¬ f = 1) (((10 * ((h 16 q) - 48)) + (h 16 (q + 1))) - 48) ((h 16 q) - 48)))) dX5_valueAt_35 rfl trivial ⟨_, rfl, H⟩
  have Ho := H.1
  refine e_icmp_ne (pc := 12) (tgt := 19) dX5_valueAt_12 (by decide) (fun c1 => ?_) (fun c1 => ?_)
  · have Ho := Ho.1 c1
    refine e_bipush (pc := 19) dX5_valueAt_19 ⟨by decide, by decide⟩ (by decide) ?_
    refine e_iload_n (pc := 21) dX5_valueAt_21 rfl rfl ?_
    refine e_imul (pc := 22) dX5_valueAt_22 Ho.1 ?_
    have Ho := Ho.2
    refine e_aload_n (pc := 23) dX5_valueAt_23 rfl rfl ?_
    refine e_getR (q := 2) (ci := 5) (k := 1) (y := 16) (C := RX5) (T := TX5) (N := 7) (pc := 24) dX5_valueAt_24 rfl rfl ev_in5 rfl ul_1_85 ⟨rfl, rfl⟩ rfl ?_
    refine e_iload_n (pc := 27) dX5_valueAt_27 rfl rfl ?_
    refine e_iconst (pc := 28) dX5_valueAt_28 ⟨by decide, by decide⟩ ?_
    refine e_iadd (pc := 29) dX5_valueAt_29 Ho.1 ?_
    have Ho := Ho.2
    refine e_iald (q := 16) (x := (h 16 (q + 1))) (pc := 30) dX5_valueAt_30 rfl Ho.1 rfl ?_
    have Ho := Ho.2
    refine e_iadd (pc := 31) dX5_valueAt_31 Ho.1 ?_
    have Ho := Ho.2
    refine e_bipush (pc := 32) dX5_valueAt_32 ⟨by decide, by decide⟩ (by decide) ?_
    refine e_isub (pc := 34) dX5_valueAt_34 Ho.1 ?_
    have Ho := Ho.2
    exact e_top (cif_t c1) J
  · have Ho := Ho.2 c1
    refine e_iload_n (pc := 15) dX5_valueAt_15 rfl rfl ?_
    refine e_goto (pc := 16) (tgt := 35) dX5_valueAt_16 (by decide) ?_
    exact e_top (cif_f (fun z => z c1)) J
set_option maxRecDepth 100000 in
set_option maxHeartbeats 4000000 in
theorem c_X5_valueAt (w : WD) (q : Int) (f : Int) (h : HP) (H : tOK h ∧ 0 ≤ q ∧ fig (h 16) (h 2 5) q ∧ f = nln (h 16) (h 2 5) q) : Ev w Y_X5_valueAt 0 [some (vR 2), some (vI q), some (vI f), none] [] h (rI (fun r h' => r = (nvl (h 16) (h 2 5) q) ∧ h' = h)) := by
  obtain ⟨⟨h1, h2, h3⟩, h4, h5, h6⟩ := H
  have h7 := h5.2
  have h8 := h5.1
  have h9 : ¬ f = 1 → fig (h 16) (h 2 5) (q + 1) := fun z => Classical.byContradiction (fun y => z (by rw [h6]; exact cif_f y))
  refine v_X5_valueAt w q f h _ ⟨by omega, ⟨by omega, by omega⟩, ⟨fun c => ?_, fun _ => trivial⟩, ?_, rfl⟩
  · have := (h9 c).1
    have := (h9 c).2
    exact ⟨⟨by omega, by omega⟩, ⟨by omega, by omega⟩, by omega, ⟨by omega, by omega⟩, ⟨by omega, by omega⟩, trivial⟩
  · unfold nvl
    by_cases c : f = 1
    · rw [cif_f (fun z => z c), cif_f (fun z => by rw [h6] at c; unfold nln at c; rw [cif_t z] at c; omega)]
    · rw [cif_t c, cif_t (h9 c)]; omega
set_option maxRecDepth 100000 in
set_option maxHeartbeats 4000000 in
theorem v_X5_isBarrable (w : WD) (t : Int) (v : Int) (h : HP) (K : Int → HP → Prop) 
    (H : K (b2i ((¬ 10 ≤ t) ∧ ((1 ≤ v ∧ v ≤ 3)))) h) :
    Ev w Y_X5_isBarrable 0 [some (vI t), some (vI v)] [] h (rI K) := by
  refine e_iload_n (pc := 0) dX5_isBarrable_0 rfl rfl ?_
  refine e_bipush (pc := 1) dX5_isBarrable_1 ⟨by decide, by decide⟩ (by decide) ?_
  have J : Ev w Y_X5_isBarrable 20 [some (vI t), some (vI v)] [vI (b2i ((¬ 10 ≤ t) ∧ ((1 ≤ v ∧ v ≤ 3))))] h (rI K) := by
    exact e_ret (pc := 20) (v := some (vI (b2i ((¬ 10 ≤ t) ∧ ((1 ≤ v ∧ v ≤ 3)))))) dX5_isBarrable_20 rfl (b2i_01 _) ⟨_, rfl, H⟩
  refine e_icmp_ge (pc := 3) (tgt := 19) dX5_isBarrable_3 (by decide) (fun c1 => ?_) (fun c1 => ?_)
  · refine e_iconst (pc := 19) dX5_isBarrable_19 ⟨by decide, by decide⟩ ?_
    exact e_top (b2i_f (fun z => (fun z => z c1) z.1)) J
  · refine e_iload_n (pc := 6) dX5_isBarrable_6 rfl rfl ?_
    refine e_iconst (pc := 7) dX5_isBarrable_7 ⟨by decide, by decide⟩ ?_
    refine e_iconst (pc := 8) dX5_isBarrable_8 ⟨by decide, by decide⟩ ?_
    refine e_invSN (pc := 9) (Y' := Y_X8_within) (as := [vI v, vI 1, vI 3]) (st := []) (lv0 := [some (vI v), some (vI 1), some (vI 3)]) dX5_isBarrable_9 m_X8_within nl_2 ul_2_131 ⟨rfl, rfl⟩ rfl rfl rfl rfl rfl (c_X8_within w v 1 3 h) ?_
    rintro _ hz ⟨_, rfl, rfl, hh⟩
    rw [hh]
    show Ev w Y_X5_isBarrable 12 [some (vI t), some (vI v)] [vI (b2i (1 ≤ v ∧ v ≤ 3))] h (rI K)
    refine e_ifb_eq (pc := 12) (tgt := 19) dX5_isBarrable_12 (by decide) (fun c2 => ?_) (fun c2 => ?_)
    · refine e_iconst (pc := 19) dX5_isBarrable_19 ⟨by decide, by decide⟩ ?_
      exact e_top (b2i_f (fun z => c2 z.2)) J
    · refine e_iconst (pc := 15) dX5_isBarrable_15 ⟨by decide, by decide⟩ ?_
      refine e_goto (pc := 16) (tgt := 20) dX5_isBarrable_16 (by decide) ?_
      exact e_top (b2i_t ⟨c1, c2⟩) J
set_option maxRecDepth 100000 in
set_option maxHeartbeats 4000000 in
theorem c_X5_isBarrable (w : WD) (t : Int) (v : Int) (h : HP) : Ev w Y_X5_isBarrable 0 [some (vI t), some (vI v)] [] h (rI (fun r h' => r = b2i (t < 10 ∧ 1 ≤ v ∧ v ≤ 3) ∧ h' = h)) := by
  exact v_X5_isBarrable w t v h _ ⟨b2i_c (by omega), rfl⟩
set_option maxRecDepth 100000 in
set_option maxHeartbeats 4000000 in
theorem v_X5_numbersFit (w : WD) (l : Int) (h : HP) (K : Int → HP → Prop) 
    (H : ((l = 110 → K (b2i ((h 17 0) < 10 ∧ 1 ≤ (h 17 1) ∧ (h 17 1) ≤ 3)) h) ∧ ((l = 114 → K (b2i ((¬ 6 < (h 17 0)) ∧ ((¬ 4 < (h 17 1)) ∧ ((¬ 5 < (h 17 2)) ∧ ((¬ (h 17 4) < (h 17 3)) ∧ (¬ 24 ≤ (h 17 4))))))) h) ∧ ((l = 120 → K (b2i ((((h 17 0) < 10 ∧ 1 ≤ (h 17 1) ∧ (h 17 1) ≤ 3)) ∧ ((¬ 10 ≤ (h 17 2)) ∧ (¬ 3 < (h 17 3))))) h) ∧ ((¬ l = 110 ∧ ¬ l = 114 ∧ ¬ l = 120 → K 0 h)))))) :
    Ev w Y_X5_numbersFit 0 [some (vR 2), some (vI l)] [] h (rI K) := by
  refine e_iload_n (pc := 0) dX5_numbersFit_0 rfl rfl ?_
  refine e_lookup (pc := 1) dX5_numbersFit_1 (by decide) ?_
  by_cases c9 : l = 110
  · have H := H.1 c9
    refine ⟨143, 144, by rw [c9]; rfl, by decide, ?_⟩
    refine e_aload_n (pc := 144) dX5_numbersFit_144 rfl rfl ?_
    refine e_getR (q := 2) (ci := 5) (k := 2) (y := 17) (C := RX5) (T := TX5) (N := 7) (pc := 145) dX5_numbersFit_145 rfl rfl ev_in5 rfl ul_1_86 ⟨rfl, rfl⟩ rfl ?_
    refine e_iconst (pc := 148) dX5_numbersFit_148 ⟨by decide, by decide⟩ ?_
    refine e_iald (q := 17) (x := (h 17 0)) (pc := 149) dX5_numbersFit_149 rfl ⟨by decide, by decide⟩ rfl ?_
    refine e_aload_n (pc := 150) dX5_numbersFit_150 rfl rfl ?_
    refine e_getR (q := 2) (ci := 5) (k := 2) (y := 17) (C := RX5) (T := TX5) (N := 7) (pc := 151) dX5_numbersFit_151 rfl rfl ev_in5 rfl ul_1_86 ⟨rfl, rfl⟩ rfl ?_
    refine e_iconst (pc := 154) dX5_numbersFit_154 ⟨by decide, by decide⟩ ?_
    refine e_iald (q := 17) (x := (h 17 1)) (pc := 155) dX5_numbersFit_155 rfl ⟨by decide, by decide⟩ rfl ?_
    refine e_invS (pc := 156) (Y' := Y_X5_isBarrable) (as := [vI (h 17 0), vI (h 17 1)]) (st := []) (lv0 := [some (vI (h 17 0)), some (vI (h 17 1))]) dX5_numbersFit_156 m_X5_isBarrable ul_2_230 ul_2_231 ⟨rfl, rfl⟩ rfl rfl rfl rfl rfl (c_X5_isBarrable w (h 17 0) (h 17 1) h) ?_
    rintro _ hz ⟨_, rfl, rfl, hh⟩
    rw [hh]
    show Ev w Y_X5_numbersFit 159 [some (vR 2), some (vI l)] [vI (b2i ((h 17 0) < 10 ∧ 1 ≤ (h 17 1) ∧ (h 17 1) ≤ 3))] h (rI K)
    exact e_ret (pc := 159) (v := some (vI (b2i ((h 17 0) < 10 ∧ 1 ≤ (h 17 1) ∧ (h 17 1) ≤ 3)))) dX5_numbersFit_159 rfl (b2i_01 _) ⟨_, rfl, H⟩
  · skip
    by_cases c10 : l = 114
    · have H := H.2.1 c10
      refine ⟨35, 36, by rw [c10]; rfl, by decide, ?_⟩
      refine e_aload_n (pc := 36) dX5_numbersFit_36 rfl rfl ?_
      refine e_getR (q := 2) (ci := 5) (k := 2) (y := 17) (C := RX5) (T := TX5) (N := 7) (pc := 37) dX5_numbersFit_37 rfl rfl ev_in5 rfl ul_1_86 ⟨rfl, rfl⟩ rfl ?_
      refine e_iconst (pc := 40) dX5_numbersFit_40 ⟨by decide, by decide⟩ ?_
      refine e_iald (q := 17) (x := (h 17 0)) (pc := 41) dX5_numbersFit_41 rfl ⟨by decide, by decide⟩ rfl ?_
      refine e_bipush (pc := 42) dX5_numbersFit_42 ⟨by decide, by decide⟩ (by decide) ?_
      have J : Ev w Y_X5_numbersFit 98 [some (vR 2), some (vI l)] [vI (b2i ((¬ 6 < (h 17 0)) ∧ ((¬ 4 < (h 17 1)) ∧ ((¬ 5 < (h 17 2)) ∧ ((¬ (h 17 4) < (h 17 3)) ∧ (¬ 24 ≤ (h 17 4)))))))] h (rI K) := by
        exact e_ret (pc := 98) (v := some (vI (b2i ((¬ 6 < (h 17 0)) ∧ ((¬ 4 < (h 17 1)) ∧ ((¬ 5 < (h 17 2)) ∧ ((¬ (h 17 4) < (h 17 3)) ∧ (¬ 24 ≤ (h 17 4))))))))) dX5_numbersFit_98 rfl (b2i_01 _) ⟨_, rfl, H⟩
      refine e_icmp_gt (pc := 44) (tgt := 97) dX5_numbersFit_44 (by decide) (fun c1 => ?_) (fun c1 => ?_)
      · refine e_iconst (pc := 97) dX5_numbersFit_97 ⟨by decide, by decide⟩ ?_
        exact e_top (b2i_f (fun z => (fun z => z c1) z.1)) J
      · refine e_aload_n (pc := 47) dX5_numbersFit_47 rfl rfl ?_
        refine e_getR (q := 2) (ci := 5) (k := 2) (y := 17) (C := RX5) (T := TX5) (N := 7) (pc := 48) dX5_numbersFit_48 rfl rfl ev_in5 rfl ul_1_86 ⟨rfl, rfl⟩ rfl ?_
        refine e_iconst (pc := 51) dX5_numbersFit_51 ⟨by decide, by decide⟩ ?_
        refine e_iald (q := 17) (x := (h 17 1)) (pc := 52) dX5_numbersFit_52 rfl ⟨by decide, by decide⟩ rfl ?_
        refine e_iconst (pc := 53) dX5_numbersFit_53 ⟨by decide, by decide⟩ ?_
        refine e_icmp_gt (pc := 54) (tgt := 97) dX5_numbersFit_54 (by decide) (fun c2 => ?_) (fun c2 => ?_)
        · refine e_iconst (pc := 97) dX5_numbersFit_97 ⟨by decide, by decide⟩ ?_
          exact e_top (b2i_f (fun z => (fun z => (fun z => z c2) z.1) z.2)) J
        · refine e_aload_n (pc := 57) dX5_numbersFit_57 rfl rfl ?_
          refine e_getR (q := 2) (ci := 5) (k := 2) (y := 17) (C := RX5) (T := TX5) (N := 7) (pc := 58) dX5_numbersFit_58 rfl rfl ev_in5 rfl ul_1_86 ⟨rfl, rfl⟩ rfl ?_
          refine e_iconst (pc := 61) dX5_numbersFit_61 ⟨by decide, by decide⟩ ?_
          refine e_iald (q := 17) (x := (h 17 2)) (pc := 62) dX5_numbersFit_62 rfl ⟨by decide, by decide⟩ rfl ?_
          refine e_iconst (pc := 63) dX5_numbersFit_63 ⟨by decide, by decide⟩ ?_
          refine e_icmp_gt (pc := 64) (tgt := 97) dX5_numbersFit_64 (by decide) (fun c3 => ?_) (fun c3 => ?_)
          · refine e_iconst (pc := 97) dX5_numbersFit_97 ⟨by decide, by decide⟩ ?_
            exact e_top (b2i_f (fun z => (fun z => (fun z => (fun z => z c3) z.1) z.2) z.2)) J
          · refine e_aload_n (pc := 67) dX5_numbersFit_67 rfl rfl ?_
            refine e_getR (q := 2) (ci := 5) (k := 2) (y := 17) (C := RX5) (T := TX5) (N := 7) (pc := 68) dX5_numbersFit_68 rfl rfl ev_in5 rfl ul_1_86 ⟨rfl, rfl⟩ rfl ?_
            refine e_iconst (pc := 71) dX5_numbersFit_71 ⟨by decide, by decide⟩ ?_
            refine e_iald (q := 17) (x := (h 17 3)) (pc := 72) dX5_numbersFit_72 rfl ⟨by decide, by decide⟩ rfl ?_
            refine e_aload_n (pc := 73) dX5_numbersFit_73 rfl rfl ?_
            refine e_getR (q := 2) (ci := 5) (k := 2) (y := 17) (C := RX5) (T := TX5) (N := 7) (pc := 74) dX5_numbersFit_74 rfl rfl ev_in5 rfl ul_1_86 ⟨rfl, rfl⟩ rfl ?_
            refine e_iconst (pc := 77) dX5_numbersFit_77 ⟨by decide, by decide⟩ ?_
            refine e_iald (q := 17) (x := (h 17 4)) (pc := 78) dX5_numbersFit_78 rfl ⟨by decide, by decide⟩ rfl ?_
            refine e_icmp_gt (pc := 79) (tgt := 97) dX5_numbersFit_79 (by decide) (fun c4 => ?_) (fun c4 => ?_)
            · refine e_iconst (pc := 97) dX5_numbersFit_97 ⟨by decide, by decide⟩ ?_
              exact e_top (b2i_f (fun z => (fun z => (fun z => (fun z => (fun z => z c4) z.1) z.2) z.2) z.2)) J
            · refine e_aload_n (pc := 82) dX5_numbersFit_82 rfl rfl ?_
              refine e_getR (q := 2) (ci := 5) (k := 2) (y := 17) (C := RX5) (T := TX5) (N := 7) (pc := 83) dX5_numbersFit_83 rfl rfl ev_in5 rfl ul_1_86 ⟨rfl, rfl⟩ rfl ?_
              refine e_iconst (pc := 86) dX5_numbersFit_86 ⟨by decide, by decide⟩ ?_
              refine e_iald (q := 17) (x := (h 17 4)) (pc := 87) dX5_numbersFit_87 rfl ⟨by decide, by decide⟩ rfl ?_
              refine e_bipush (pc := 88) dX5_numbersFit_88 ⟨by decide, by decide⟩ (by decide) ?_
              refine e_icmp_ge (pc := 90) (tgt := 97) dX5_numbersFit_90 (by decide) (fun c5 => ?_) (fun c5 => ?_)
              · refine e_iconst (pc := 97) dX5_numbersFit_97 ⟨by decide, by decide⟩ ?_
                exact e_top (b2i_f (fun z => (fun z => (fun z => (fun z => (fun z => z c5) z.2) z.2) z.2) z.2)) J
              · refine e_iconst (pc := 93) dX5_numbersFit_93 ⟨by decide, by decide⟩ ?_
                refine e_goto (pc := 94) (tgt := 98) dX5_numbersFit_94 (by decide) ?_
                exact e_top (b2i_t ⟨c1, ⟨c2, ⟨c3, ⟨c4, c5⟩⟩⟩⟩) J
    · skip
      by_cases c11 : l = 120
      · have H := H.2.2.1 c11
        refine ⟨98, 99, by rw [c11]; rfl, by decide, ?_⟩
        refine e_aload_n (pc := 99) dX5_numbersFit_99 rfl rfl ?_
        refine e_getR (q := 2) (ci := 5) (k := 2) (y := 17) (C := RX5) (T := TX5) (N := 7) (pc := 100) dX5_numbersFit_100 rfl rfl ev_in5 rfl ul_1_86 ⟨rfl, rfl⟩ rfl ?_
        refine e_iconst (pc := 103) dX5_numbersFit_103 ⟨by decide, by decide⟩ ?_
        refine e_iald (q := 17) (x := (h 17 0)) (pc := 104) dX5_numbersFit_104 rfl ⟨by decide, by decide⟩ rfl ?_
        refine e_aload_n (pc := 105) dX5_numbersFit_105 rfl rfl ?_
        refine e_getR (q := 2) (ci := 5) (k := 2) (y := 17) (C := RX5) (T := TX5) (N := 7) (pc := 106) dX5_numbersFit_106 rfl rfl ev_in5 rfl ul_1_86 ⟨rfl, rfl⟩ rfl ?_
        refine e_iconst (pc := 109) dX5_numbersFit_109 ⟨by decide, by decide⟩ ?_
        refine e_iald (q := 17) (x := (h 17 1)) (pc := 110) dX5_numbersFit_110 rfl ⟨by decide, by decide⟩ rfl ?_
        refine e_invS (pc := 111) (Y' := Y_X5_isBarrable) (as := [vI (h 17 0), vI (h 17 1)]) (st := []) (lv0 := [some (vI (h 17 0)), some (vI (h 17 1))]) dX5_numbersFit_111 m_X5_isBarrable ul_2_230 ul_2_231 ⟨rfl, rfl⟩ rfl rfl rfl rfl rfl (c_X5_isBarrable w (h 17 0) (h 17 1) h) ?_
        rintro _ hz ⟨_, rfl, rfl, hh⟩
        rw [hh]
        show Ev w Y_X5_numbersFit 114 [some (vR 2), some (vI l)] [vI (b2i ((h 17 0) < 10 ∧ 1 ≤ (h 17 1) ∧ (h 17 1) ≤ 3))] h (rI K)
        have J : Ev w Y_X5_numbersFit 143 [some (vR 2), some (vI l)] [vI (b2i ((((h 17 0) < 10 ∧ 1 ≤ (h 17 1) ∧ (h 17 1) ≤ 3)) ∧ ((¬ 10 ≤ (h 17 2)) ∧ (¬ 3 < (h 17 3)))))] h (rI K) := by
          exact e_ret (pc := 143) (v := some (vI (b2i ((((h 17 0) < 10 ∧ 1 ≤ (h 17 1) ∧ (h 17 1) ≤ 3)) ∧ ((¬ 10 ≤ (h 17 2)) ∧ (¬ 3 < (h 17 3))))))) dX5_numbersFit_143 rfl (b2i_01 _) ⟨_, rfl, H⟩
        refine e_ifb_eq (pc := 114) (tgt := 142) dX5_numbersFit_114 (by decide) (fun c6 => ?_) (fun c6 => ?_)
        · refine e_iconst (pc := 142) dX5_numbersFit_142 ⟨by decide, by decide⟩ ?_
          exact e_top (b2i_f (fun z => c6 z.1)) J
        · refine e_aload_n (pc := 117) dX5_numbersFit_117 rfl rfl ?_
          refine e_getR (q := 2) (ci := 5) (k := 2) (y := 17) (C := RX5) (T := TX5) (N := 7) (pc := 118) dX5_numbersFit_118 rfl rfl ev_in5 rfl ul_1_86 ⟨rfl, rfl⟩ rfl ?_
          refine e_iconst (pc := 121) dX5_numbersFit_121 ⟨by decide, by decide⟩ ?_
          refine e_iald (q := 17) (x := (h 17 2)) (pc := 122) dX5_numbersFit_122 rfl ⟨by decide, by decide⟩ rfl ?_
          refine e_bipush (pc := 123) dX5_numbersFit_123 ⟨by decide, by decide⟩ (by decide) ?_
          refine e_icmp_ge (pc := 125) (tgt := 142) dX5_numbersFit_125 (by decide) (fun c7 => ?_) (fun c7 => ?_)
          · refine e_iconst (pc := 142) dX5_numbersFit_142 ⟨by decide, by decide⟩ ?_
            exact e_top (b2i_f (fun z => (fun z => (fun z => z c7) z.1) z.2)) J
          · refine e_aload_n (pc := 128) dX5_numbersFit_128 rfl rfl ?_
            refine e_getR (q := 2) (ci := 5) (k := 2) (y := 17) (C := RX5) (T := TX5) (N := 7) (pc := 129) dX5_numbersFit_129 rfl rfl ev_in5 rfl ul_1_86 ⟨rfl, rfl⟩ rfl ?_
            refine e_iconst (pc := 132) dX5_numbersFit_132 ⟨by decide, by decide⟩ ?_
            refine e_iald (q := 17) (x := (h 17 3)) (pc := 133) dX5_numbersFit_133 rfl ⟨by decide, by decide⟩ rfl ?_
            refine e_iconst (pc := 134) dX5_numbersFit_134 ⟨by decide, by decide⟩ ?_
            refine e_icmp_gt (pc := 135) (tgt := 142) dX5_numbersFit_135 (by decide) (fun c8 => ?_) (fun c8 => ?_)
            · refine e_iconst (pc := 142) dX5_numbersFit_142 ⟨by decide, by decide⟩ ?_
              exact e_top (b2i_f (fun z => (fun z => (fun z => z c8) z.2) z.2)) J
            · refine e_iconst (pc := 138) dX5_numbersFit_138 ⟨by decide, by decide⟩ ?_
              refine e_goto (pc := 139) (tgt := 143) dX5_numbersFit_139 (by decide) ?_
              exact e_top (b2i_t ⟨c6, ⟨c7, c8⟩⟩) J
      · skip
        have H := H.2.2.2 ⟨c9, c10, c11⟩
        refine ⟨159, 160, by simp [Op.lookupswitch.offset] <;> (repeat' split) <;> omega, by decide, ?_⟩
        refine e_iconst (pc := 160) dX5_numbersFit_160 ⟨by decide, by decide⟩ ?_
        exact e_ret (pc := 161) (v := some (vI 0)) dX5_numbersFit_161 rfl (Or.inl rfl) ⟨_, rfl, H⟩
set_option maxRecDepth 100000 in
set_option maxHeartbeats 4000000 in
theorem c_X5_numbersFit (w : WD) (l : Int) (h : HP) : Ev w Y_X5_numbersFit 0 [some (vR 2), some (vI l)] [] h (rI (fun r h' => r = b2i (fitI l (h 17)) ∧ h' = h)) := by
  refine v_X5_numbersFit w l h _ ⟨fun c => ⟨b2i_c ?_, rfl⟩, fun c => ⟨b2i_c ?_, rfl⟩, fun c => ⟨b2i_c ?_, rfl⟩, fun c => ⟨(b2i_f ?_).symm, rfl⟩⟩
  · unfold fitI; subst c; simp
  · unfold fitI; subst c; simp; try omega
  · unfold fitI; subst c; simp; try omega
  · unfold fitI; simp [c.1, c.2.1, c.2.2]
set_option maxRecDepth 100000 in
set_option maxHeartbeats 4000000 in
theorem v_X5_letsByItem (w : WD) (fr : Int) (fo : Int) (t : Int) (hr : Int) (h : HP) (K : Int → HP → Prop) 
    (H : ((iR (fr + 1)) ∧ ((0 ≤ (fr + 1) ∧ (fr + 1) < 200) ∧ ((iR (fr + 2)) ∧ ((0 ≤ (fr + 2) ∧ (fr + 2) < 200) ∧ ((0 ≤ fr ∧ fr < 200) ∧ ((((¬ (h 19 fr) = fo → True) ∧ ((h 19 fr) = fo → (((h 19 (fr + 1)) = 4 → (((h 19 (fr + 2)) = 5 → ((iR (fr + 3)) ∧ ((0 ≤ (fr + 3) ∧ (fr + 3) < 200) ∧ ((iR (fr + 4)) ∧ ((0 ≤ (fr + 4) ∧ (fr + 4) < 200) ∧ True))))) ∧ (¬ (h 19 (fr + 2)) = 5 → ((0 ≤ t ∧ t < 10) ∧ ((¬ (h 19 (fr + 2)) = (h 9 t) → True) ∧ ((h 19 (fr + 2)) = (h 9 t) → ((iR (fr + 3)) ∧ ((0 ≤ (fr + 3) ∧ (fr + 3) < 200) ∧ ((iR (fr + 4)) ∧ ((0 ≤ (fr + 4) ∧ (fr + 4) < 200) ∧ True)))))))))) ∧ (¬ (h 19 (fr + 1)) = 4 → ((0 ≤ t ∧ t < 10) ∧ ((¬ (h 19 (fr + 1)) = (h 10 t) → True) ∧ ((h 19 (fr + 1)) = (h 10 t) → (((h 19 (fr + 2)) = 5 → ((iR (fr + 3)) ∧ ((0 ≤ (fr + 3) ∧ (fr + 3) < 200) ∧ ((iR (fr + 4)) ∧ ((0 ≤ (fr + 4) ∧ (fr + 4) < 200) ∧ True))))) ∧ (¬ (h 19 (fr + 2)) = 5 → ((0 ≤ t ∧ t < 10) ∧ ((¬ (h 19 (fr + 2)) = (h 9 t) → True) ∧ ((h 19 (fr + 2)) = (h 9 t) → ((iR (fr + 3)) ∧ ((0 ≤ (fr + 3) ∧ (fr + 3) < 200) ∧ ((iR (fr + 4)) ∧ ((0 ≤ (fr + 4) ∧ (fr + 4) < 200) ∧ True))))))))))))))))) ∧ K (b2i (((h 19 fr) = fo) ∧ ((((h 19 (fr + 1)) = 4) ∧ ((((h 19 (fr + 2)) = 5) ∧ (((h 19 (fr + 3)) ≤ hr ∧ hr ≤ (h 19 (fr + 4))))) ∨ ((¬ (h 19 (fr + 2)) = 5) ∧ (((h 19 (fr + 2)) = (h 9 t)) ∧ (((h 19 (fr + 3)) ≤ hr ∧ hr ≤ (h 19 (fr + 4)))))))) ∨ ((¬ (h 19 (fr + 1)) = 4) ∧ (((h 19 (fr + 1)) = (h 10 t)) ∧ ((((h 19 (fr + 2)) = 5) ∧ (((h 19 (fr + 3)) ≤ hr ∧ hr ≤ (h 19 (fr + 4))))) ∨ ((¬ (h 19 (fr + 2)) = 5) ∧ (((h 19 (fr + 2)) = (h 9 t)) ∧ (((h 19 (fr + 3)) ≤ hr ∧ hr ≤ (h 19 (fr + 4)))))))))))) h))))))) :
    Ev w Y_X5_letsByItem 0 [some (vR 2), some (vI fr), some (vI fo), some (vI t), some (vI hr), none, none] [] h (rI K) := by
  refine e_aload_n (pc := 0) dX5_letsByItem_0 rfl rfl ?_
  refine e_getR (q := 2) (ci := 5) (k := 4) (y := 19) (C := RX5) (T := TX5) (N := 7) (pc := 1) dX5_letsByItem_1 rfl rfl ev_in5 rfl ul_1_88 ⟨rfl, rfl⟩ rfl ?_
  refine e_iload_n (pc := 4) dX5_letsByItem_4 rfl rfl ?_
  refine e_iconst (pc := 5) dX5_letsByItem_5 ⟨by decide, by decide⟩ ?_
  refine e_iadd (pc := 6) dX5_letsByItem_6 H.1 ?_
  have H := H.2
  refine e_iald (q := 19) (x := (h 19 (fr + 1))) (pc := 7) dX5_letsByItem_7 rfl H.1 rfl ?_
  have H := H.2
  refine e_istore (lv' := [some (vR 2), some (vI fr), some (vI fo), some (vI t), some (vI hr), some (vI (h 19 (fr + 1))), none]) (pc := 8) dX5_letsByItem_8 rfl rfl ?_
  refine e_aload_n (pc := 10) dX5_letsByItem_10 rfl rfl ?_
  refine e_getR (q := 2) (ci := 5) (k := 4) (y := 19) (C := RX5) (T := TX5) (N := 7) (pc := 11) dX5_letsByItem_11 rfl rfl ev_in5 rfl ul_1_88 ⟨rfl, rfl⟩ rfl ?_
  refine e_iload_n (pc := 14) dX5_letsByItem_14 rfl rfl ?_
  refine e_iconst (pc := 15) dX5_letsByItem_15 ⟨by decide, by decide⟩ ?_
  refine e_iadd (pc := 16) dX5_letsByItem_16 H.1 ?_
  have H := H.2
  refine e_iald (q := 19) (x := (h 19 (fr + 2))) (pc := 17) dX5_letsByItem_17 rfl H.1 rfl ?_
  have H := H.2
  refine e_istore (lv' := [some (vR 2), some (vI fr), some (vI fo), some (vI t), some (vI hr), some (vI (h 19 (fr + 1))), some (vI (h 19 (fr + 2)))]) (pc := 18) dX5_letsByItem_18 rfl rfl ?_
  refine e_aload_n (pc := 20) dX5_letsByItem_20 rfl rfl ?_
  refine e_getR (q := 2) (ci := 5) (k := 4) (y := 19) (C := RX5) (T := TX5) (N := 7) (pc := 21) dX5_letsByItem_21 rfl rfl ev_in5 rfl ul_1_88 ⟨rfl, rfl⟩ rfl ?_
  refine e_iload_n (pc := 24) dX5_letsByItem_24 rfl rfl ?_
  refine e_iald (q := 19) (x := (h 19 fr)) (pc := 25) dX5_letsByItem_25 rfl H.1 rfl ?_
  have H := H.2
  refine e_iload_n (pc := 26) dX5_letsByItem_26 rfl rfl ?_
  have J : Ev w Y_X5_letsByItem 99 [some (vR 2), some (vI fr), some (vI fo), some (vI t), some (vI hr), some (vI (h 19 (fr + 1))), some (vI (h 19 (fr + 2)))] [vI (b2i (((h 19 fr) = fo) ∧ ((((h 19 (fr + 1)) = 4) ∧ ((((h 19 (fr + 2)) = 5) ∧ (((h 19 (fr + 3)) ≤ hr ∧ hr ≤ (h 19 (fr + 4))))) ∨ ((¬ (h 19 (fr + 2)) = 5) ∧ (((h 19 (fr + 2)) = (h 9 t)) ∧ (((h 19 (fr + 3)) ≤ hr ∧ hr ≤ (h 19 (fr + 4)))))))) ∨ ((¬ (h 19 (fr + 1)) = 4) ∧ (((h 19 (fr + 1)) = (h 10 t)) ∧ ((((h 19 (fr + 2)) = 5) ∧ (((h 19 (fr + 3)) ≤ hr ∧ hr ≤ (h 19 (fr + 4))))) ∨ ((¬ (h 19 (fr + 2)) = 5) ∧ (((h 19 (fr + 2)) = (h 9 t)) ∧ (((h 19 (fr + 3)) ≤ hr ∧ hr ≤ (h 19 (fr + 4))))))))))))] h (rI K) := by
    have H := H.2
    exact e_ret (pc := 99) (v := some (vI (b2i (((h 19 fr) = fo) ∧ ((((h 19 (fr + 1)) = 4) ∧ ((((h 19 (fr + 2)) = 5) ∧ (((h 19 (fr + 3)) ≤ hr ∧ hr ≤ (h 19 (fr + 4))))) ∨ ((¬ (h 19 (fr + 2)) = 5) ∧ (((h 19 (fr + 2)) = (h 9 t)) ∧ (((h 19 (fr + 3)) ≤ hr ∧ hr ≤ (h 19 (fr + 4)))))))) ∨ ((¬ (h 19 (fr + 1)) = 4) ∧ (((h 19 (fr + 1)) = (h 10 t)) ∧ ((((h 19 (fr + 2)) = 5) ∧ (((h 19 (fr + 3)) ≤ hr ∧ hr ≤ (h 19 (fr + 4))))) ∨ ((¬ (h 19 (fr + 2)) = 5) ∧ (((h 19 (fr + 2)) = (h 9 t)) ∧ (((h 19 (fr + 3)) ≤ hr ∧ hr ≤ (h 19 (fr + 4)))))))))))))) dX5_letsByItem_99 rfl (b2i_01 _) ⟨_, rfl, H⟩
  have Ho := H.1
  refine e_icmp_ne (pc := 27) (tgt := 98) dX5_letsByItem_27 (by decide) (fun c1 => ?_) (fun c1 => ?_)
  · have Ho := Ho.1 c1
    refine e_iconst (pc := 98) dX5_letsByItem_98 ⟨by decide, by decide⟩ ?_
    exact e_top (b2i_f (fun z => c1 z.1)) J
  · have Ho := Ho.2 c1
    refine e_iload (pc := 30) dX5_letsByItem_30 rfl ?_
    refine e_iconst (pc := 32) dX5_letsByItem_32 ⟨by decide, by decide⟩ ?_
    refine e_icmp_eq (pc := 33) (tgt := 50) dX5_letsByItem_33 (by decide) (fun c2 => ?_) (fun c2 => ?_)
    · have Ho := Ho.1 c2
      refine e_iload (pc := 50) dX5_letsByItem_50 rfl ?_
      refine e_iconst (pc := 52) dX5_letsByItem_52 ⟨by decide, by decide⟩ ?_
      refine e_icmp_eq (pc := 53) (tgt := 70) dX5_letsByItem_53 (by decide) (fun c3 => ?_) (fun c3 => ?_)
      · have Ho := Ho.1 c3
        refine e_iload (pc := 70) dX5_letsByItem_70 rfl ?_
        refine e_aload_n (pc := 72) dX5_letsByItem_72 rfl rfl ?_
        refine e_getR (q := 2) (ci := 5) (k := 4) (y := 19) (C := RX5) (T := TX5) (N := 7) (pc := 73) dX5_letsByItem_73 rfl rfl ev_in5 rfl ul_1_88 ⟨rfl, rfl⟩ rfl ?_
        refine e_iload_n (pc := 76) dX5_letsByItem_76 rfl rfl ?_
        refine e_iconst (pc := 77) dX5_letsByItem_77 ⟨by decide, by decide⟩ ?_
        refine e_iadd (pc := 78) dX5_letsByItem_78 Ho.1 ?_
        have Ho := Ho.2
        refine e_iald (q := 19) (x := (h 19 (fr + 3))) (pc := 79) dX5_letsByItem_79 rfl Ho.1 rfl ?_
        have Ho := Ho.2
        refine e_aload_n (pc := 80) dX5_letsByItem_80 rfl rfl ?_
        refine e_getR (q := 2) (ci := 5) (k := 4) (y := 19) (C := RX5) (T := TX5) (N := 7) (pc := 81) dX5_letsByItem_81 rfl rfl ev_in5 rfl ul_1_88 ⟨rfl, rfl⟩ rfl ?_
        refine e_iload_n (pc := 84) dX5_letsByItem_84 rfl rfl ?_
        refine e_iconst (pc := 85) dX5_letsByItem_85 ⟨by decide, by decide⟩ ?_
        refine e_iadd (pc := 86) dX5_letsByItem_86 Ho.1 ?_
        have Ho := Ho.2
        refine e_iald (q := 19) (x := (h 19 (fr + 4))) (pc := 87) dX5_letsByItem_87 rfl Ho.1 rfl ?_
        have Ho := Ho.2
        refine e_invSN (pc := 88) (Y' := Y_X8_within) (as := [vI hr, vI (h 19 (fr + 3)), vI (h 19 (fr + 4))]) (st := []) (lv0 := [some (vI hr), some (vI (h 19 (fr + 3))), some (vI (h 19 (fr + 4)))]) dX5_letsByItem_88 m_X8_within nl_2 ul_2_131 ⟨rfl, rfl⟩ rfl rfl rfl rfl rfl (c_X8_within w hr (h 19 (fr + 3)) (h 19 (fr + 4)) h) ?_
        rintro _ hz ⟨_, rfl, rfl, hh⟩
        rw [hh]
        show Ev w Y_X5_letsByItem 91 [some (vR 2), some (vI fr), some (vI fo), some (vI t), some (vI hr), some (vI (h 19 (fr + 1))), some (vI (h 19 (fr + 2)))] [vI (b2i ((h 19 (fr + 3)) ≤ hr ∧ hr ≤ (h 19 (fr + 4))))] h (rI K)
        refine e_ifb_eq (pc := 91) (tgt := 98) dX5_letsByItem_91 (by decide) (fun c4 => ?_) (fun c4 => ?_)
        · refine e_iconst (pc := 98) dX5_letsByItem_98 ⟨by decide, by decide⟩ ?_
          exact e_top (b2i_f (fun z => (fun z => z.elim (fun y => (fun z => z.elim (fun y => c4 y.2) (fun y => (fun z => z c3) y.1)) y.2) (fun y => (fun z => z c2) y.1)) z.2)) J
        · refine e_iconst (pc := 94) dX5_letsByItem_94 ⟨by decide, by decide⟩ ?_
          refine e_goto (pc := 95) (tgt := 99) dX5_letsByItem_95 (by decide) ?_
          exact e_top (b2i_t ⟨c1, (Or.inl ⟨c2, (Or.inl ⟨c3, c4⟩)⟩)⟩) J
      · have Ho := Ho.2 c3
        refine e_iload (pc := 56) dX5_letsByItem_56 rfl ?_
        refine e_aload_n (pc := 58) dX5_letsByItem_58 rfl rfl ?_
        refine e_getR (q := 2) (ci := 5) (k := 0) (y := 1) (C := RX5) (T := TX5) (N := 7) (pc := 59) dX5_letsByItem_59 rfl rfl ev_in5 rfl ul_1_84 ⟨rfl, rfl⟩ rfl ?_
        refine e_getR (q := 1) (ci := 4) (k := 0) (y := 9) (C := RX4) (T := TX4) (N := 10) (pc := 62) dX5_letsByItem_62 rfl rfl ev_in4 rfl ul_1_34 ⟨rfl, rfl⟩ rfl ?_
        refine e_iload_n (pc := 65) dX5_letsByItem_65 rfl rfl ?_
        refine e_iald (q := 9) (x := (h 9 t)) (pc := 66) dX5_letsByItem_66 rfl Ho.1 rfl ?_
        have Ho := Ho.2
        refine e_icmp_ne (pc := 67) (tgt := 98) dX5_letsByItem_67 (by decide) (fun c5 => ?_) (fun c5 => ?_)
        · have Ho := Ho.1 c5
          refine e_iconst (pc := 98) dX5_letsByItem_98 ⟨by decide, by decide⟩ ?_
          exact e_top (b2i_f (fun z => (fun z => z.elim (fun y => (fun z => z.elim (fun y => c3 y.1) (fun y => (fun z => c5 z.1) y.2)) y.2) (fun y => (fun z => z c2) y.1)) z.2)) J
        · have Ho := Ho.2 c5
          refine e_iload (pc := 70) dX5_letsByItem_70 rfl ?_
          refine e_aload_n (pc := 72) dX5_letsByItem_72 rfl rfl ?_
          refine e_getR (q := 2) (ci := 5) (k := 4) (y := 19) (C := RX5) (T := TX5) (N := 7) (pc := 73) dX5_letsByItem_73 rfl rfl ev_in5 rfl ul_1_88 ⟨rfl, rfl⟩ rfl ?_
          refine e_iload_n (pc := 76) dX5_letsByItem_76 rfl rfl ?_
          refine e_iconst (pc := 77) dX5_letsByItem_77 ⟨by decide, by decide⟩ ?_
          refine e_iadd (pc := 78) dX5_letsByItem_78 Ho.1 ?_
          have Ho := Ho.2
          refine e_iald (q := 19) (x := (h 19 (fr + 3))) (pc := 79) dX5_letsByItem_79 rfl Ho.1 rfl ?_
          have Ho := Ho.2
          refine e_aload_n (pc := 80) dX5_letsByItem_80 rfl rfl ?_
          refine e_getR (q := 2) (ci := 5) (k := 4) (y := 19) (C := RX5) (T := TX5) (N := 7) (pc := 81) dX5_letsByItem_81 rfl rfl ev_in5 rfl ul_1_88 ⟨rfl, rfl⟩ rfl ?_
          refine e_iload_n (pc := 84) dX5_letsByItem_84 rfl rfl ?_
          refine e_iconst (pc := 85) dX5_letsByItem_85 ⟨by decide, by decide⟩ ?_
          refine e_iadd (pc := 86) dX5_letsByItem_86 Ho.1 ?_
          have Ho := Ho.2
          refine e_iald (q := 19) (x := (h 19 (fr + 4))) (pc := 87) dX5_letsByItem_87 rfl Ho.1 rfl ?_
          have Ho := Ho.2
          refine e_invSN (pc := 88) (Y' := Y_X8_within) (as := [vI hr, vI (h 19 (fr + 3)), vI (h 19 (fr + 4))]) (st := []) (lv0 := [some (vI hr), some (vI (h 19 (fr + 3))), some (vI (h 19 (fr + 4)))]) dX5_letsByItem_88 m_X8_within nl_2 ul_2_131 ⟨rfl, rfl⟩ rfl rfl rfl rfl rfl (c_X8_within w hr (h 19 (fr + 3)) (h 19 (fr + 4)) h) ?_
          rintro _ hz ⟨_, rfl, rfl, hh⟩
          rw [hh]
          show Ev w Y_X5_letsByItem 91 [some (vR 2), some (vI fr), some (vI fo), some (vI t), some (vI hr), some (vI (h 19 (fr + 1))), some (vI (h 19 (fr + 2)))] [vI (b2i ((h 19 (fr + 3)) ≤ hr ∧ hr ≤ (h 19 (fr + 4))))] h (rI K)
          refine e_ifb_eq (pc := 91) (tgt := 98) dX5_letsByItem_91 (by decide) (fun c6 => ?_) (fun c6 => ?_)
          · refine e_iconst (pc := 98) dX5_letsByItem_98 ⟨by decide, by decide⟩ ?_
            exact e_top (b2i_f (fun z => (fun z => z.elim (fun y => (fun z => z.elim (fun y => c3 y.1) (fun y => (fun z => c6 z.2) y.2)) y.2) (fun y => (fun z => z c2) y.1)) z.2)) J
          · refine e_iconst (pc := 94) dX5_letsByItem_94 ⟨by decide, by decide⟩ ?_
            refine e_goto (pc := 95) (tgt := 99) dX5_letsByItem_95 (by decide) ?_
            exact e_top (b2i_t ⟨c1, (Or.inl ⟨c2, (Or.inr ⟨c3, ⟨c5, c6⟩⟩)⟩)⟩) J
    · have Ho := Ho.2 c2
      refine e_iload (pc := 36) dX5_letsByItem_36 rfl ?_
      refine e_aload_n (pc := 38) dX5_letsByItem_38 rfl rfl ?_
      refine e_getR (q := 2) (ci := 5) (k := 0) (y := 1) (C := RX5) (T := TX5) (N := 7) (pc := 39) dX5_letsByItem_39 rfl rfl ev_in5 rfl ul_1_84 ⟨rfl, rfl⟩ rfl ?_
      refine e_getR (q := 1) (ci := 4) (k := 1) (y := 10) (C := RX4) (T := TX4) (N := 10) (pc := 42) dX5_letsByItem_42 rfl rfl ev_in4 rfl ul_1_36 ⟨rfl, rfl⟩ rfl ?_
      refine e_iload_n (pc := 45) dX5_letsByItem_45 rfl rfl ?_
      refine e_iald (q := 10) (x := (h 10 t)) (pc := 46) dX5_letsByItem_46 rfl Ho.1 rfl ?_
      have Ho := Ho.2
      refine e_icmp_ne (pc := 47) (tgt := 98) dX5_letsByItem_47 (by decide) (fun c7 => ?_) (fun c7 => ?_)
      · have Ho := Ho.1 c7
        refine e_iconst (pc := 98) dX5_letsByItem_98 ⟨by decide, by decide⟩ ?_
        exact e_top (b2i_f (fun z => (fun z => z.elim (fun y => c2 y.1) (fun y => (fun z => c7 z.1) y.2)) z.2)) J
      · have Ho := Ho.2 c7
        refine e_iload (pc := 50) dX5_letsByItem_50 rfl ?_
        refine e_iconst (pc := 52) dX5_letsByItem_52 ⟨by decide, by decide⟩ ?_
        refine e_icmp_eq (pc := 53) (tgt := 70) dX5_letsByItem_53 (by decide) (fun c8 => ?_) (fun c8 => ?_)
        · have Ho := Ho.1 c8
          refine e_iload (pc := 70) dX5_letsByItem_70 rfl ?_
          refine e_aload_n (pc := 72) dX5_letsByItem_72 rfl rfl ?_
          refine e_getR (q := 2) (ci := 5) (k := 4) (y := 19) (C := RX5) (T := TX5) (N := 7) (pc := 73) dX5_letsByItem_73 rfl rfl ev_in5 rfl ul_1_88 ⟨rfl, rfl⟩ rfl ?_
          refine e_iload_n (pc := 76) dX5_letsByItem_76 rfl rfl ?_
          refine e_iconst (pc := 77) dX5_letsByItem_77 ⟨by decide, by decide⟩ ?_
          refine e_iadd (pc := 78) dX5_letsByItem_78 Ho.1 ?_
          have Ho := Ho.2
          refine e_iald (q := 19) (x := (h 19 (fr + 3))) (pc := 79) dX5_letsByItem_79 rfl Ho.1 rfl ?_
          have Ho := Ho.2
          refine e_aload_n (pc := 80) dX5_letsByItem_80 rfl rfl ?_
          refine e_getR (q := 2) (ci := 5) (k := 4) (y := 19) (C := RX5) (T := TX5) (N := 7) (pc := 81) dX5_letsByItem_81 rfl rfl ev_in5 rfl ul_1_88 ⟨rfl, rfl⟩ rfl ?_
          refine e_iload_n (pc := 84) dX5_letsByItem_84 rfl rfl ?_
          refine e_iconst (pc := 85) dX5_letsByItem_85 ⟨by decide, by decide⟩ ?_
          refine e_iadd (pc := 86) dX5_letsByItem_86 Ho.1 ?_
          have Ho := Ho.2
          refine e_iald (q := 19) (x := (h 19 (fr + 4))) (pc := 87) dX5_letsByItem_87 rfl Ho.1 rfl ?_
          have Ho := Ho.2
          refine e_invSN (pc := 88) (Y' := Y_X8_within) (as := [vI hr, vI (h 19 (fr + 3)), vI (h 19 (fr + 4))]) (st := []) (lv0 := [some (vI hr), some (vI (h 19 (fr + 3))), some (vI (h 19 (fr + 4)))]) dX5_letsByItem_88 m_X8_within nl_2 ul_2_131 ⟨rfl, rfl⟩ rfl rfl rfl rfl rfl (c_X8_within w hr (h 19 (fr + 3)) (h 19 (fr + 4)) h) ?_
          rintro _ hz ⟨_, rfl, rfl, hh⟩
          rw [hh]
          show Ev w Y_X5_letsByItem 91 [some (vR 2), some (vI fr), some (vI fo), some (vI t), some (vI hr), some (vI (h 19 (fr + 1))), some (vI (h 19 (fr + 2)))] [vI (b2i ((h 19 (fr + 3)) ≤ hr ∧ hr ≤ (h 19 (fr + 4))))] h (rI K)
          refine e_ifb_eq (pc := 91) (tgt := 98) dX5_letsByItem_91 (by decide) (fun c9 => ?_) (fun c9 => ?_)
          · refine e_iconst (pc := 98) dX5_letsByItem_98 ⟨by decide, by decide⟩ ?_
            exact e_top (b2i_f (fun z => (fun z => z.elim (fun y => c2 y.1) (fun y => (fun z => (fun z => z.elim (fun y => c9 y.2) (fun y => (fun z => z c8) y.1)) z.2) y.2)) z.2)) J
          · refine e_iconst (pc := 94) dX5_letsByItem_94 ⟨by decide, by decide⟩ ?_
            refine e_goto (pc := 95) (tgt := 99) dX5_letsByItem_95 (by decide) ?_
            exact e_top (b2i_t ⟨c1, (Or.inr ⟨c2, ⟨c7, (Or.inl ⟨c8, c9⟩)⟩⟩)⟩) J
        · have Ho := Ho.2 c8
          refine e_iload (pc := 56) dX5_letsByItem_56 rfl ?_
          refine e_aload_n (pc := 58) dX5_letsByItem_58 rfl rfl ?_
          refine e_getR (q := 2) (ci := 5) (k := 0) (y := 1) (C := RX5) (T := TX5) (N := 7) (pc := 59) dX5_letsByItem_59 rfl rfl ev_in5 rfl ul_1_84 ⟨rfl, rfl⟩ rfl ?_
          refine e_getR (q := 1) (ci := 4) (k := 0) (y := 9) (C := RX4) (T := TX4) (N := 10) (pc := 62) dX5_letsByItem_62 rfl rfl ev_in4 rfl ul_1_34 ⟨rfl, rfl⟩ rfl ?_
          refine e_iload_n (pc := 65) dX5_letsByItem_65 rfl rfl ?_
          refine e_iald (q := 9) (x := (h 9 t)) (pc := 66) dX5_letsByItem_66 rfl Ho.1 rfl ?_
          have Ho := Ho.2
          refine e_icmp_ne (pc := 67) (tgt := 98) dX5_letsByItem_67 (by decide) (fun c10 => ?_) (fun c10 => ?_)
          · have Ho := Ho.1 c10
            refine e_iconst (pc := 98) dX5_letsByItem_98 ⟨by decide, by decide⟩ ?_
            exact e_top (b2i_f (fun z => (fun z => z.elim (fun y => c2 y.1) (fun y => (fun z => (fun z => z.elim (fun y => c8 y.1) (fun y => (fun z => c10 z.1) y.2)) z.2) y.2)) z.2)) J
          · have Ho := Ho.2 c10
            refine e_iload (pc := 70) dX5_letsByItem_70 rfl ?_
            refine e_aload_n (pc := 72) dX5_letsByItem_72 rfl rfl ?_
            refine e_getR (q := 2) (ci := 5) (k := 4) (y := 19) (C := RX5) (T := TX5) (N := 7) (pc := 73) dX5_letsByItem_73 rfl rfl ev_in5 rfl ul_1_88 ⟨rfl, rfl⟩ rfl ?_
            refine e_iload_n (pc := 76) dX5_letsByItem_76 rfl rfl ?_
            refine e_iconst (pc := 77) dX5_letsByItem_77 ⟨by decide, by decide⟩ ?_
            refine e_iadd (pc := 78) dX5_letsByItem_78 Ho.1 ?_
            have Ho := Ho.2
            refine e_iald (q := 19) (x := (h 19 (fr + 3))) (pc := 79) dX5_letsByItem_79 rfl Ho.1 rfl ?_
            have Ho := Ho.2
            refine e_aload_n (pc := 80) dX5_letsByItem_80 rfl rfl ?_
            refine e_getR (q := 2) (ci := 5) (k := 4) (y := 19) (C := RX5) (T := TX5) (N := 7) (pc := 81) dX5_letsByItem_81 rfl rfl ev_in5 rfl ul_1_88 ⟨rfl, rfl⟩ rfl ?_
            refine e_iload_n (pc := 84) dX5_letsByItem_84 rfl rfl ?_
            refine e_iconst (pc := 85) dX5_letsByItem_85 ⟨by decide, by decide⟩ ?_
            refine e_iadd (pc := 86) dX5_letsByItem_86 Ho.1 ?_
            have Ho := Ho.2
            refine e_iald (q := 19) (x := (h 19 (fr + 4))) (pc := 87) dX5_letsByItem_87 rfl Ho.1 rfl ?_
            have Ho := Ho.2
            refine e_invSN (pc := 88) (Y' := Y_X8_within) (as := [vI hr, vI (h 19 (fr + 3)), vI (h 19 (fr + 4))]) (st := []) (lv0 := [some (vI hr), some (vI (h 19 (fr + 3))), some (vI (h 19 (fr + 4)))]) dX5_letsByItem_88 m_X8_within nl_2 ul_2_131 ⟨rfl, rfl⟩ rfl rfl rfl rfl rfl (c_X8_within w hr (h 19 (fr + 3)) (h 19 (fr + 4)) h) ?_
            rintro _ hz ⟨_, rfl, rfl, hh⟩
            rw [hh]
            show Ev w Y_X5_letsByItem 91 [some (vR 2), some (vI fr), some (vI fo), some (vI t), some (vI hr), some (vI (h 19 (fr + 1))), some (vI (h 19 (fr + 2)))] [vI (b2i ((h 19 (fr + 3)) ≤ hr ∧ hr ≤ (h 19 (fr + 4))))] h (rI K)
            refine e_ifb_eq (pc := 91) (tgt := 98) dX5_letsByItem_91 (by decide) (fun c11 => ?_) (fun c11 => ?_)
            · refine e_iconst (pc := 98) dX5_letsByItem_98 ⟨by decide, by decide⟩ ?_
              exact e_top (b2i_f (fun z => (fun z => z.elim (fun y => c2 y.1) (fun y => (fun z => (fun z => z.elim (fun y => c8 y.1) (fun y => (fun z => c11 z.2) y.2)) z.2) y.2)) z.2)) J
            · refine e_iconst (pc := 94) dX5_letsByItem_94 ⟨by decide, by decide⟩ ?_
              refine e_goto (pc := 95) (tgt := 99) dX5_letsByItem_95 (by decide) ?_
              exact e_top (b2i_t ⟨c1, (Or.inr ⟨c2, ⟨c7, (Or.inr ⟨c8, ⟨c10, c11⟩⟩)⟩⟩)⟩) J
set_option maxRecDepth 100000 in
set_option maxHeartbeats 4000000 in
theorem c_X5_letsByItem (w : WD) (fr : Int) (fo : Int) (t : Int) (hr : Int) (h : HP) (H : (0 ≤ fr ∧ fr < 196) ∧ 0 ≤ t ∧ t < 10) : Ev w Y_X5_letsByItem 0 [some (vR 2), some (vI fr), some (vI fo), some (vI t), some (vI hr), none, none] [] h (rI (fun r h' => r = b2i (h 19 fr = fo ∧ (h 19 (fr + 1) = 4 ∨ h 19 (fr + 1) = h 10 t) ∧ (h 19 (fr + 2) = 5 ∨ h 19 (fr + 2) = h 9 t) ∧ h 19 (fr + 3) ≤ hr ∧ hr ≤ h 19 (fr + 4)) ∧ h' = h)) := by
  have ir : ∀ x : Int, 0 ≤ x → x < 200 → iR x := fun x a b => ⟨by omega, by omega⟩
  have o5 : (iR (fr + 3)) ∧ ((0 ≤ (fr + 3) ∧ (fr + 3) < 200) ∧ ((iR (fr + 4)) ∧ ((0 ≤ (fr + 4) ∧ (fr + 4) < 200) ∧ True))) := ⟨ir _ (by omega) (by omega), by omega, ir _ (by omega) (by omega), by omega, trivial⟩
  have o6 : ((h 19 (fr + 2)) = 5 → ((iR (fr + 3)) ∧ ((0 ≤ (fr + 3) ∧ (fr + 3) < 200) ∧ ((iR (fr + 4)) ∧ ((0 ≤ (fr + 4) ∧ (fr + 4) < 200) ∧ True))))) ∧ (¬ (h 19 (fr + 2)) = 5 → ((0 ≤ t ∧ t < 10) ∧ ((¬ (h 19 (fr + 2)) = (h 9 t) → True) ∧ ((h 19 (fr + 2)) = (h 9 t) → ((iR (fr + 3)) ∧ ((0 ≤ (fr + 3) ∧ (fr + 3) < 200) ∧ ((iR (fr + 4)) ∧ ((0 ≤ (fr + 4) ∧ (fr + 4) < 200) ∧ True)))))))) := ⟨fun _ => o5, fun _ => ⟨H.2, fun _ => trivial, fun _ => o5⟩⟩
  refine v_X5_letsByItem w fr fo t hr h _ ⟨ir _ (by omega) (by omega), by omega, ir _ (by omega) (by omega), by omega, by omega, ⟨fun _ => trivial, fun _ => ⟨fun _ => o6, fun _ => ⟨H.2, fun _ => trivial, fun _ => o6⟩⟩⟩, b2i_c ?_, rfl⟩
  by_cases a1 : h 19 (fr + 1) = 4 <;> by_cases a2 : h 19 (fr + 2) = 5 <;> simp [a1, a2]
set_option maxRecDepth 100000 in
set_option maxHeartbeats 4000000 in
theorem v_X5_lets (w : WD) (fo : Int) (t : Int) (hr : Int) (h : HP) (K : Int → HP → Prop) 
    (I1 : Nat → Int → HP → Prop)
    (H : (∃ m : Nat, I1 m 0 h))
    (H1 : ∀ (n1 : Nat) (x4 : Int) (g1 : HP), I1 n1 x4 g1 → (((g1 2 6) ≤ x4 → K 0 g1) ∧ (¬ (g1 2 6) ≤ x4 → ((0 ≤ x4 ∧ x4 < 40) ∧ ((((¬ (g1 18 x4) = 114 → True) ∧ ((g1 18 x4) = 114 → ((iR (x4 * 5)) ∧ (((0 ≤ (x4 * 5) ∧ (x4 * 5) < 196) ∧ 0 ≤ t ∧ t < 10) ∧ True))))) ∧ (((((g1 18 x4) = 114) ∧ ((g1 19 (x4 * 5) = fo ∧ (g1 19 ((x4 * 5) + 1) = 4 ∨ g1 19 ((x4 * 5) + 1) = g1 10 t) ∧ (g1 19 ((x4 * 5) + 2) = 5 ∨ g1 19 ((x4 * 5) + 2) = g1 9 t) ∧ g1 19 ((x4 * 5) + 3) ≤ hr ∧ hr ≤ g1 19 ((x4 * 5) + 4)))) → K 1 g1) ∧ (¬ (((g1 18 x4) = 114) ∧ ((g1 19 (x4 * 5) = fo ∧ (g1 19 ((x4 * 5) + 1) = 4 ∨ g1 19 ((x4 * 5) + 1) = g1 10 t) ∧ (g1 19 ((x4 * 5) + 2) = 5 ∨ g1 19 ((x4 * 5) + 2) = g1 9 t) ∧ g1 19 ((x4 * 5) + 3) ≤ hr ∧ hr ≤ g1 19 ((x4 * 5) + 4)))) → ((iR (x4 + 1)) ∧ (∃ m : Nat, m < n1 ∧ I1 m (x4 + 1) g1))))))))) :
    Ev w Y_X5_lets 0 [some (vR 2), some (vI fo), some (vI t), some (vI hr), none] [] h (rI K) := by
  have L1 : ∀ (n1 : Nat) (x4 : Int) (g1 : HP), I1 n1 x4 g1 → Ev w Y_X5_lets 3 [some (vR 2), some (vI fo), some (vI t), some (vI hr), some (vI x4)] [] g1 (rI K) := by
    intro n1
    induction n1 using Nat.strongRecOn with
    | ind n1 ih1 =>
      intro x4 g1 H
      have H := H1 n1 x4 g1 H
      refine e_iload (pc := 3) dX5_lets_3 rfl ?_
      refine e_aload_n (pc := 5) dX5_lets_5 rfl rfl ?_
      refine e_getI (q := 2) (ci := 5) (k := 6) (kz := 6) (C := RX5) (T := TX5) (N := 7) (x := (g1 2 6)) (pc := 6) dX5_lets_6 rfl rfl rfl ev_in5 rfl ul_1_92 ⟨rfl, by decide⟩ rfl ?_
      refine e_icmp_ge (pc := 9) (tgt := 46) dX5_lets_9 (by decide) (fun c1 => ?_) (fun c1 => ?_)
      · have H := H.1 c1
        refine e_iconst (pc := 46) dX5_lets_46 ⟨by decide, by decide⟩ ?_
        exact e_ret (pc := 47) (v := some (vI 0)) dX5_lets_47 rfl (Or.inl rfl) ⟨_, rfl, H⟩
      · have H := H.2 c1
        refine e_aload_n (pc := 12) dX5_lets_12 rfl rfl ?_
        refine e_getR (q := 2) (ci := 5) (k := 3) (y := 18) (C := RX5) (T := TX5) (N := 7) (pc := 13) dX5_lets_13 rfl rfl ev_in5 rfl ul_1_87 ⟨rfl, rfl⟩ rfl ?_
        refine e_iload (pc := 16) dX5_lets_16 rfl ?_
        refine e_iald (q := 18) (x := (g1 18 x4)) (pc := 18) dX5_lets_18 rfl H.1 rfl ?_
        have H := H.2
        refine e_bipush (pc := 19) dX5_lets_19 ⟨by decide, by decide⟩ (by decide) ?_
        have Ho := H.1
        have H := H.2
        have J1 : (((g1 18 x4) = 114) ∧ ((g1 19 (x4 * 5) = fo ∧ (g1 19 ((x4 * 5) + 1) = 4 ∨ g1 19 ((x4 * 5) + 1) = g1 10 t) ∧ (g1 19 ((x4 * 5) + 2) = 5 ∨ g1 19 ((x4 * 5) + 2) = g1 9 t) ∧ g1 19 ((x4 * 5) + 3) ≤ hr ∧ hr ≤ g1 19 ((x4 * 5) + 4)))) → Ev w Y_X5_lets 38 [some (vR 2), some (vI fo), some (vI t), some (vI hr), some (vI x4)] [] g1 (rI K) := by
          intro hp
          have H := H.1 hp
          refine e_iconst (pc := 38) dX5_lets_38 ⟨by decide, by decide⟩ ?_
          exact e_ret (pc := 39) (v := some (vI 1)) dX5_lets_39 rfl (Or.inr rfl) ⟨_, rfl, H⟩
        have J2 : ¬ (((g1 18 x4) = 114) ∧ ((g1 19 (x4 * 5) = fo ∧ (g1 19 ((x4 * 5) + 1) = 4 ∨ g1 19 ((x4 * 5) + 1) = g1 10 t) ∧ (g1 19 ((x4 * 5) + 2) = 5 ∨ g1 19 ((x4 * 5) + 2) = g1 9 t) ∧ g1 19 ((x4 * 5) + 3) ≤ hr ∧ hr ≤ g1 19 ((x4 * 5) + 4)))) → Ev w Y_X5_lets 40 [some (vR 2), some (vI fo), some (vI t), some (vI hr), some (vI x4)] [] g1 (rI K) := by
          intro hp
          have H := H.2 hp
          refine e_iinc (lv' := [some (vR 2), some (vI fo), some (vI t), some (vI hr), some (vI (x4 + 1))]) (pc := 40) dX5_lets_40 rfl H.1 rfl rfl ?_
          have H := H.2
          refine e_goto (pc := 43) (tgt := 3) dX5_lets_43 (by decide) ?_
          obtain ⟨m, hm, H⟩ := H
          exact ih1 m hm _ _ H
        refine e_icmp_ne (pc := 21) (tgt := 40) dX5_lets_21 (by decide) (fun c2 => ?_) (fun c2 => ?_)
        · have Ho := Ho.1 c2
          exact J2 (fun z => c2 z.1)
        · have Ho := Ho.2 c2
          refine e_aload_n (pc := 24) dX5_lets_24 rfl rfl ?_
          refine e_iload (pc := 25) dX5_lets_25 rfl ?_
          refine e_iconst (pc := 27) dX5_lets_27 ⟨by decide, by decide⟩ ?_
          refine e_imul (pc := 28) dX5_lets_28 Ho.1 ?_
          have Ho := Ho.2
          refine e_iload_n (pc := 29) dX5_lets_29 rfl rfl ?_
          refine e_iload_n (pc := 30) dX5_lets_30 rfl rfl ?_
          refine e_iload_n (pc := 31) dX5_lets_31 rfl rfl ?_
          refine e_invV (pc := 32) (Y' := Y_X5_letsByItem) (as := [vI (x4 * 5), vI fo, vI t, vI hr]) (st := []) (lv0 := [some (vR 2), some (vI (x4 * 5)), some (vI fo), some (vI t), some (vI hr), none, none]) (q := 2) (ci := 5) (T := TX5) (N := 7) dX5_lets_32 m_X5_letsByItem ul_3_14 ⟨ul_3_16, us_X5_letsByItem⟩ ⟨rfl, rfl⟩ rfl rfl rfl rfl rfl rfl rfl (c_X5_letsByItem w (x4 * 5) fo t hr g1 Ho.1) ?_
          rintro _ hz ⟨_, rfl, rfl, hh⟩
          rw [hh]
          show Ev w Y_X5_lets 35 [some (vR 2), some (vI fo), some (vI t), some (vI hr), some (vI x4)] [vI (b2i (g1 19 (x4 * 5) = fo ∧ (g1 19 ((x4 * 5) + 1) = 4 ∨ g1 19 ((x4 * 5) + 1) = g1 10 t) ∧ (g1 19 ((x4 * 5) + 2) = 5 ∨ g1 19 ((x4 * 5) + 2) = g1 9 t) ∧ g1 19 ((x4 * 5) + 3) ≤ hr ∧ hr ≤ g1 19 ((x4 * 5) + 4)))] g1 (rI K)
          have Ho := Ho.2
          refine e_ifb_eq (pc := 35) (tgt := 40) dX5_lets_35 (by decide) (fun c3 => ?_) (fun c3 => ?_)
          · exact J2 (fun z => c3 z.2)
          · exact J1 ⟨c2, c3⟩
  refine e_iconst (pc := 0) dX5_lets_0 ⟨by decide, by decide⟩ ?_
  refine e_istore (lv' := [some (vR 2), some (vI fo), some (vI t), some (vI hr), some (vI 0)]) (pc := 1) dX5_lets_1 rfl rfl ?_
  obtain ⟨m, H⟩ := H
  exact L1 m _ _ H
set_option maxRecDepth 100000 in
set_option maxHeartbeats 4000000 in
theorem c_X5_lets (w : WD) (fo : Int) (t : Int) (hr : Int) (h : HP) (H : fOK h ∧ 0 ≤ t ∧ t < 10) : Ev w Y_X5_lets 0 [some (vR 2), some (vI fo), some (vI t), some (vI hr), none] [] h (rI (fun r h' => r = b2i (∃ k : Int, 0 ≤ k ∧ k < h 2 6 ∧ cLet h k fo t hr) ∧ h' = h)) := by
  obtain ⟨⟨h1, h2⟩, h3⟩ := H
  refine v_X5_lets w fo t hr h _ (fun n x4 g => g = h ∧ (0 ≤ x4 ∧ x4 ≤ h 2 6) ∧ n = (40 - x4).toNat ∧ ∀ k : Int, 0 ≤ k → k < x4 → ¬ cLet h k fo t hr) ⟨40, rfl, by omega, rfl, fun k a b => by omega⟩ ?_
  rintro n x4 g ⟨rfl, h0, rfl, hn⟩
  refine ⟨fun c => ⟨(b2i_f ?_).symm, rfl⟩, fun c => ⟨by omega, ⟨fun _ => trivial, fun _ => ⟨⟨by omega, by omega⟩, ⟨by omega, h3⟩, trivial⟩⟩, fun c2 => ⟨(b2i_t ⟨x4, h0.1, by omega, c2⟩).symm, rfl⟩, fun c2 => ⟨⟨by omega, by omega⟩, (40 - (x4 + 1)).toNat, by omega, rfl, by omega, rfl, fun k a b => ?_⟩⟩⟩
  · rintro ⟨k, a, b, d⟩
    exact hn k a (by omega) d
  · by_cases e : k = x4
    · subst e; exact c2
    · exact hn k a (by omega)
set_option maxRecDepth 100000 in
set_option maxHeartbeats 4000000 in
theorem v_X5_barsByItem (w : WD) (k : Int) (S : Int) (h : HP) (K : Int → HP → Prop) 
    (H : ((iR (k * 5)) ∧ ((0 ≤ (k * 5) ∧ (k * 5) < 200) ∧ ((inS S ∧ 0 ≤ (h 19 (k * 5)) ∧ (h 19 (k * 5)) < 10) ∧ ((iR ((k * 5) + 1)) ∧ ((0 ≤ ((k * 5) + 1) ∧ ((k * 5) + 1) < 200) ∧ (((h 19 ((k * 5) + 1)) ≤ (dgt S (h 19 (k * 5))) → ((0 ≤ k ∧ k < 40) ∧ ((¬ (h 18 k) = 120 → ((0 ≤ (h 19 (k * 5)) ∧ (h 19 (k * 5)) < 10) ∧ ((0 ≤ (h 9 (h 19 (k * 5))) ∧ (h 9 (h 19 (k * 5))) < 5) ∧ K (b2i ((h 15 (h 9 (h 19 (k * 5)))) = 0)) h))) ∧ ((h 18 k) = 120 → ((iR ((k * 5) + 2)) ∧ ((0 ≤ ((k * 5) + 2) ∧ ((k * 5) + 2) < 200) ∧ ((inS S ∧ 0 ≤ (h 19 ((k * 5) + 2)) ∧ (h 19 ((k * 5) + 2)) < 10) ∧ ((iR ((k * 5) + 3)) ∧ ((0 ≤ ((k * 5) + 3) ∧ ((k * 5) + 3) < 200) ∧ K (b2i (¬ (dgt S (h 19 ((k * 5) + 2))) < (h 19 ((k * 5) + 3)))) h))))))))) ∧ (¬ (h 19 ((k * 5) + 1)) ≤ (dgt S (h 19 (k * 5))) → K 0 h)))))))) :
    Ev w Y_X5_barsByItem 0 [some (vR 2), some (vI k), some (vI S), none, none] [] h (rI K) := by
  refine e_iload_n (pc := 0) dX5_barsByItem_0 rfl rfl ?_
  refine e_iconst (pc := 1) dX5_barsByItem_1 ⟨by decide, by decide⟩ ?_
  refine e_imul (pc := 2) dX5_barsByItem_2 H.1 ?_
  have H := H.2
  refine e_istore_n (lv' := [some (vR 2), some (vI k), some (vI S), some (vI (k * 5)), none]) (pc := 3) dX5_barsByItem_3 rfl rfl rfl ?_
  refine e_aload_n (pc := 4) dX5_barsByItem_4 rfl rfl ?_
  refine e_getR (q := 2) (ci := 5) (k := 4) (y := 19) (C := RX5) (T := TX5) (N := 7) (pc := 5) dX5_barsByItem_5 rfl rfl ev_in5 rfl ul_1_88 ⟨rfl, rfl⟩ rfl ?_
  refine e_iload_n (pc := 8) dX5_barsByItem_8 rfl rfl ?_
  refine e_iald (q := 19) (x := (h 19 (k * 5))) (pc := 9) dX5_barsByItem_9 rfl H.1 rfl ?_
  have H := H.2
  refine e_istore (lv' := [some (vR 2), some (vI k), some (vI S), some (vI (k * 5)), some (vI (h 19 (k * 5)))]) (pc := 10) dX5_barsByItem_10 rfl rfl ?_
  refine e_iload_n (pc := 12) dX5_barsByItem_12 rfl rfl ?_
  refine e_iload (pc := 13) dX5_barsByItem_13 rfl ?_
  refine e_invSN (pc := 15) (Y' := Y_X8_stateIn) (as := [vI S, vI (h 19 (k * 5))]) (st := []) (lv0 := [some (vI S), some (vI (h 19 (k * 5)))]) dX5_barsByItem_15 m_X8_stateIn nl_3 ul_2_154 ⟨rfl, rfl⟩ rfl rfl rfl rfl rfl (c_X8_stateIn w S (h 19 (k * 5)) h H.1) ?_
  rintro _ hz ⟨_, rfl, rfl, hh⟩
  rw [hh]
  show Ev w Y_X5_barsByItem 18 [some (vR 2), some (vI k), some (vI S), some (vI (k * 5)), some (vI (h 19 (k * 5)))] [vI (dgt S (h 19 (k * 5)))] h (rI K)
  have H := H.2
  refine e_aload_n (pc := 18) dX5_barsByItem_18 rfl rfl ?_
  refine e_getR (q := 2) (ci := 5) (k := 4) (y := 19) (C := RX5) (T := TX5) (N := 7) (pc := 19) dX5_barsByItem_19 rfl rfl ev_in5 rfl ul_1_88 ⟨rfl, rfl⟩ rfl ?_
  refine e_iload_n (pc := 22) dX5_barsByItem_22 rfl rfl ?_
  refine e_iconst (pc := 23) dX5_barsByItem_23 ⟨by decide, by decide⟩ ?_
  refine e_iadd (pc := 24) dX5_barsByItem_24 H.1 ?_
  have H := H.2
  refine e_iald (q := 19) (x := (h 19 ((k * 5) + 1))) (pc := 25) dX5_barsByItem_25 rfl H.1 rfl ?_
  have H := H.2
  refine e_icmp_ge (pc := 26) (tgt := 31) dX5_barsByItem_26 (by decide) (fun c1 => ?_) (fun c1 => ?_)
  · have H := H.1 c1
    refine e_aload_n (pc := 31) dX5_barsByItem_31 rfl rfl ?_
    refine e_getR (q := 2) (ci := 5) (k := 3) (y := 18) (C := RX5) (T := TX5) (N := 7) (pc := 32) dX5_barsByItem_32 rfl rfl ev_in5 rfl ul_1_87 ⟨rfl, rfl⟩ rfl ?_
    refine e_iload_n (pc := 35) dX5_barsByItem_35 rfl rfl ?_
    refine e_iald (q := 18) (x := (h 18 k)) (pc := 36) dX5_barsByItem_36 rfl H.1 rfl ?_
    have H := H.2
    refine e_bipush (pc := 37) dX5_barsByItem_37 ⟨by decide, by decide⟩ (by decide) ?_
    refine e_icmp_ne (pc := 39) (tgt := 71) dX5_barsByItem_39 (by decide) (fun c2 => ?_) (fun c2 => ?_)
    · have H := H.1 c2
      refine e_aload_n (pc := 71) dX5_barsByItem_71 rfl rfl ?_
      refine e_getR (q := 2) (ci := 5) (k := 0) (y := 1) (C := RX5) (T := TX5) (N := 7) (pc := 72) dX5_barsByItem_72 rfl rfl ev_in5 rfl ul_1_84 ⟨rfl, rfl⟩ rfl ?_
      refine e_getR (q := 1) (ci := 4) (k := 6) (y := 15) (C := RX4) (T := TX4) (N := 10) (pc := 75) dX5_barsByItem_75 rfl rfl ev_in4 rfl ul_1_46 ⟨rfl, rfl⟩ rfl ?_
      refine e_aload_n (pc := 78) dX5_barsByItem_78 rfl rfl ?_
      refine e_getR (q := 2) (ci := 5) (k := 0) (y := 1) (C := RX5) (T := TX5) (N := 7) (pc := 79) dX5_barsByItem_79 rfl rfl ev_in5 rfl ul_1_84 ⟨rfl, rfl⟩ rfl ?_
      refine e_getR (q := 1) (ci := 4) (k := 0) (y := 9) (C := RX4) (T := TX4) (N := 10) (pc := 82) dX5_barsByItem_82 rfl rfl ev_in4 rfl ul_1_34 ⟨rfl, rfl⟩ rfl ?_
      refine e_iload (pc := 85) dX5_barsByItem_85 rfl ?_
      refine e_iald (q := 9) (x := (h 9 (h 19 (k * 5)))) (pc := 87) dX5_barsByItem_87 rfl H.1 rfl ?_
      have H := H.2
      refine e_iald (q := 15) (x := (h 15 (h 9 (h 19 (k * 5))))) (pc := 88) dX5_barsByItem_88 rfl H.1 rfl ?_
      have H := H.2
      have J : Ev w Y_X5_barsByItem 97 [some (vR 2), some (vI k), some (vI S), some (vI (k * 5)), some (vI (h 19 (k * 5)))] [vI (b2i ((h 15 (h 9 (h 19 (k * 5)))) = 0))] h (rI K) := by
        exact e_ret (pc := 97) (v := some (vI (b2i ((h 15 (h 9 (h 19 (k * 5)))) = 0)))) dX5_barsByItem_97 rfl (b2i_01 _) ⟨_, rfl, H⟩
      refine e_if_ne (pc := 89) (tgt := 96) dX5_barsByItem_89 (by decide) (fun c3 => ?_) (fun c3 => ?_)
      · refine e_iconst (pc := 96) dX5_barsByItem_96 ⟨by decide, by decide⟩ ?_
        exact e_top (b2i_f c3) J
      · refine e_iconst (pc := 92) dX5_barsByItem_92 ⟨by decide, by decide⟩ ?_
        refine e_goto (pc := 93) (tgt := 97) dX5_barsByItem_93 (by decide) ?_
        exact e_top (b2i_t c3) J
    · have H := H.2 c2
      refine e_iload_n (pc := 42) dX5_barsByItem_42 rfl rfl ?_
      refine e_aload_n (pc := 43) dX5_barsByItem_43 rfl rfl ?_
      refine e_getR (q := 2) (ci := 5) (k := 4) (y := 19) (C := RX5) (T := TX5) (N := 7) (pc := 44) dX5_barsByItem_44 rfl rfl ev_in5 rfl ul_1_88 ⟨rfl, rfl⟩ rfl ?_
      refine e_iload_n (pc := 47) dX5_barsByItem_47 rfl rfl ?_
      refine e_iconst (pc := 48) dX5_barsByItem_48 ⟨by decide, by decide⟩ ?_
      refine e_iadd (pc := 49) dX5_barsByItem_49 H.1 ?_
      have H := H.2
      refine e_iald (q := 19) (x := (h 19 ((k * 5) + 2))) (pc := 50) dX5_barsByItem_50 rfl H.1 rfl ?_
      have H := H.2
      refine e_invSN (pc := 51) (Y' := Y_X8_stateIn) (as := [vI S, vI (h 19 ((k * 5) + 2))]) (st := []) (lv0 := [some (vI S), some (vI (h 19 ((k * 5) + 2)))]) dX5_barsByItem_51 m_X8_stateIn nl_3 ul_2_154 ⟨rfl, rfl⟩ rfl rfl rfl rfl rfl (c_X8_stateIn w S (h 19 ((k * 5) + 2)) h H.1) ?_
      rintro _ hz ⟨_, rfl, rfl, hh⟩
      rw [hh]
      show Ev w Y_X5_barsByItem 54 [some (vR 2), some (vI k), some (vI S), some (vI (k * 5)), some (vI (h 19 (k * 5)))] [vI (dgt S (h 19 ((k * 5) + 2)))] h (rI K)
      have H := H.2
      refine e_aload_n (pc := 54) dX5_barsByItem_54 rfl rfl ?_
      refine e_getR (q := 2) (ci := 5) (k := 4) (y := 19) (C := RX5) (T := TX5) (N := 7) (pc := 55) dX5_barsByItem_55 rfl rfl ev_in5 rfl ul_1_88 ⟨rfl, rfl⟩ rfl ?_
      refine e_iload_n (pc := 58) dX5_barsByItem_58 rfl rfl ?_
      refine e_iconst (pc := 59) dX5_barsByItem_59 ⟨by decide, by decide⟩ ?_
      refine e_iadd (pc := 60) dX5_barsByItem_60 H.1 ?_
      have H := H.2
      refine e_iald (q := 19) (x := (h 19 ((k * 5) + 3))) (pc := 61) dX5_barsByItem_61 rfl H.1 rfl ?_
      have H := H.2
      have J : Ev w Y_X5_barsByItem 70 [some (vR 2), some (vI k), some (vI S), some (vI (k * 5)), some (vI (h 19 (k * 5)))] [vI (b2i (¬ (dgt S (h 19 ((k * 5) + 2))) < (h 19 ((k * 5) + 3))))] h (rI K) := by
        exact e_ret (pc := 70) (v := some (vI (b2i (¬ (dgt S (h 19 ((k * 5) + 2))) < (h 19 ((k * 5) + 3)))))) dX5_barsByItem_70 rfl (b2i_01 _) ⟨_, rfl, H⟩
      refine e_icmp_lt (pc := 62) (tgt := 69) dX5_barsByItem_62 (by decide) (fun c4 => ?_) (fun c4 => ?_)
      · refine e_iconst (pc := 69) dX5_barsByItem_69 ⟨by decide, by decide⟩ ?_
        exact e_top (b2i_f (fun z => z c4)) J
      · refine e_iconst (pc := 65) dX5_barsByItem_65 ⟨by decide, by decide⟩ ?_
        refine e_goto (pc := 66) (tgt := 70) dX5_barsByItem_66 (by decide) ?_
        exact e_top (b2i_t c4) J
  · have H := H.2 c1
    refine e_iconst (pc := 29) dX5_barsByItem_29 ⟨by decide, by decide⟩ ?_
    exact e_ret (pc := 30) (v := some (vI 0)) dX5_barsByItem_30 rfl (Or.inl rfl) ⟨_, rfl, H⟩
set_option maxRecDepth 100000 in
set_option maxHeartbeats 4000000 in
theorem c_X5_barsByItem (w : WD) (k : Int) (S : Int) (h : HP) (H : HOK h ∧ fOK h ∧ inS S ∧ (0 ≤ k ∧ k < h 2 6) ∧ ¬ h 18 k = 114) : Ev w Y_X5_barsByItem 0 [some (vR 2), some (vI k), some (vI S), none, none] [] h (rI (fun r h' => r = b2i (cBar h k (dgt S)) ∧ h' = h)) := by
  obtain ⟨hH, hf, hS, hk, hl⟩ := H
  have h1 := hf.2 k hk.1 hk.2
  have h2 := hf.1
  have ir : ∀ x : Int, 0 ≤ x → x < 200 → iR x := fun x a b => ⟨by omega, by omega⟩
  rcases h1 with ⟨e, b⟩ | ⟨e, b⟩ | ⟨e, b⟩
  · exact absurd e hl
  · have key : cBar h k (dgt S) ↔ (h 19 (k * 5 + 1) ≤ dgt S (h 19 (k * 5)) ∧ h 19 (k * 5 + 3) ≤ dgt S (h 19 (k * 5 + 2))) := by unfold cBar iBar; rw [e]; simp
    refine v_X5_barsByItem w k S h _ ⟨ir _ (by omega) (by omega), by omega, ⟨hS, by omega, by omega⟩, ir _ (by omega) (by omega), by omega, fun c => ⟨by omega, fun c2 => absurd e c2, fun _ => ⟨ir _ (by omega) (by omega), by omega, ⟨hS, by omega, by omega⟩, ir _ (by omega) (by omega), by omega, b2i_c ?_, rfl⟩⟩, fun c => ⟨(b2i_f ?_).symm, rfl⟩⟩
    · rw [key]; omega
    · rw [key]; omega
  · have key : cBar h k (dgt S) ↔ (h 19 (k * 5 + 1) ≤ dgt S (h 19 (k * 5)) ∧ h 15 (h 9 (h 19 (k * 5))) = 0) := by unfold cBar iBar; rw [e]; simp
    have hr := (hH.2.1 (h 19 (k * 5)) (by omega) (by omega)).1
    refine v_X5_barsByItem w k S h _ ⟨ir _ (by omega) (by omega), by omega, ⟨hS, by omega, by omega⟩, ir _ (by omega) (by omega), by omega, fun c => ⟨by omega, fun c2 => ⟨by omega, by omega, b2i_c ?_, rfl⟩, fun c2 => by omega⟩, fun c => ⟨(b2i_f ?_).symm, rfl⟩⟩
    · rw [key]; omega
    · rw [key]; omega
theorem bset_jnext {p : Int → Prop} {x : Int} (h0 : 0 ≤ x) (h1 : x < 62) (hp : p x) : jor (bset p x.toNat) (jshl 1 x) = bset p (x + 1).toNat := by
  obtain ⟨k, rfl⟩ : ∃ k : Nat, x = (k : Int) := ⟨x.toNat, by omega⟩
  rw [toNat_s h0, Int.toNat_natCast, bset_jor (by omega), bset_s, b2i_t hp, Int.one_mul]
set_option maxRecDepth 100000 in
set_option maxHeartbeats 4000000 in
theorem v_X5_barring (w : WD) (S : Int) (h : HP) (K : Int → HP → Prop) 
    (I1 : Nat → Int → Int → HP → Prop)
    (H : (∃ m : Nat, I1 m 0 0 h))
    (H1 : ∀ (n1 : Nat) (x2 : Int) (x4 : Int) (g1 : HP), I1 n1 x2 x4 g1 → (((g1 2 6) ≤ x4 → K x2 g1) ∧ (¬ (g1 2 6) ≤ x4 → ((0 ≤ x4 ∧ x4 < 40) ∧ (((((g1 18 x4) = 114 → True) ∧ (¬ (g1 18 x4) = 114 → ((HOK g1 ∧ fOK g1 ∧ inS S ∧ (0 ≤ x4 ∧ x4 < g1 2 6) ∧ ¬ g1 18 x4 = 114) ∧ True)))) ∧ (((((g1 18 x4) = 114) ∨ (¬ (cBar g1 x4 (dgt S)))) → ((iR (x4 + 1)) ∧ (∃ m : Nat, m < n1 ∧ I1 m x2 (x4 + 1) g1))) ∧ (¬ (((g1 18 x4) = 114) ∨ (¬ (cBar g1 x4 (dgt S)))) → ((iR (x4 + 1)) ∧ (∃ m : Nat, m < n1 ∧ I1 m (jor x2 (jshl 1 x4)) (x4 + 1) g1))))))))) :
    Ev w Y_X5_barring 0 [some (vR 2), some (vI S), none, none, none] [] h (rL K) := by
  have L1 : ∀ (n1 : Nat) (x2 : Int) (x4 : Int) (g1 : HP), I1 n1 x2 x4 g1 → Ev w Y_X5_barring 5 [some (vR 2), some (vI S), some (vL x2), none, some (vI x4)] [] g1 (rL K) := by
    intro n1
    induction n1 using Nat.strongRecOn with
    | ind n1 ih1 =>
      intro x2 x4 g1 H
      have H := H1 n1 x2 x4 g1 H
      refine e_iload (pc := 5) dX5_barring_5 rfl ?_
      refine e_aload_n (pc := 7) dX5_barring_7 rfl rfl ?_
      refine e_getI (q := 2) (ci := 5) (k := 6) (kz := 6) (C := RX5) (T := TX5) (N := 7) (x := (g1 2 6)) (pc := 8) dX5_barring_8 rfl rfl rfl ev_in5 rfl ul_1_92 ⟨rfl, by decide⟩ rfl ?_
      refine e_icmp_ge (pc := 11) (tgt := 49) dX5_barring_11 (by decide) (fun c1 => ?_) (fun c1 => ?_)
      · have H := H.1 c1
        refine e_lload_n (pc := 49) dX5_barring_49 rfl rfl ?_
        exact e_ret (pc := 50) (v := some (vL x2)) dX5_barring_50 rfl trivial ⟨_, rfl, H⟩
      · have H := H.2 c1
        refine e_aload_n (pc := 14) dX5_barring_14 rfl rfl ?_
        refine e_getR (q := 2) (ci := 5) (k := 3) (y := 18) (C := RX5) (T := TX5) (N := 7) (pc := 15) dX5_barring_15 rfl rfl ev_in5 rfl ul_1_87 ⟨rfl, rfl⟩ rfl ?_
        refine e_iload (pc := 18) dX5_barring_18 rfl ?_
        refine e_iald (q := 18) (x := (g1 18 x4)) (pc := 20) dX5_barring_20 rfl H.1 rfl ?_
        have H := H.2
        refine e_bipush (pc := 21) dX5_barring_21 ⟨by decide, by decide⟩ (by decide) ?_
        have Ho := H.1
        have H := H.2
        have J1 : (((g1 18 x4) = 114) ∨ (¬ (cBar g1 x4 (dgt S)))) → Ev w Y_X5_barring 43 [some (vR 2), some (vI S), some (vL x2), none, some (vI x4)] [] g1 (rL K) := by
          intro hp
          have H := H.1 hp
          refine e_iinc (lv' := [some (vR 2), some (vI S), some (vL x2), none, some (vI (x4 + 1))]) (pc := 43) dX5_barring_43 rfl H.1 rfl rfl ?_
          have H := H.2
          refine e_goto (pc := 46) (tgt := 5) dX5_barring_46 (by decide) ?_
          obtain ⟨m, hm, H⟩ := H
          exact ih1 m hm _ _ _ H
        have J2 : ¬ (((g1 18 x4) = 114) ∨ (¬ (cBar g1 x4 (dgt S)))) → Ev w Y_X5_barring 36 [some (vR 2), some (vI S), some (vL x2), none, some (vI x4)] [] g1 (rL K) := by
          intro hp
          have H := H.2 hp
          refine e_lload_n (pc := 36) dX5_barring_36 rfl rfl ?_
          refine e_lconst (x := 1) (pc := 37) dX5_barring_37 ⟨by decide, by decide⟩ (by decide) ?_
          refine e_iload (pc := 38) dX5_barring_38 rfl ?_
          refine e_lshl (pc := 40) dX5_barring_40 ?_
          refine e_lor (pc := 41) dX5_barring_41 ?_
          refine e_lstore_n (lv' := [some (vR 2), some (vI S), some (vL (jor x2 (jshl 1 x4))), none, some (vI x4)]) (pc := 42) dX5_barring_42 rfl rfl rfl ?_
          refine e_iinc (lv' := [some (vR 2), some (vI S), some (vL (jor x2 (jshl 1 x4))), none, some (vI (x4 + 1))]) (pc := 43) dX5_barring_43 rfl H.1 rfl rfl ?_
          have H := H.2
          refine e_goto (pc := 46) (tgt := 5) dX5_barring_46 (by decide) ?_
          obtain ⟨m, hm, H⟩ := H
          exact ih1 m hm _ _ _ H
        refine e_icmp_eq (pc := 23) (tgt := 43) dX5_barring_23 (by decide) (fun c2 => ?_) (fun c2 => ?_)
        · have Ho := Ho.1 c2
          exact J1 (Or.inl c2)
        · have Ho := Ho.2 c2
          refine e_aload_n (pc := 26) dX5_barring_26 rfl rfl ?_
          refine e_iload (pc := 27) dX5_barring_27 rfl ?_
          refine e_iload_n (pc := 29) dX5_barring_29 rfl rfl ?_
          refine e_invV (pc := 30) (Y' := Y_X5_barsByItem) (as := [vI x4, vI S]) (st := []) (lv0 := [some (vR 2), some (vI x4), some (vI S), none, none]) (q := 2) (ci := 5) (T := TX5) (N := 7) dX5_barring_30 m_X5_barsByItem ul_3_26 ⟨ul_3_28, us_X5_barsByItem⟩ ⟨rfl, rfl⟩ rfl rfl rfl rfl rfl rfl rfl (c_X5_barsByItem w x4 S g1 Ho.1) ?_
          rintro _ hz ⟨_, rfl, rfl, hh⟩
          rw [hh]
          show Ev w Y_X5_barring 33 [some (vR 2), some (vI S), some (vL x2), none, some (vI x4)] [vI (b2i (cBar g1 x4 (dgt S)))] g1 (rL K)
          have Ho := Ho.2
          refine e_ifb_eq (pc := 33) (tgt := 43) dX5_barring_33 (by decide) (fun c3 => ?_) (fun c3 => ?_)
          · exact J1 (Or.inr c3)
          · exact J2 (fun z => z.elim c2 (fun z => z c3))
  refine e_lconst (x := 0) (pc := 0) dX5_barring_0 ⟨by decide, by decide⟩ (by decide) ?_
  refine e_lstore_n (lv' := [some (vR 2), some (vI S), some (vL 0), none, none]) (pc := 1) dX5_barring_1 rfl rfl rfl ?_
  refine e_iconst (pc := 2) dX5_barring_2 ⟨by decide, by decide⟩ ?_
  refine e_istore (lv' := [some (vR 2), some (vI S), some (vL 0), none, some (vI 0)]) (pc := 3) dX5_barring_3 rfl rfl ?_
  obtain ⟨m, H⟩ := H
  exact L1 m _ _ _ H
set_option maxRecDepth 100000 in
set_option maxHeartbeats 4000000 in
theorem c_X5_barring (w : WD) (S : Int) (h : HP) (H : HOK h ∧ fOK h ∧ inS S) : Ev w Y_X5_barring 0 [some (vR 2), some (vI S), none, none, none] [] h (rL (fun r h' => r = (bset (fun k => k < h 2 6 ∧ cBar h k (dgt S)) 40) ∧ h' = h)) := by
  obtain ⟨hH, hf, hS⟩ := H
  have h2 := hf.1
  refine v_X5_barring w S h _ (fun n x2 x4 g => g = h ∧ (0 ≤ x4 ∧ x4 ≤ h 2 6) ∧ n = (40 - x4).toNat ∧ x2 = bset (fun k => k < h 2 6 ∧ cBar h k (dgt S)) x4.toNat) ⟨40, rfl, by omega, rfl, rfl⟩ ?_
  rintro n x2 x4 g ⟨rfl, h0, rfl, rfl⟩
  refine ⟨fun c => ⟨(bset_past (by omega) (fun i a b z => by omega)).symm, rfl⟩, fun c => ⟨by omega, ⟨fun _ => trivial, fun c2 => ⟨⟨hH, hf, hS, by omega, c2⟩, trivial⟩⟩, fun c2 => ⟨⟨by omega, by omega⟩, (40 - (x4 + 1)).toNat, by omega, rfl, by omega, rfl, bset_skip h0.1 (fun z => c2.elim (fun y => ?_) (fun y => y z.2))⟩, fun c2 => ⟨⟨by omega, by omega⟩, (40 - (x4 + 1)).toNat, by omega, rfl, by omega, rfl, bset_jnext h0.1 (by omega) ⟨by omega, Classical.not_not.mp (fun z => c2 (Or.inr z))⟩⟩⟩⟩
  have := z.2
  unfold cBar iBar at this
  omega
set_option maxRecDepth 100000 in
set_option maxHeartbeats 4000000 in
theorem v_X5_barsNewly (w : WD) (S : Int) (S2 : Int) (h : HP) (K : Int → HP → Prop) 
    (H : (((((h 2 6) ≤ 0 → True) ∧ (¬ (h 2 6) ≤ 0 → ((HOK h ∧ fOK h ∧ inS S2) ∧ ((HOK h ∧ fOK h ∧ inS S) ∧ True))))) ∧ K (b2i ((¬ (h 2 6) ≤ 0) ∧ (¬ (jand (bset (fun k => k < h 2 6 ∧ cBar h k (dgt S2)) 40) (jxor (bset (fun k => k < h 2 6 ∧ cBar h k (dgt S)) 40) (-1))) = 0))) h)) :
    Ev w Y_X5_barsNewly 0 [some (vR 2), some (vI S), some (vI S2)] [] h (rI K) := by
  refine e_aload_n (pc := 0) dX5_barsNewly_0 rfl rfl ?_
  refine e_getI (q := 2) (ci := 5) (k := 6) (kz := 6) (C := RX5) (T := TX5) (N := 7) (x := (h 2 6)) (pc := 1) dX5_barsNewly_1 rfl rfl rfl ev_in5 rfl ul_1_92 ⟨rfl, by decide⟩ rfl ?_
  have J : Ev w Y_X5_barsNewly 32 [some (vR 2), some (vI S), some (vI S2)] [vI (b2i ((¬ (h 2 6) ≤ 0) ∧ (¬ (jand (bset (fun k => k < h 2 6 ∧ cBar h k (dgt S2)) 40) (jxor (bset (fun k => k < h 2 6 ∧ cBar h k (dgt S)) 40) (-1))) = 0)))] h (rI K) := by
    have H := H.2
    exact e_ret (pc := 32) (v := some (vI (b2i ((¬ (h 2 6) ≤ 0) ∧ (¬ (jand (bset (fun k => k < h 2 6 ∧ cBar h k (dgt S2)) 40) (jxor (bset (fun k => k < h 2 6 ∧ cBar h k (dgt S)) 40) (-1))) = 0))))) dX5_barsNewly_32 rfl (b2i_01 _) ⟨_, rfl, H⟩
  have Ho := H.1
  refine e_if_le (pc := 4) (tgt := 31) dX5_barsNewly_4 (by decide) (fun c1 => ?_) (fun c1 => ?_)
  · have Ho := Ho.1 c1
    refine e_iconst (pc := 31) dX5_barsNewly_31 ⟨by decide, by decide⟩ ?_
    exact e_top (b2i_f (fun z => (fun z => z c1) z.1)) J
  · have Ho := Ho.2 c1
    refine e_aload_n (pc := 7) dX5_barsNewly_7 rfl rfl ?_
    refine e_iload_n (pc := 8) dX5_barsNewly_8 rfl rfl ?_
    refine e_invV (pc := 9) (Y' := Y_X5_barring) (as := [vI S2]) (st := []) (lv0 := [some (vR 2), some (vI S2), none, none, none]) (q := 2) (ci := 5) (T := TX5) (N := 7) dX5_barsNewly_9 m_X5_barring ul_3_203 ⟨ul_3_23, ul_3_24⟩ ⟨rfl, rfl⟩ rfl rfl rfl rfl rfl rfl rfl (c_X5_barring w S2 h Ho.1) ?_
    rintro _ hz ⟨_, rfl, rfl, hh⟩
    rw [hh]
    show Ev w Y_X5_barsNewly 12 [some (vR 2), some (vI S), some (vI S2)] [vL (bset (fun k => k < h 2 6 ∧ cBar h k (dgt S2)) 40)] h (rI K)
    have Ho := Ho.2
    refine e_aload_n (pc := 12) dX5_barsNewly_12 rfl rfl ?_
    refine e_iload_n (pc := 13) dX5_barsNewly_13 rfl rfl ?_
    refine e_invV (pc := 14) (Y' := Y_X5_barring) (as := [vI S]) (st := [vL (bset (fun k => k < h 2 6 ∧ cBar h k (dgt S2)) 40)]) (lv0 := [some (vR 2), some (vI S), none, none, none]) (q := 2) (ci := 5) (T := TX5) (N := 7) dX5_barsNewly_14 m_X5_barring ul_3_203 ⟨ul_3_23, ul_3_24⟩ ⟨rfl, rfl⟩ rfl rfl rfl rfl rfl rfl rfl (c_X5_barring w S h Ho.1) ?_
    rintro _ hz ⟨_, rfl, rfl, hh⟩
    rw [hh]
    show Ev w Y_X5_barsNewly 17 [some (vR 2), some (vI S), some (vI S2)] [vL (bset (fun k => k < h 2 6 ∧ cBar h k (dgt S)) 40), vL (bset (fun k => k < h 2 6 ∧ cBar h k (dgt S2)) 40)] h (rI K)
    have Ho := Ho.2
    refine e_ldc2 (x := (-1)) (pc := 17) dX5_barsNewly_17 ul_3_204 ⟨by decide, by decide⟩ ?_
    refine e_lxor (pc := 20) dX5_barsNewly_20 ?_
    refine e_land (pc := 21) dX5_barsNewly_21 ?_
    refine e_lconst (x := 0) (pc := 22) dX5_barsNewly_22 ⟨by decide, by decide⟩ (by decide) ?_
    refine e_lcif_eq (pc := 23) (tgt := 31) dX5_barsNewly_23 dX5_barsNewly_24 (by decide) (fun c2 => ?_) (fun c2 => ?_)
    · refine e_iconst (pc := 31) dX5_barsNewly_31 ⟨by decide, by decide⟩ ?_
      exact e_top (b2i_f (fun z => (fun z => z c2) z.2)) J
    · refine e_iconst (pc := 27) dX5_barsNewly_27 ⟨by decide, by decide⟩ ?_
      refine e_goto (pc := 28) (tgt := 32) dX5_barsNewly_28 (by decide) ?_
      exact e_top (b2i_t ⟨c1, c2⟩) J
set_option maxRecDepth 100000 in
set_option maxHeartbeats 4000000 in
theorem c_X5_barsNewly (w : WD) (S : Int) (S2 : Int) (h : HP) (H : HOK h ∧ fOK h ∧ inS S ∧ inS S2) : Ev w Y_X5_barsNewly 0 [some (vR 2), some (vI S), some (vI S2)] [] h (rI (fun r h' => r = b2i (∃ k : Int, 0 ≤ k ∧ k < h 2 6 ∧ cBar h k (dgt S2) ∧ ¬ cBar h k (dgt S)) ∧ h' = h)) := by
  obtain ⟨hH, hf, hS, hS2⟩ := H
  have h2 := hf.1
  refine v_X5_barsNewly w S S2 h _ ⟨⟨fun _ => trivial, fun _ => ⟨⟨hH, hf, hS2⟩, ⟨hH, hf, hS⟩, trivial⟩⟩, b2i_c ?_, rfl⟩
  rw [bset_jn (by decide)]
  constructor
  · rintro ⟨a, b⟩
    apply Classical.byContradiction
    intro z
    refine b (fun k k0 k1 hk => ⟨hk.1, Classical.byContradiction (fun y => z ⟨k, k0, hk.1, hk.2, y⟩)⟩)
  · rintro ⟨k, k0, k1, k2, k3⟩
    exact ⟨by omega, fun z => k3 (z k k0 (by omega) ⟨k1, k2⟩).2⟩
