/-! the row is run: one function for both sides -/
abbrev FS : Type := (Int → Int) × (Int → Int) × Int × List Int
noncomputable def fir (TN IN : Int → Int) (wk : Int → Int → List Int) (NB : (Int → Int) → (Int → Int) → Prop) : Nat → Nat → Int → (Int → Int) → (Int → Int) → Int → List Int → FS
  | 0, _, _, f, r, hd, L => (f, r, hd, L)
  | F + 1, k, c, f, r, hd, L => if k < L.length ∧ c < 30 then (if f (TN (L.getD k 0)) = IN (L.getD k 0) then fir TN IN wk NB F (k + 1) c f r hd L else @ite _ (NB f (us f (TN (L.getD k 0)) (IN (L.getD k 0)))) (Classical.propDecidable _) (fir TN IN wk NB F (k + 1) c f r (hd + 1) L) (fir TN IN wk NB F (k + 1) (c + 1) (us f (TN (L.getD k 0)) (IN (L.getD k 0))) (us r (TN (L.getD k 0)) (2000 + L.getD k 0)) hd (L ++ wk (TN (L.getD k 0)) (IN (L.getD k 0))))) else (f, r, hd, L)
section
variable {TN IN : Int → Int} {wk : Int → Int → List Int} {NB : (Int → Int) → (Int → Int) → Prop}
theorem fir_stop {F k : Nat} {c : Int} {f r : Int → Int} {hd : Int} {L : List Int} (h : ¬ (k < L.length ∧ c < 30)) : fir TN IN wk NB F k c f r hd L = (f, r, hd, L) := by
  cases F with
  | zero => rfl
  | succ F => simp only [fir]; rw [if_neg h]
theorem fir_same {F k : Nat} {c s : Int} {f r : Int → Int} {hd : Int} {L : List Int} (h : k < L.length ∧ c < 30) (hs : L.getD k 0 = s) (h1 : f (TN s) = IN s) : fir TN IN wk NB (F + 1) k c f r hd L = fir TN IN wk NB F (k + 1) c f r hd L := by
  simp only [fir]; rw [hs, if_pos h, if_pos h1]
theorem fir_bar {F k : Nat} {c s : Int} {f r : Int → Int} {hd : Int} {L : List Int} (h : k < L.length ∧ c < 30) (hs : L.getD k 0 = s) (h1 : ¬ f (TN s) = IN s) (h2 : NB f (us f (TN s) (IN s))) : fir TN IN wk NB (F + 1) k c f r hd L = fir TN IN wk NB F (k + 1) c f r (hd + 1) L := by
  simp only [fir]; rw [hs, if_pos h, if_neg h1, if_pos h2]
theorem fir_go {F k : Nat} {c s : Int} {f r : Int → Int} {hd : Int} {L : List Int} (h : k < L.length ∧ c < 30) (hs : L.getD k 0 = s) (h1 : ¬ f (TN s) = IN s) (h2 : ¬ NB f (us f (TN s) (IN s))) : fir TN IN wk NB (F + 1) k c f r hd L = fir TN IN wk NB F (k + 1) (c + 1) (us f (TN s) (IN s)) (us r (TN s) (2000 + s)) hd (L ++ wk (TN s) (IN s)) := by
  simp only [fir]; rw [hs, if_pos h, if_neg h1, if_neg h2]
end
theorem getD_mem {L : List Int} {k : Nat} (h : k < L.length) : L.getD k 0 ∈ L := by
  rw [List.getD_eq_getElem?_getD, List.getElem?_eq_getElem h]
  exact List.getElem_mem h
theorem wth_same {S t v : Int} (hS : inS S) (ht : 0 ≤ t ∧ t < 10) (hv : 0 ≤ v ∧ v ≤ 3) : wth S t v = S ↔ dgt S t = v := by
  constructor
  · intro e
    have := dgt_wth (S := S) (t := t) hv ht.1 ht.2
    rw [e, if_pos rfl] at this
    exact this
  · intro e
    refine dgt_ext (inS_wth hv) hS (fun u a b => ?_)
    rw [dgt_wth hv a b]
    by_cases c : u = t
    · rw [if_pos c, c, e]
    · rw [if_neg c]
theorem iBar_c {L a0 a1 a2 a3 a4 : Int} {s s' : Int → Int} {e : Int → Prop} (h : iOK L a0 a1 a2 a3 a4) (hs : ∀ t : Int, 0 ≤ t → t < 10 → s t = s' t) : iBar L a0 a1 a2 a3 s e ↔ iBar L a0 a1 a2 a3 s' e := by
  unfold iBar
  rcases h with h | h | h
  · rw [h.1]
    exact ⟨fun y => by rcases y with y | y <;> exact absurd y.1 (by decide), fun y => by rcases y with y | y <;> exact absurd y.1 (by decide)⟩
  · rw [hs a0 h.2.1.1 h.2.1.2, hs a2 h.2.2.2.1.1 h.2.2.2.1.2]
  · rw [hs a0 h.2.1.1 h.2.1.2, h.1]
    exact ⟨fun y => by rcases y with y | y; exact absurd y.1 (by decide); exact Or.inr y, fun y => by rcases y with y | y; exact absurd y.1 (by decide); exact Or.inr y⟩
def cNB (h : HP) (f f' : Int → Int) : Prop := ∃ k : Int, 0 ≤ k ∧ k < h 2 6 ∧ cBar h k f' ∧ ¬ cBar h k f
theorem cBar_c {h g : HP} {k : Int} {s s' : Int → Int} (h1 : g 18 = h 18) (h2 : g 19 = h 19) (h3 : g 15 = h 15) (h4 : g 9 = h 9) (hf : fOK h) (hk : 0 ≤ k ∧ k < h 2 6) (hs : ∀ t : Int, 0 ≤ t → t < 10 → s t = s' t) : cBar g k s ↔ cBar h k s' := by
  unfold cBar
  rw [h1, h2, h3, h4]
  exact iBar_c (hf.2 k hk.1 hk.2) hs
def SOK (h : HP) : Prop := (0 ≤ h 6 7 ∧ h 6 7 ≤ 8) ∧ ∀ s : Int, 0 ≤ s → s < h 6 7 → (0 ≤ h 41 s ∧ h 41 s < h 1 7) ∧ (0 ≤ h 42 s ∧ h 42 s ≤ 3)
noncomputable def wkC (h : HP) (t v : Int) : List Int := wkP (fun s => h 39 s = t ∧ h 40 s = v) (h 6 7).toNat
def frR (h g : HP) : Prop := (∀ q, q ≠ 1 → q ≠ 13 → q ≠ 6 → q ≠ 43 → g q = h q) ∧ (∀ i : Int, i ≠ 8 → g 1 i = h 1 i) ∧ (∀ i : Int, i ≠ 8 → i ≠ 9 → g 6 i = h 6 i)
def S_X6_runRow (c0 : Int) (h : HP) (K : HP → Prop) : Prop := ∃ L : List Int, (HOK h ∧ fOK h ∧ SOK h ∧ (0 ≤ c0 ∧ c0 ≤ 30) ∧ h 6 9 = (L.length : Int) ∧ rwH (h 43) L ∧ (∀ s : Int, s ∈ L → 0 ≤ s ∧ s < h 6 7) ∧ (L.length : Int) ≤ 8 + 8 * c0 ∧ (0 ≤ h 6 8 ∧ h 6 8 ≤ 2000000000)) ∧ ∀ h' : HP, frR h h' → HOK h' → (h 6 8 ≤ h' 6 8 ∧ h' 6 8 ≤ h 6 8 + 257) → (∃ R : FS, R = fir (h 41) (h 42) (wkC h) (cNB h) 257 0 c0 (dgt (h 1 8)) (h 13) (h 6 8) L ∧ (∀ t : Int, 0 ≤ t → t < 10 → dgt (h' 1 8) t = R.1 t) ∧ h' 13 = R.2.1 ∧ h' 6 8 = R.2.2.1) → K h'
set_option maxRecDepth 100000 in
set_option maxHeartbeats 4000000 in
theorem v_X6_runRow (w : WD) (c0 : Int) (h : HP) (K : HP → Prop) 
    (I1 : Nat → Int → Int → HP → Prop)
    (H : (∃ m : Nat, I1 m c0 0 h))
    (H1 : ∀ (n1 : Nat) (x2 : Int) (x3 : Int) (g1 : HP), I1 n1 x2 x3 g1 → ((((256 ≤ x3) ∨ (((g1 6 9) ≤ x3) ∨ (30 ≤ x2))) → K g1) ∧ (¬ ((256 ≤ x3) ∨ (((g1 6 9) ≤ x3) ∨ (30 ≤ x2))) → ((0 ≤ x3 ∧ x3 < 256) ∧ ((0 ≤ (g1 43 x3) ∧ (g1 43 x3) < 8) ∧ ((0 ≤ (g1 43 x3) ∧ (g1 43 x3) < 8) ∧ ((inS (g1 1 8) ∧ (0 ≤ (g1 41 (g1 43 x3)) ∧ (g1 41 (g1 43 x3)) < 10) ∧ (0 ≤ (g1 42 (g1 43 x3)) ∧ (g1 42 (g1 43 x3)) ≤ 3)) ∧ ((¬ (wth (g1 1 8) (g1 41 (g1 43 x3)) (g1 42 (g1 43 x3))) = (g1 1 8) → ((HOK g1 ∧ fOK g1 ∧ inS (g1 1 8) ∧ inS (wth (g1 1 8) (g1 41 (g1 43 x3)) (g1 42 (g1 43 x3)))) ∧ ((¬ (∃ k : Int, 0 ≤ k ∧ k < g1 2 6 ∧ cBar g1 k (dgt (wth (g1 1 8) (g1 41 (g1 43 x3)) (g1 42 (g1 43 x3)))) ∧ ¬ cBar g1 k (dgt (g1 1 8))) → ((0 ≤ (g1 43 x3) ∧ (g1 43 x3) < 8) ∧ ((0 ≤ (g1 43 x3) ∧ (g1 43 x3) < 8) ∧ ((iR (2000 + (g1 43 x3))) ∧ (S_X4_change (g1 41 (g1 43 x3)) (g1 42 (g1 43 x3)) (2000 + (g1 43 x3)) g1 (fun h21 => ((iR (x2 + 1)) ∧ ((0 ≤ (g1 43 x3) ∧ (g1 43 x3) < 8) ∧ ((0 ≤ (g1 43 x3) ∧ (g1 43 x3) < 8) ∧ (S_X6_rouse (h21 41 (g1 43 x3)) (h21 42 (g1 43 x3)) h21 (fun h22 => ((iR (x3 + 1)) ∧ (∃ m : Nat, m < n1 ∧ I1 m (x2 + 1) (x3 + 1) h22))))))))))))) ∧ ((∃ k : Int, 0 ≤ k ∧ k < g1 2 6 ∧ cBar g1 k (dgt (wth (g1 1 8) (g1 41 (g1 43 x3)) (g1 42 (g1 43 x3)))) ∧ ¬ cBar g1 k (dgt (g1 1 8))) → ((iR ((g1 6 8) + 1)) ∧ ((iR (x3 + 1)) ∧ (∃ m : Nat, m < n1 ∧ I1 m x2 (x3 + 1) (sth g1 6 8 ((g1 6 8) + 1))))))))) ∧ ((wth (g1 1 8) (g1 41 (g1 43 x3)) (g1 42 (g1 43 x3))) = (g1 1 8) → ((iR (x3 + 1)) ∧ (∃ m : Nat, m < n1 ∧ I1 m x2 (x3 + 1) g1))))))))))) :
    Ev w Y_X6_runRow 0 [some (vR 6), some (vI c0), none, none, none, none] [] h (rV K) := by
  have L1 : ∀ (n1 : Nat) (x2 : Int) (x3 : Int) (g1 : HP), I1 n1 x2 x3 g1 → Ev w Y_X6_runRow 4 [some (vR 6), none, some (vI x2), some (vI x3), none, none] [] g1 (rV K) := by
    intro n1
    induction n1 using Nat.strongRecOn with
    | ind n1 ih1 =>
      intro x2 x3 g1 H
      have H := H1 n1 x2 x3 g1 H
      refine e_iload_n (pc := 4) dX6_runRow_4 rfl rfl ?_
      refine e_sipush (pc := 5) dX6_runRow_5 ⟨by decide, by decide⟩ (by decide) ?_
      have J1 : ((256 ≤ x3) ∨ (((g1 6 9) ≤ x3) ∨ (30 ≤ x2))) → Ev w Y_X6_runRow 160 [some (vR 6), none, some (vI x2), some (vI x3), none, none] [] g1 (rV K) := by
        intro hp
        have H := H.1 hp
        exact e_ret (pc := 160) (v := none) dX6_runRow_160 rfl trivial ⟨rfl, H⟩
      have J2 : ¬ ((256 ≤ x3) ∨ (((g1 6 9) ≤ x3) ∨ (30 ≤ x2))) → Ev w Y_X6_runRow 25 [some (vR 6), none, some (vI x2), some (vI x3), none, none] [] g1 (rV K) := by
        intro hp
        have H := H.2 hp
        refine e_aload_n (pc := 25) dX6_runRow_25 rfl rfl ?_
        refine e_getR (q := 6) (ci := 6) (k := 6) (y := 43) (C := RX6) (T := TX6) (N := 10) (pc := 26) dX6_runRow_26 rfl rfl ev_in6 rfl ul_2_6 ⟨rfl, rfl⟩ rfl ?_
        refine e_iload_n (pc := 29) dX6_runRow_29 rfl rfl ?_
        refine e_iald (q := 43) (x := (g1 43 x3)) (pc := 30) dX6_runRow_30 rfl H.1 rfl ?_
        have H := H.2
        refine e_istore (lv' := [some (vR 6), none, some (vI x2), some (vI x3), some (vI (g1 43 x3)), none]) (pc := 31) dX6_runRow_31 rfl rfl ?_
        refine e_aload_n (pc := 33) dX6_runRow_33 rfl rfl ?_
        refine e_getR (q := 6) (ci := 6) (k := 0) (y := 1) (C := RX6) (T := TX6) (N := 10) (pc := 34) dX6_runRow_34 rfl rfl ev_in6 rfl ul_2_0 ⟨rfl, rfl⟩ rfl ?_
        refine e_getI (q := 1) (ci := 4) (k := 8) (kz := 8) (C := RX4) (T := TX4) (N := 10) (x := (g1 1 8)) (pc := 37) dX6_runRow_37 rfl rfl rfl ev_in4 rfl ul_1_52 ⟨rfl, by decide⟩ rfl ?_
        refine e_aload_n (pc := 40) dX6_runRow_40 rfl rfl ?_
        refine e_getR (q := 6) (ci := 6) (k := 4) (y := 41) (C := RX6) (T := TX6) (N := 10) (pc := 41) dX6_runRow_41 rfl rfl ev_in6 rfl ul_2_4 ⟨rfl, rfl⟩ rfl ?_
        refine e_iload (pc := 44) dX6_runRow_44 rfl ?_
        refine e_iald (q := 41) (x := (g1 41 (g1 43 x3))) (pc := 46) dX6_runRow_46 rfl H.1 rfl ?_
        have H := H.2
        refine e_aload_n (pc := 47) dX6_runRow_47 rfl rfl ?_
        refine e_getR (q := 6) (ci := 6) (k := 5) (y := 42) (C := RX6) (T := TX6) (N := 10) (pc := 48) dX6_runRow_48 rfl rfl ev_in6 rfl ul_2_5 ⟨rfl, rfl⟩ rfl ?_
        refine e_iload (pc := 51) dX6_runRow_51 rfl ?_
        refine e_iald (q := 42) (x := (g1 42 (g1 43 x3))) (pc := 53) dX6_runRow_53 rfl H.1 rfl ?_
        have H := H.2
        refine e_invSN (pc := 54) (Y' := Y_X8_with) (as := [vI (g1 1 8), vI (g1 41 (g1 43 x3)), vI (g1 42 (g1 43 x3))]) (st := []) (lv0 := [some (vI (g1 1 8)), some (vI (g1 41 (g1 43 x3))), some (vI (g1 42 (g1 43 x3)))]) dX6_runRow_54 m_X8_with nl_9 ul_3_144 ⟨rfl, rfl⟩ rfl rfl rfl rfl rfl (c_X8_with w (g1 1 8) (g1 41 (g1 43 x3)) (g1 42 (g1 43 x3)) g1 H.1) ?_
        rintro _ hz ⟨_, rfl, rfl, hh⟩
        rw [hh]
        show Ev w Y_X6_runRow 57 [some (vR 6), none, some (vI x2), some (vI x3), some (vI (g1 43 x3)), none] [vI (wth (g1 1 8) (g1 41 (g1 43 x3)) (g1 42 (g1 43 x3)))] g1 (rV K)
        have H := H.2
        refine e_istore (lv' := [some (vR 6), none, some (vI x2), some (vI x3), some (vI (g1 43 x3)), some (vI (wth (g1 1 8) (g1 41 (g1 43 x3)) (g1 42 (g1 43 x3))))]) (pc := 57) dX6_runRow_57 rfl rfl ?_
        refine e_iload (pc := 59) dX6_runRow_59 rfl ?_
        refine e_aload_n (pc := 61) dX6_runRow_61 rfl rfl ?_
        refine e_getR (q := 6) (ci := 6) (k := 0) (y := 1) (C := RX6) (T := TX6) (N := 10) (pc := 62) dX6_runRow_62 rfl rfl ev_in6 rfl ul_2_0 ⟨rfl, rfl⟩ rfl ?_
        refine e_getI (q := 1) (ci := 4) (k := 8) (kz := 8) (C := RX4) (T := TX4) (N := 10) (x := (g1 1 8)) (pc := 65) dX6_runRow_65 rfl rfl rfl ev_in4 rfl ul_1_52 ⟨rfl, by decide⟩ rfl ?_
        refine e_icmp_ne (pc := 68) (tgt := 74) dX6_runRow_68 (by decide) (fun c1 => ?_) (fun c1 => ?_)
        · have H := H.1 c1
          refine e_aload_n (pc := 74) dX6_runRow_74 rfl rfl ?_
          refine e_getR (q := 6) (ci := 6) (k := 1) (y := 2) (C := RX6) (T := TX6) (N := 10) (pc := 75) dX6_runRow_75 rfl rfl ev_in6 rfl ul_2_1 ⟨rfl, rfl⟩ rfl ?_
          refine e_aload_n (pc := 78) dX6_runRow_78 rfl rfl ?_
          refine e_getR (q := 6) (ci := 6) (k := 0) (y := 1) (C := RX6) (T := TX6) (N := 10) (pc := 79) dX6_runRow_79 rfl rfl ev_in6 rfl ul_2_0 ⟨rfl, rfl⟩ rfl ?_
          refine e_getI (q := 1) (ci := 4) (k := 8) (kz := 8) (C := RX4) (T := TX4) (N := 10) (x := (g1 1 8)) (pc := 82) dX6_runRow_82 rfl rfl rfl ev_in4 rfl ul_1_52 ⟨rfl, by decide⟩ rfl ?_
          refine e_iload (pc := 85) dX6_runRow_85 rfl ?_
          refine e_invV (pc := 87) (Y' := Y_X5_barsNewly) (as := [vI (g1 1 8), vI (wth (g1 1 8) (g1 41 (g1 43 x3)) (g1 42 (g1 43 x3)))]) (st := []) (lv0 := [some (vR 2), some (vI (g1 1 8)), some (vI (wth (g1 1 8) (g1 41 (g1 43 x3)) (g1 42 (g1 43 x3))))]) (q := 2) (ci := 5) (T := TX5) (N := 7) dX6_runRow_87 m_X5_barsNewly ul_4_25 ⟨ul_3_200, ul_3_201⟩ ⟨rfl, rfl⟩ rfl rfl rfl rfl rfl rfl rfl (c_X5_barsNewly w (g1 1 8) (wth (g1 1 8) (g1 41 (g1 43 x3)) (g1 42 (g1 43 x3))) g1 H.1) ?_
          rintro _ hz ⟨_, rfl, rfl, hh⟩
          rw [hh]
          show Ev w Y_X6_runRow 90 [some (vR 6), none, some (vI x2), some (vI x3), some (vI (g1 43 x3)), some (vI (wth (g1 1 8) (g1 41 (g1 43 x3)) (g1 42 (g1 43 x3))))] [vI (b2i (∃ k : Int, 0 ≤ k ∧ k < g1 2 6 ∧ cBar g1 k (dgt (wth (g1 1 8) (g1 41 (g1 43 x3)) (g1 42 (g1 43 x3)))) ∧ ¬ cBar g1 k (dgt (g1 1 8))))] g1 (rV K)
          have H := H.2
          refine e_ifb_eq (pc := 90) (tgt := 106) dX6_runRow_90 (by decide) (fun c2 => ?_) (fun c2 => ?_)
          · have H := H.1 c2
            refine e_aload_n (pc := 106) dX6_runRow_106 rfl rfl ?_
            refine e_getR (q := 6) (ci := 6) (k := 0) (y := 1) (C := RX6) (T := TX6) (N := 10) (pc := 107) dX6_runRow_107 rfl rfl ev_in6 rfl ul_2_0 ⟨rfl, rfl⟩ rfl ?_
            refine e_aload_n (pc := 110) dX6_runRow_110 rfl rfl ?_
            refine e_getR (q := 6) (ci := 6) (k := 4) (y := 41) (C := RX6) (T := TX6) (N := 10) (pc := 111) dX6_runRow_111 rfl rfl ev_in6 rfl ul_2_4 ⟨rfl, rfl⟩ rfl ?_
            refine e_iload (pc := 114) dX6_runRow_114 rfl ?_
            refine e_iald (q := 41) (x := (g1 41 (g1 43 x3))) (pc := 116) dX6_runRow_116 rfl H.1 rfl ?_
            have H := H.2
            refine e_aload_n (pc := 117) dX6_runRow_117 rfl rfl ?_
            refine e_getR (q := 6) (ci := 6) (k := 5) (y := 42) (C := RX6) (T := TX6) (N := 10) (pc := 118) dX6_runRow_118 rfl rfl ev_in6 rfl ul_2_5 ⟨rfl, rfl⟩ rfl ?_
            refine e_iload (pc := 121) dX6_runRow_121 rfl ?_
            refine e_iald (q := 42) (x := (g1 42 (g1 43 x3))) (pc := 123) dX6_runRow_123 rfl H.1 rfl ?_
            have H := H.2
            refine e_sipush (pc := 124) dX6_runRow_124 ⟨by decide, by decide⟩ (by decide) ?_
            refine e_iload (pc := 127) dX6_runRow_127 rfl ?_
            refine e_iadd (pc := 129) dX6_runRow_129 H.1 ?_
            have H := H.2
            refine e_invV (pc := 130) (Y' := Y_X4_change) (as := [vI (g1 41 (g1 43 x3)), vI (g1 42 (g1 43 x3)), vI (2000 + (g1 43 x3))]) (st := []) (lv0 := [some (vR 1), some (vI (g1 41 (g1 43 x3))), some (vI (g1 42 (g1 43 x3))), some (vI (2000 + (g1 43 x3)))]) (q := 1) (ci := 4) (T := TX4) (N := 10) dX6_runRow_130 m_X4_change ul_4_26 ⟨ul_4_2, ul_4_3⟩ ⟨rfl, rfl⟩ rfl rfl rfl rfl rfl rfl rfl (c_X4_change w (g1 41 (g1 43 x3)) (g1 42 (g1 43 x3)) (2000 + (g1 43 x3)) g1 _ H) ?_
            rintro _ h21 ⟨rfl, H⟩
            show Ev w Y_X6_runRow 133 [some (vR 6), none, some (vI x2), some (vI x3), some (vI (g1 43 x3)), some (vI (wth (g1 1 8) (g1 41 (g1 43 x3)) (g1 42 (g1 43 x3))))] [] h21 (rV K)
            refine e_iinc (lv' := [some (vR 6), none, some (vI (x2 + 1)), some (vI x3), some (vI (g1 43 x3)), some (vI (wth (g1 1 8) (g1 41 (g1 43 x3)) (g1 42 (g1 43 x3))))]) (pc := 133) dX6_runRow_133 rfl H.1 rfl rfl ?_
            have H := H.2
            refine e_aload_n (pc := 136) dX6_runRow_136 rfl rfl ?_
            refine e_aload_n (pc := 137) dX6_runRow_137 rfl rfl ?_
            refine e_getR (q := 6) (ci := 6) (k := 4) (y := 41) (C := RX6) (T := TX6) (N := 10) (pc := 138) dX6_runRow_138 rfl rfl ev_in6 rfl ul_2_4 ⟨rfl, rfl⟩ rfl ?_
            refine e_iload (pc := 141) dX6_runRow_141 rfl ?_
            refine e_iald (q := 41) (x := (h21 41 (g1 43 x3))) (pc := 143) dX6_runRow_143 rfl H.1 rfl ?_
            have H := H.2
            refine e_aload_n (pc := 144) dX6_runRow_144 rfl rfl ?_
            refine e_getR (q := 6) (ci := 6) (k := 5) (y := 42) (C := RX6) (T := TX6) (N := 10) (pc := 145) dX6_runRow_145 rfl rfl ev_in6 rfl ul_2_5 ⟨rfl, rfl⟩ rfl ?_
            refine e_iload (pc := 148) dX6_runRow_148 rfl ?_
            refine e_iald (q := 42) (x := (h21 42 (g1 43 x3))) (pc := 150) dX6_runRow_150 rfl H.1 rfl ?_
            have H := H.2
            refine e_invV (pc := 151) (Y' := Y_X6_rouse) (as := [vI (h21 41 (g1 43 x3)), vI (h21 42 (g1 43 x3))]) (st := []) (lv0 := [some (vR 6), some (vI (h21 41 (g1 43 x3))), some (vI (h21 42 (g1 43 x3))), none]) (q := 6) (ci := 6) (T := TX6) (N := 10) dX6_runRow_151 m_X6_rouse ul_4_27 ⟨ul_4_7, ul_4_8⟩ ⟨rfl, rfl⟩ rfl rfl rfl rfl rfl rfl rfl (c_X6_rouse w (h21 41 (g1 43 x3)) (h21 42 (g1 43 x3)) h21 _ H) ?_
            rintro _ h22 ⟨rfl, H⟩
            show Ev w Y_X6_runRow 154 [some (vR 6), none, some (vI (x2 + 1)), some (vI x3), some (vI (g1 43 x3)), some (vI (wth (g1 1 8) (g1 41 (g1 43 x3)) (g1 42 (g1 43 x3))))] [] h22 (rV K)
            refine e_iinc (lv' := [some (vR 6), none, some (vI (x2 + 1)), some (vI (x3 + 1)), some (vI (g1 43 x3)), some (vI (wth (g1 1 8) (g1 41 (g1 43 x3)) (g1 42 (g1 43 x3))))]) (pc := 154) dX6_runRow_154 rfl H.1 rfl rfl ?_
            have H := H.2
            refine e_goto (pc := 157) (tgt := 4) dX6_runRow_157 (by decide) ?_
            refine e_mask [true, false, true, true, false, false] rfl ?_
            obtain ⟨m, hm, H⟩ := H
            exact ih1 m hm _ _ _ H
          · have H := H.2 c2
            refine e_aload_n (pc := 93) dX6_runRow_93 rfl rfl ?_
            refine e_dup (pc := 94) dX6_runRow_94 rfl ?_
            refine e_getI (q := 6) (ci := 6) (k := 8) (kz := 8) (C := RX6) (T := TX6) (N := 10) (x := (g1 6 8)) (pc := 95) dX6_runRow_95 rfl rfl rfl ev_in6 rfl ul_2_10 ⟨rfl, by decide⟩ rfl ?_
            refine e_iconst (pc := 98) dX6_runRow_98 ⟨by decide, by decide⟩ ?_
            refine e_iadd (pc := 99) dX6_runRow_99 H.1 ?_
            have H := H.2
            refine e_put (q := 6) (ci := 6) (k := 8) (kz := 8) (C := RX6) (T := TX6) (N := 10) (ty := .int) (pc := 100) dX6_runRow_100 rfl rfl rfl ev_in6 tyX6 tyX6_ok nmX6 rfl ul_2_10 ⟨rfl, by decide⟩ rfl (tyX6_ok 8 (by decide)) (Or.inl rfl) ?_
            refine e_goto (pc := 103) (tgt := 154) dX6_runRow_103 (by decide) ?_
            refine e_iinc (lv' := [some (vR 6), none, some (vI x2), some (vI (x3 + 1)), some (vI (g1 43 x3)), some (vI (wth (g1 1 8) (g1 41 (g1 43 x3)) (g1 42 (g1 43 x3))))]) (pc := 154) dX6_runRow_154 rfl H.1 rfl rfl ?_
            have H := H.2
            refine e_goto (pc := 157) (tgt := 4) dX6_runRow_157 (by decide) ?_
            refine e_mask [true, false, true, true, false, false] rfl ?_
            obtain ⟨m, hm, H⟩ := H
            exact ih1 m hm _ _ _ H
        · have H := H.2 c1
          refine e_goto (pc := 71) (tgt := 154) dX6_runRow_71 (by decide) ?_
          refine e_iinc (lv' := [some (vR 6), none, some (vI x2), some (vI (x3 + 1)), some (vI (g1 43 x3)), some (vI (wth (g1 1 8) (g1 41 (g1 43 x3)) (g1 42 (g1 43 x3))))]) (pc := 154) dX6_runRow_154 rfl H.1 rfl rfl ?_
          have H := H.2
          refine e_goto (pc := 157) (tgt := 4) dX6_runRow_157 (by decide) ?_
          refine e_mask [true, false, true, true, false, false] rfl ?_
          obtain ⟨m, hm, H⟩ := H
          exact ih1 m hm _ _ _ H
      refine e_icmp_ge (pc := 8) (tgt := 160) dX6_runRow_8 (by decide) (fun c3 => ?_) (fun c3 => ?_)
      · exact J1 (Or.inl c3)
      · refine e_iload_n (pc := 11) dX6_runRow_11 rfl rfl ?_
        refine e_aload_n (pc := 12) dX6_runRow_12 rfl rfl ?_
        refine e_getI (q := 6) (ci := 6) (k := 9) (kz := 9) (C := RX6) (T := TX6) (N := 10) (x := (g1 6 9)) (pc := 13) dX6_runRow_13 rfl rfl rfl ev_in6 rfl ul_2_12 ⟨rfl, by decide⟩ rfl ?_
        refine e_icmp_ge (pc := 16) (tgt := 160) dX6_runRow_16 (by decide) (fun c4 => ?_) (fun c4 => ?_)
        · exact J1 (Or.inr (Or.inl c4))
        · refine e_iload_n (pc := 19) dX6_runRow_19 rfl rfl ?_
          refine e_bipush (pc := 20) dX6_runRow_20 ⟨by decide, by decide⟩ (by decide) ?_
          refine e_icmp_ge (pc := 22) (tgt := 160) dX6_runRow_22 (by decide) (fun c5 => ?_) (fun c5 => ?_)
          · exact J1 (Or.inr (Or.inr c5))
          · exact J2 (fun z => z.elim c3 (fun z => z.elim c4 c5))
  refine e_iload_n (pc := 0) dX6_runRow_0 rfl rfl ?_
  refine e_istore_n (lv' := [some (vR 6), some (vI c0), some (vI c0), none, none, none]) (pc := 1) dX6_runRow_1 rfl rfl rfl ?_
  refine e_iconst (pc := 2) dX6_runRow_2 ⟨by decide, by decide⟩ ?_
  refine e_istore_n (lv' := [some (vR 6), some (vI c0), some (vI c0), some (vI 0), none, none]) (pc := 3) dX6_runRow_3 rfl rfl rfl ?_
  refine e_mask [true, false, true, true, false, false] rfl ?_
  obtain ⟨m, H⟩ := H
  exact L1 m _ _ _ H
set_option maxRecDepth 100000 in
set_option maxHeartbeats 4000000 in
theorem c_X6_runRow (w : WD) (c0 : Int) (h : HP) (K : HP → Prop)  (H : S_X6_runRow c0 h K) : Ev w Y_X6_runRow 0 [some (vR 6), some (vI c0), none, none, none, none] [] h (rV K) := by
  obtain ⟨L0, ⟨hH, hF, hS, hc0, hl0, hr0, hm0, hb0, hd0⟩, HK⟩ := H
  have h67 := hS.1
  refine v_X6_runRow w c0 h K (fun n x2 x3 g => ∃ (k F : Nat) (f r : Int → Int) (L : List Int), x3 = (k : Int) ∧ n = (300 - x3).toNat ∧ F + k = 257 ∧ k ≤ L.length ∧ (c0 ≤ x2 ∧ x2 ≤ 30) ∧ (L.length : Int) ≤ 8 + 8 * x2 ∧ frR h g ∧ HOK g ∧ g 6 9 = (L.length : Int) ∧ rwH (g 43) L ∧ (∀ s : Int, s ∈ L → 0 ≤ s ∧ s < h 6 7) ∧ (h 6 8 ≤ g 6 8 ∧ g 6 8 ≤ h 6 8 + (k : Int)) ∧ (∀ t : Int, 0 ≤ t → t < 10 → dgt (g 1 8) t = f t) ∧ g 13 = r ∧ fir (h 41) (h 42) (wkC h) (cNB h) 257 0 c0 (dgt (h 1 8)) (h 13) (h 6 8) L0 = fir (h 41) (h 42) (wkC h) (cNB h) F k x2 f r (g 6 8) L) ⟨300, 0, 257, dgt (h 1 8), h 13, L0, rfl, rfl, rfl, Nat.zero_le _, by omega, hb0, ⟨fun _ _ _ _ _ => rfl, fun _ _ => rfl, fun _ _ _ => rfl⟩, hH, hl0, hr0, hm0, by omega, fun _ _ _ => rfl, rfl, rfl⟩ ?_
  rintro n x2 x3 g ⟨k, F, f, r, L, rfl, rfl, hFk, hkL, hc, hlen, hfr, hHg, hl, hr, hm, hd, hag, hrs, he⟩
  have gq := hfr.1
  rw [hl]
  refine ⟨fun z => ?_, fun z => ?_⟩
  · rw [fir_stop (F := F) (k := k) (c := x2) (L := L) (by rintro ⟨y1, y2⟩; rcases z with z | z | z <;> omega)] at he
    exact HK g hfr hHg (by omega) ⟨(f, r, g 6 8, L), he.symm, hag, hrs, rfl⟩
  · have hk : k < L.length ∧ x2 < 30 := ⟨Classical.byContradiction (fun y => z (Or.inr (Or.inl (by omega)))), Classical.byContradiction (fun y => z (Or.inr (Or.inr (by omega))))⟩
    obtain ⟨F, rfl⟩ : ∃ j, F = j + 1 := ⟨F - 1, by omega⟩
    generalize hs : L.getD k 0 = s at *
    have hsm := hm s (by rw [← hs]; exact getD_mem hk.1)
    have hst := hS.2 s hsm.1 hsm.2
    have h10 := hH.1
    have e43 : g 43 (k : Int) = s := by rw [hr k hk.1, hs]
    have g41 : g 41 = h 41 := gq _ (by decide) (by decide) (by decide) (by decide)
    have g42 : g 42 = h 42 := gq _ (by decide) (by decide) (by decide) (by decide)
    have g2 : g 2 = h 2 := gq _ (by decide) (by decide) (by decide) (by decide)
    have g18 : g 18 = h 18 := gq _ (by decide) (by decide) (by decide) (by decide)
    have g19 : g 19 = h 19 := gq _ (by decide) (by decide) (by decide) (by decide)
    have g15 : g 15 = h 15 := gq _ (by decide) (by decide) (by decide) (by decide)
    have g9 : g 9 = h 9 := gq _ (by decide) (by decide) (by decide) (by decide)
    have hin := hHg.2.2.1
    have hfg : fOK g := by unfold fOK; rw [g2, g18, g19]; exact hF
    have hnb : (∃ k : Int, 0 ≤ k ∧ k < h 2 6 ∧ cBar g k (dgt (wth (g 1 8) (h 41 s) (h 42 s))) ∧ ¬ cBar g k (dgt (g 1 8))) ↔ cNB h f (us f (h 41 s) (h 42 s)) := by
      unfold cNB
      have e1 : ∀ t : Int, 0 ≤ t → t < 10 → dgt (wth (g 1 8) (h 41 s) (h 42 s)) t = us f (h 41 s) (h 42 s) t := fun t a b => by
        rw [dgt_wth hst.2 a b]
        by_cases c : t = h 41 s
        · rw [if_pos c, c, us_s]
        · rw [if_neg c, us_n c]; exact hag t a b
      exact ⟨fun ⟨j, a, b, c, d⟩ => ⟨j, a, b, (cBar_c g18 g19 g15 g9 hF ⟨a, b⟩ e1).mp c, fun y => d ((cBar_c g18 g19 g15 g9 hF ⟨a, b⟩ hag).mpr y)⟩, fun ⟨j, a, b, c, d⟩ => ⟨j, a, b, (cBar_c g18 g19 g15 g9 hF ⟨a, b⟩ e1).mpr c, fun y => d ((cBar_c g18 g19 g15 g9 hF ⟨a, b⟩ hag).mp y)⟩⟩
    rw [e43, g41, g42, g2, hnb]
    refine ⟨by omega, by omega, by omega, ⟨hin, by omega, hst.2⟩, fun z1 => ⟨⟨hHg, hfg, hin, inS_wth hst.2⟩, fun z2 => ?_, fun z2 => ?_⟩, fun z1 => ?_⟩
    · have hne : ¬ f (h 41 s) = h 42 s := fun y => z1 ((wth_same hin (by omega) hst.2).mpr (by rw [hag _ hst.1.1 (by omega)]; exact y))
      refine ⟨by omega, by omega, ⟨by omega, by omega⟩, ⟨hin, by omega, hst.2⟩, by omega, ⟨by omega, by omega⟩, by omega, by omega, ?_⟩
      have k6 : sth (sth g 1 8 (wth (g 1 8) (h 41 s) (h 42 s))) 13 (h 41 s) (2000 + s) 6 = g 6 := by rw [sth_ne (by decide), sth_ne (by decide)]
      have k43 : sth (sth g 1 8 (wth (g 1 8) (h 41 s) (h 42 s))) 13 (h 41 s) (2000 + s) 43 = g 43 := by rw [sth_ne (by decide), sth_ne (by decide)]
      have k39 : sth (sth g 1 8 (wth (g 1 8) (h 41 s) (h 42 s))) 13 (h 41 s) (2000 + s) 39 = h 39 := by rw [sth_ne (by decide), sth_ne (by decide)]; exact gq _ (by decide) (by decide) (by decide) (by decide)
      have k40 : sth (sth g 1 8 (wth (g 1 8) (h 41 s) (h 42 s))) 13 (h 41 s) (2000 + s) 40 = h 40 := by rw [sth_ne (by decide), sth_ne (by decide)]; exact gq _ (by decide) (by decide) (by decide) (by decide)
      have k41 : sth (sth g 1 8 (wth (g 1 8) (h 41 s) (h 42 s))) 13 (h 41 s) (2000 + s) 41 = h 41 := by rw [sth_ne (by decide), sth_ne (by decide)]; exact g41
      have k42 : sth (sth g 1 8 (wth (g 1 8) (h 41 s) (h 42 s))) 13 (h 41 s) (2000 + s) 42 = h 42 := by rw [sth_ne (by decide), sth_ne (by decide)]; exact g42
      have g67 : g 6 7 = h 6 7 := hfr.2.2 7 (by decide) (by decide)
      rw [k41, k42]
      refine ⟨L, ⟨by rw [k6, g67]; omega, by rw [k6]; exact hl, by rw [k43]; exact hr, by omega⟩, fun h2 p1 p2 p3 p4 => ?_⟩
      rw [k6, g67, k39, k40] at p3 p4
      have hwl := wkP_l (fun s' => h 39 s' = h 41 s ∧ h 40 s' = h 42 s) (h 6 7).toNat
      have hla := List.length_append (as := L) (bs := wkP (fun s' => h 39 s' = h 41 s ∧ h 40 s' = h 42 s) (h 6 7).toNat)
      have m1 : h2 1 = us (g 1) 8 (wth (g 1 8) (h 41 s) (h 42 s)) := by rw [p1 1 (by decide) (by decide), sth_ne (by decide), sth_eq]
      have m68 : h2 6 8 = g 6 8 := by rw [p2 8 (by decide), k6]
      have m17 : h2 1 7 = g 1 7 := by rw [m1, us_n (by decide)]
      have m18 : h2 1 8 = wth (g 1 8) (h 41 s) (h 42 s) := by rw [m1, us_s]
      have mq : ∀ q, q ≠ 1 → q ≠ 13 → q ≠ 6 → q ≠ 43 → h2 q = g q := fun q a1 a2 a3 a4 => by rw [p1 q a4 a3, sth_ne a2, sth_ne a1]
      have g17 : g 1 7 = h 1 7 := hfr.2.1 7 (by decide)
      refine ⟨⟨by omega, by omega⟩, (300 - ((k + 1 : Nat) : Int)).toNat, by omega, k + 1, F, us f (h 41 s) (h 42 s), us r (h 41 s) (2000 + s), L ++ wkC h (h 41 s) (h 42 s), by omega, by omega, by omega, ?_, by omega, ?_, ⟨fun q a1 a2 a3 a4 => by rw [mq q a1 a2 a3 a4]; exact gq q a1 a2 a3 a4, fun i a => by rw [m1, us_n a]; exact hfr.2.1 i a, fun i a b => by rw [p2 i b, k6]; exact hfr.2.2 i a b⟩, ?_, p3, p4, ?_, ?_, ?_, ?_, ?_⟩
      · unfold wkC; omega
      · unfold wkC; omega
      · refine ⟨by rw [m17]; exact hHg.1, ?_, by rw [m18]; exact inS_wth hst.2, ?_, ?_, ?_⟩
        · rw [mq 9 (by decide) (by decide) (by decide) (by decide), mq 10 (by decide) (by decide) (by decide) (by decide), mq 11 (by decide) (by decide) (by decide) (by decide)]; exact hHg.2.1
        · intro t a b
          rw [m17] at a
          rw [m18, dgt_wth hst.2 (by have := hHg.1; omega) b, if_neg (by omega)]
          exact hHg.2.2.2.1 t a b
        · rw [mq 14 (by decide) (by decide) (by decide) (by decide)]; exact hHg.2.2.2.2.1
        · rw [mq 14 (by decide) (by decide) (by decide) (by decide), mq 15 (by decide) (by decide) (by decide) (by decide)]; exact hHg.2.2.2.2.2
      · intro s' hs'
        rw [List.mem_append] at hs'
        rcases hs' with y | y
        · exact hm s' y
        · have := (wkP_m _ _ _ y).1; omega
      · rw [m68]; omega
      · intro t a b
        rw [m18, dgt_wth hst.2 a b]
        by_cases c : t = h 41 s
        · rw [if_pos c, c, us_s]
        · rw [if_neg c, us_n c]; exact hag t a b
      · rw [p1 13 (by decide) (by decide), sth_eq, sth_ne (by decide), hrs]
      · rw [he, fir_go hk hs hne z2, m68]
    · have hne : ¬ f (h 41 s) = h 42 s := fun y => z1 ((wth_same hin (by omega) hst.2).mpr (by rw [hag _ hst.1.1 (by omega)]; exact y))
      refine ⟨⟨by omega, by omega⟩, ⟨by omega, by omega⟩, (300 - ((k + 1 : Nat) : Int)).toNat, by omega, k + 1, F, f, r, L, by omega, by omega, by omega, by omega, hc, hlen, ⟨fun q a1 a2 a3 a4 => by rw [sth_ne a3]; exact gq q a1 a2 a3 a4, fun i a => by rw [sth_ne (by decide)]; exact hfr.2.1 i a, fun i a b => by rw [sth_eq, us_n a]; exact hfr.2.2 i a b⟩, HOK_c (by rw [sth_ne (by decide)]) (by rw [sth_ne (by decide)]) (sth_ne (by decide)) (sth_ne (by decide)) (sth_ne (by decide)) (sth_ne (by decide)) (sth_ne (by decide)) hHg, by rw [sth_eq, us_n (by decide)]; exact hl, by rw [sth_ne (by decide)]; exact hr, hm, by rw [sth_eq, us_s]; omega, fun t a b => by rw [sth_ne (by decide)]; exact hag t a b, by rw [sth_ne (by decide)]; exact hrs, ?_⟩
      rw [sth_eq, us_s, he, fir_bar hk hs hne z2]
    · have hne : f (h 41 s) = h 42 s := by rw [← hag _ hst.1.1 (by omega)]; exact (wth_same hin (by omega) hst.2).mp z1
      exact ⟨⟨by omega, by omega⟩, (300 - ((k + 1 : Nat) : Int)).toNat, by omega, k + 1, F, f, r, L, by omega, by omega, by omega, by omega, hc, hlen, hfr, hHg, rfl, hr, hm, by omega, hag, hrs, by rw [he, fir_same hk hs hne]⟩
def S_X6_fireAt (a1 : Int) (h : HP) (K : HP → Prop) : Prop :=
  (S_X6_clearRow  h (fun h21 => (S_X6_rouse (-1) a1 h21 (fun h22 => (S_X6_runRow 0 h22 (fun h23 => K h23))))))
set_option maxRecDepth 100000 in
set_option maxHeartbeats 4000000 in
theorem v_X6_fireAt (w : WD) (a1 : Int) (h : HP) (K : HP → Prop) 
    (H : (S_X6_clearRow  h (fun h21 => (S_X6_rouse (-1) a1 h21 (fun h22 => (S_X6_runRow 0 h22 (fun h23 => K h23))))))) :
    Ev w Y_X6_fireAt 0 [some (vR 6), some (vI a1)] [] h (rV K) := by
  refine e_aload_n (pc := 0) dX6_fireAt_0 rfl rfl ?_
  refine e_invV (pc := 1) (Y' := Y_X6_clearRow) (as := []) (st := []) (lv0 := [some (vR 6)]) (q := 6) (ci := 6) (T := TX6) (N := 10) dX6_fireAt_1 m_X6_clearRow ul_4_69 ⟨ul_3_219, ul_3_220⟩ ⟨rfl, rfl⟩ rfl rfl rfl rfl rfl rfl rfl (c_X6_clearRow w h _ H) ?_
  rintro _ h21 ⟨rfl, H⟩
  show Ev w Y_X6_fireAt 4 [some (vR 6), some (vI a1)] [] h21 (rV K)
  refine e_aload_n (pc := 4) dX6_fireAt_4 rfl rfl ?_
  refine e_iconst (pc := 5) dX6_fireAt_5 ⟨by decide, by decide⟩ ?_
  refine e_iload_n (pc := 6) dX6_fireAt_6 rfl rfl ?_
  refine e_invV (pc := 7) (Y' := Y_X6_rouse) (as := [vI (-1), vI a1]) (st := []) (lv0 := [some (vR 6), some (vI (-1)), some (vI a1), none]) (q := 6) (ci := 6) (T := TX6) (N := 10) dX6_fireAt_7 m_X6_rouse ul_4_27 ⟨ul_4_7, ul_4_8⟩ ⟨rfl, rfl⟩ rfl rfl rfl rfl rfl rfl rfl (c_X6_rouse w (-1) a1 h21 _ H) ?_
  rintro _ h22 ⟨rfl, H⟩
  show Ev w Y_X6_fireAt 10 [some (vR 6), some (vI a1)] [] h22 (rV K)
  refine e_aload_n (pc := 10) dX6_fireAt_10 rfl rfl ?_
  refine e_iconst (pc := 11) dX6_fireAt_11 ⟨by decide, by decide⟩ ?_
  refine e_invV (pc := 12) (Y' := Y_X6_runRow) (as := [vI 0]) (st := []) (lv0 := [some (vR 6), some (vI 0), none, none, none, none]) (q := 6) (ci := 6) (T := TX6) (N := 10) dX6_fireAt_12 m_X6_runRow ul_4_70 ⟨ul_4_21, ul_4_22⟩ ⟨rfl, rfl⟩ rfl rfl rfl rfl rfl rfl rfl (c_X6_runRow w 0 h22 _ H) ?_
  rintro _ h23 ⟨rfl, H⟩
  show Ev w Y_X6_fireAt 15 [some (vR 6), some (vI a1)] [] h23 (rV K)
  exact e_ret (pc := 15) (v := none) dX6_fireAt_15 rfl trivial ⟨rfl, H⟩
theorem c_X6_fireAt (w : WD) (a1 : Int) (h : HP) (K : HP → Prop)  (H : S_X6_fireAt a1 h K) : Ev w Y_X6_fireAt 0 [some (vR 6), some (vI a1)] [] h (rV K) := v_X6_fireAt w a1 h K  H
