/-! states by firing one with all it wakes: one function for both sides -/
noncomputable def sbf (TN IN : Int → Int) (wk : Int → Int → List Int) (BR : Int → Prop) : Nat → Nat → Int → Int → List Int → Int
  | 0, _, _, S, _ => S
  | F + 1, k, c, S, L => if k < L.length ∧ c < 30 then (if dgt S (TN (L.getD k 0)) = IN (L.getD k 0) then sbf TN IN wk BR F (k + 1) c S L else @ite _ (BR (wth S (TN (L.getD k 0)) (IN (L.getD k 0)))) (Classical.propDecidable _) (-1) (sbf TN IN wk BR F (k + 1) (c + 1) (wth S (TN (L.getD k 0)) (IN (L.getD k 0))) (L ++ wk (TN (L.getD k 0)) (IN (L.getD k 0))))) else S
section
variable {TN IN : Int → Int} {wk : Int → Int → List Int} {BR : Int → Prop}
theorem sbf_stop {F k : Nat} {c S : Int} {L : List Int} (h : ¬ (k < L.length ∧ c < 30)) : sbf TN IN wk BR F k c S L = S := by
  cases F with
  | zero => rfl
  | succ F => simp only [sbf]; rw [if_neg h]
theorem sbf_same {F k : Nat} {c S s : Int} {L : List Int} (h : k < L.length ∧ c < 30) (hs : L.getD k 0 = s) (h1 : dgt S (TN s) = IN s) : sbf TN IN wk BR (F + 1) k c S L = sbf TN IN wk BR F (k + 1) c S L := by
  simp only [sbf]; rw [hs, if_pos h, if_pos h1]
theorem sbf_bar {F k : Nat} {c S s : Int} {L : List Int} (h : k < L.length ∧ c < 30) (hs : L.getD k 0 = s) (h1 : ¬ dgt S (TN s) = IN s) (h2 : BR (wth S (TN s) (IN s))) : sbf TN IN wk BR (F + 1) k c S L = -1 := by
  simp only [sbf]; rw [hs, if_pos h, if_neg h1, if_pos h2]
theorem sbf_go {F k : Nat} {c S s : Int} {L : List Int} (h : k < L.length ∧ c < 30) (hs : L.getD k 0 = s) (h1 : ¬ dgt S (TN s) = IN s) (h2 : ¬ BR (wth S (TN s) (IN s))) : sbf TN IN wk BR (F + 1) k c S L = sbf TN IN wk BR F (k + 1) (c + 1) (wth S (TN s) (IN s)) (L ++ wk (TN s) (IN s)) := by
  simp only [sbf]; rw [hs, if_pos h, if_neg h1, if_neg h2]
theorem sbf_c {TN' IN' : Int → Int} {wk' : Int → Int → List Int} {BR' : Int → Prop} {N : Int}
    (h1 : ∀ s : Int, 0 ≤ s → s < N → TN s = TN' s ∧ IN s = IN' s ∧ 0 ≤ TN s)
    (h2 : ∀ t v : Int, 0 ≤ t → wk t v = wk' t v) (h3 : ∀ t v s : Int, s ∈ wk t v → 0 ≤ s ∧ s < N)
    (h4 : ∀ S : Int, BR S ↔ BR' S) : ∀ (F k : Nat) (c S : Int) (L : List Int), (∀ s : Int, s ∈ L → 0 ≤ s ∧ s < N) → sbf TN IN wk BR F k c S L = sbf TN' IN' wk' BR' F k c S L
  | 0, k, c, S, L, hL => rfl
  | F + 1, k, c, S, L, hL => by
    by_cases hk : k < L.length ∧ c < 30
    · generalize hs : L.getD k 0 = s
      have hm := hL s (by rw [← hs]; exact getD_mem hk.1)
      have e := h1 s hm.1 hm.2
      by_cases z : dgt S (TN s) = IN s
      · rw [sbf_same hk hs z, sbf_same hk hs (by rw [← e.1, ← e.2.1]; exact z)]
        exact sbf_c h1 h2 h3 h4 F (k + 1) c S L hL
      · have z' : ¬ dgt S (TN' s) = IN' s := by rw [← e.1, ← e.2.1]; exact z
        by_cases y : BR (wth S (TN s) (IN s))
        · rw [sbf_bar hk hs z y, sbf_bar hk hs z' (by rw [← e.1, ← e.2.1]; exact (h4 _).mp y)]
        · rw [sbf_go hk hs z y, sbf_go hk hs z' (by rw [← e.1, ← e.2.1]; exact fun u => y ((h4 _).mpr u)), ← e.1, ← e.2.1, ← h2 (TN s) (IN s) e.2.2]
          refine sbf_c h1 h2 h3 h4 F (k + 1) (c + 1) _ _ (fun s' hs' => ?_)
          rw [List.mem_append] at hs'
          rcases hs' with q | q
          · exact hL s' q
          · exact h3 _ _ s' q
    · rw [sbf_stop hk, sbf_stop hk]
theorem sbf_in {N : Int} (h1 : ∀ s : Int, 0 ≤ s → s < N → 0 ≤ IN s ∧ IN s ≤ 3) (h3 : ∀ t v s : Int, s ∈ wk t v → 0 ≤ s ∧ s < N) : ∀ (F k : Nat) (c S : Int) (L : List Int), inS S → (∀ s : Int, s ∈ L → 0 ≤ s ∧ s < N) → sbf TN IN wk BR F k c S L = -1 ∨ inS (sbf TN IN wk BR F k c S L)
  | 0, k, c, S, L, hS, hL => Or.inr hS
  | F + 1, k, c, S, L, hS, hL => by
    by_cases hk : k < L.length ∧ c < 30
    · generalize hs : L.getD k 0 = s
      have hm := hL s (by rw [← hs]; exact getD_mem hk.1)
      by_cases z : dgt S (TN s) = IN s
      · rw [sbf_same hk hs z]
        exact sbf_in h1 h3 F (k + 1) c S L hS hL
      · by_cases y : BR (wth S (TN s) (IN s))
        · rw [sbf_bar hk hs z y]; exact Or.inl rfl
        · rw [sbf_go hk hs z y]
          refine sbf_in h1 h3 F (k + 1) (c + 1) _ _ (inS_wth (h1 s hm.1 hm.2)) (fun s' hs' => ?_)
          rw [List.mem_append] at hs'
          rcases hs' with q | q
          · exact hL s' q
          · exact h3 _ _ s' q
    · rw [sbf_stop hk]; exact Or.inr hS
/-- where the states' digits come from -/
theorem sbf_dg {N : Int} (h1 : ∀ s : Int, 0 ≤ s → s < N → (0 ≤ IN s ∧ IN s ≤ 3) ∧ 0 ≤ TN s) {WP : Int → Prop} (h3 : ∀ t v s : Int, 0 ≤ t → s ∈ wk t v → (0 ≤ s ∧ s < N) ∧ WP s) : ∀ (F k : Nat) (c S : Int) (L : List Int), (∀ s : Int, s ∈ L → 0 ≤ s ∧ s < N) → (∀ i : Nat, k ≤ i → i < L.length → WP (L.getD i 0)) → sbf TN IN wk BR F k c S L = -1 ∨ ∀ t : Int, 0 ≤ t → t < 10 → dgt (sbf TN IN wk BR F k c S L) t = dgt S t ∨ ∃ x : Int, (0 ≤ x ∧ x < N) ∧ WP x ∧ TN x = t ∧ IN x = dgt (sbf TN IN wk BR F k c S L) t
  | 0, k, c, S, L, hL, hW => Or.inr (fun t _ _ => Or.inl rfl)
  | F + 1, k, c, S, L, hL, hW => by
    by_cases hk : k < L.length ∧ c < 30
    · generalize hs : L.getD k 0 = s
      have hm := hL s (by rw [← hs]; exact getD_mem hk.1)
      have hwp : WP s := by rw [← hs]; exact hW k (Nat.le_refl _) hk.1
      by_cases z : dgt S (TN s) = IN s
      · rw [sbf_same hk hs z]
        exact sbf_dg h1 h3 F (k + 1) c S L hL (fun i a b => hW i (by omega) b)
      · by_cases y : BR (wth S (TN s) (IN s))
        · rw [sbf_bar hk hs z y]; exact Or.inl rfl
        · rw [sbf_go hk hs z y]
          have ih := sbf_dg h1 h3 (WP := WP) F (k + 1) (c + 1) (wth S (TN s) (IN s)) (L ++ wk (TN s) (IN s)) (fun s' hs' => by
            rw [List.mem_append] at hs'
            rcases hs' with q | q
            · exact hL s' q
            · exact (h3 _ _ s' (h1 s hm.1 hm.2).2 q).1) (fun i a b => by
            rw [List.length_append] at b
            by_cases e : i < L.length
            · rw [List.getD_eq_getElem?_getD, List.getElem?_append_left e, ← List.getD_eq_getElem?_getD]
              exact hW i (by omega) e
            · have hmem : (L ++ wk (TN s) (IN s)).getD i 0 ∈ wk (TN s) (IN s) := by
                rw [List.getD_eq_getElem?_getD, List.getElem?_append_right (by omega), List.getElem?_eq_getElem (by omega)]
                exact List.getElem_mem _
              exact (h3 _ _ _ (h1 s hm.1 hm.2).2 hmem).2)
          rcases ih with ih | ih
          · exact Or.inl ih
          · refine Or.inr (fun t t0 t1 => ?_)
            rcases ih t t0 t1 with q | q
            · rw [dgt_wth (h1 s hm.1 hm.2).1 t0 t1] at q
              by_cases e : t = TN s
              · rw [if_pos e] at q
                exact Or.inr ⟨s, hm, hwp, e.symm, q.symm⟩
              · rw [if_neg e] at q
                exact Or.inl q
            · exact Or.inr q
    · rw [sbf_stop hk]; exact Or.inr (fun t _ _ => Or.inl rfl)
end
noncomputable def fwC (h : HP) (s S : Int) : Int := sbf (h 41) (h 42) (wkC h) (fun S' => cNB h (dgt (h 1 8)) (dgt S')) 257 0 0 S [s]
def S_X6_statesByFiring (s S b : Int) (h : HP) (K : Int → HP → Prop) : Prop := (HOK h ∧ fOK h ∧ SOK h ∧ (0 ≤ s ∧ s < h 6 7) ∧ inS S ∧ b = bset (fun k => k < h 2 6 ∧ cBar h k (dgt (h 1 8))) 40) ∧ ∀ h' : HP, (∀ q, q ≠ 6 → q ≠ 43 → h' q = h q) → (∀ i : Int, i ≠ 9 → h' 6 i = h 6 i) → (fwC h s S = -1 ∨ inS (fwC h s S)) → K (fwC h s S) h'
set_option maxRecDepth 100000 in
set_option maxHeartbeats 4000000 in
theorem v_X6_statesByFiring (w : WD) (s : Int) (S : Int) (b : Int) (h : HP) (K : Int → HP → Prop) 
    (I1 : Nat → Int → Int → Int → HP → Prop)
    (H : (S_X6_clearRow  h (fun h21 => (S_X6_putInRow s h21 (fun h22 => (∃ m : Nat, I1 m S 0 0 h22))))))
    (H1 : ∀ (n1 : Nat) (x5 : Int) (x6 : Int) (x7 : Int) (g1 : HP), I1 n1 x5 x6 x7 g1 → ((((256 ≤ x7) ∨ (((g1 6 9) ≤ x7) ∨ (30 ≤ x6))) → K x5 g1) ∧ (¬ ((256 ≤ x7) ∨ (((g1 6 9) ≤ x7) ∨ (30 ≤ x6))) → ((0 ≤ x7 ∧ x7 < 256) ∧ ((0 ≤ (g1 43 x7) ∧ (g1 43 x7) < 8) ∧ ((0 ≤ (g1 43 x7) ∧ (g1 43 x7) < 8) ∧ ((inS x5 ∧ (0 ≤ (g1 41 (g1 43 x7)) ∧ (g1 41 (g1 43 x7)) < 10) ∧ (0 ≤ (g1 42 (g1 43 x7)) ∧ (g1 42 (g1 43 x7)) ≤ 3)) ∧ ((¬ (wth x5 (g1 41 (g1 43 x7)) (g1 42 (g1 43 x7))) = x5 → ((HOK g1 ∧ fOK g1 ∧ inS (wth x5 (g1 41 (g1 43 x7)) (g1 42 (g1 43 x7)))) ∧ (((jand (bset (fun k => k < g1 2 6 ∧ cBar g1 k (dgt (wth x5 (g1 41 (g1 43 x7)) (g1 42 (g1 43 x7))))) 40) (jxor b (-1))) = 0 → ((iR (x6 + 1)) ∧ ((0 ≤ (g1 43 x7) ∧ (g1 43 x7) < 8) ∧ ((0 ≤ (g1 43 x7) ∧ (g1 43 x7) < 8) ∧ (S_X6_rouse (g1 41 (g1 43 x7)) (g1 42 (g1 43 x7)) g1 (fun h23 => ((iR (x7 + 1)) ∧ (∃ m : Nat, m < n1 ∧ I1 m (wth x5 (g1 41 (g1 43 x7)) (g1 42 (g1 43 x7))) (x6 + 1) (x7 + 1) h23)))))))) ∧ (¬ (jand (bset (fun k => k < g1 2 6 ∧ cBar g1 k (dgt (wth x5 (g1 41 (g1 43 x7)) (g1 42 (g1 43 x7))))) 40) (jxor b (-1))) = 0 → K (-1) g1)))) ∧ ((wth x5 (g1 41 (g1 43 x7)) (g1 42 (g1 43 x7))) = x5 → ((iR (x7 + 1)) ∧ (∃ m : Nat, m < n1 ∧ I1 m x5 x6 (x7 + 1) g1))))))))))) :
    Ev w Y_X6_statesByFiring 0 [some (vR 6), some (vI s), some (vI S), some (vL b), none, none, none, none, none, none] [] h (rI K) := by
  have L1 : ∀ (n1 : Nat) (x5 : Int) (x6 : Int) (x7 : Int) (g1 : HP), I1 n1 x5 x6 x7 g1 → Ev w Y_X6_statesByFiring 18 [some (vR 6), none, none, some (vL b), none, some (vI x5), some (vI x6), some (vI x7), none, none] [] g1 (rI K) := by
    intro n1
    induction n1 using Nat.strongRecOn with
    | ind n1 ih1 =>
      intro x5 x6 x7 g1 H
      have H := H1 n1 x5 x6 x7 g1 H
      refine e_iload (pc := 18) dX6_statesByFiring_18 rfl ?_
      refine e_sipush (pc := 20) dX6_statesByFiring_20 ⟨by decide, by decide⟩ (by decide) ?_
      have J1 : ((256 ≤ x7) ∨ (((g1 6 9) ≤ x7) ∨ (30 ≤ x6))) → Ev w Y_X6_statesByFiring 135 [some (vR 6), none, none, some (vL b), none, some (vI x5), some (vI x6), some (vI x7), none, none] [] g1 (rI K) := by
        intro hp
        have H := H.1 hp
        refine e_iload (pc := 135) dX6_statesByFiring_135 rfl ?_
        exact e_ret (pc := 137) (v := some (vI x5)) dX6_statesByFiring_137 rfl trivial ⟨_, rfl, H⟩
      have J2 : ¬ ((256 ≤ x7) ∨ (((g1 6 9) ≤ x7) ∨ (30 ≤ x6))) → Ev w Y_X6_statesByFiring 42 [some (vR 6), none, none, some (vL b), none, some (vI x5), some (vI x6), some (vI x7), none, none] [] g1 (rI K) := by
        intro hp
        have H := H.2 hp
        refine e_aload_n (pc := 42) dX6_statesByFiring_42 rfl rfl ?_
        refine e_getR (q := 6) (ci := 6) (k := 6) (y := 43) (C := RX6) (T := TX6) (N := 10) (pc := 43) dX6_statesByFiring_43 rfl rfl ev_in6 rfl ul_2_6 ⟨rfl, rfl⟩ rfl ?_
        refine e_iload (pc := 46) dX6_statesByFiring_46 rfl ?_
        refine e_iald (q := 43) (x := (g1 43 x7)) (pc := 48) dX6_statesByFiring_48 rfl H.1 rfl ?_
        have H := H.2
        refine e_istore (lv' := [some (vR 6), none, none, some (vL b), none, some (vI x5), some (vI x6), some (vI x7), some (vI (g1 43 x7)), none]) (pc := 49) dX6_statesByFiring_49 rfl rfl ?_
        refine e_iload (pc := 51) dX6_statesByFiring_51 rfl ?_
        refine e_aload_n (pc := 53) dX6_statesByFiring_53 rfl rfl ?_
        refine e_getR (q := 6) (ci := 6) (k := 4) (y := 41) (C := RX6) (T := TX6) (N := 10) (pc := 54) dX6_statesByFiring_54 rfl rfl ev_in6 rfl ul_2_4 ⟨rfl, rfl⟩ rfl ?_
        refine e_iload (pc := 57) dX6_statesByFiring_57 rfl ?_
        refine e_iald (q := 41) (x := (g1 41 (g1 43 x7))) (pc := 59) dX6_statesByFiring_59 rfl H.1 rfl ?_
        have H := H.2
        refine e_aload_n (pc := 60) dX6_statesByFiring_60 rfl rfl ?_
        refine e_getR (q := 6) (ci := 6) (k := 5) (y := 42) (C := RX6) (T := TX6) (N := 10) (pc := 61) dX6_statesByFiring_61 rfl rfl ev_in6 rfl ul_2_5 ⟨rfl, rfl⟩ rfl ?_
        refine e_iload (pc := 64) dX6_statesByFiring_64 rfl ?_
        refine e_iald (q := 42) (x := (g1 42 (g1 43 x7))) (pc := 66) dX6_statesByFiring_66 rfl H.1 rfl ?_
        have H := H.2
        refine e_invSN (pc := 67) (Y' := Y_X8_with) (as := [vI x5, vI (g1 41 (g1 43 x7)), vI (g1 42 (g1 43 x7))]) (st := []) (lv0 := [some (vI x5), some (vI (g1 41 (g1 43 x7))), some (vI (g1 42 (g1 43 x7)))]) dX6_statesByFiring_67 m_X8_with nl_9 ul_3_144 ⟨rfl, rfl⟩ rfl rfl rfl rfl rfl (c_X8_with w x5 (g1 41 (g1 43 x7)) (g1 42 (g1 43 x7)) g1 H.1) ?_
        rintro _ hz ⟨_, rfl, rfl, hh⟩
        rw [hh]
        show Ev w Y_X6_statesByFiring 70 [some (vR 6), none, none, some (vL b), none, some (vI x5), some (vI x6), some (vI x7), some (vI (g1 43 x7)), none] [vI (wth x5 (g1 41 (g1 43 x7)) (g1 42 (g1 43 x7)))] g1 (rI K)
        have H := H.2
        refine e_istore (lv' := [some (vR 6), none, none, some (vL b), none, some (vI x5), some (vI x6), some (vI x7), some (vI (g1 43 x7)), some (vI (wth x5 (g1 41 (g1 43 x7)) (g1 42 (g1 43 x7))))]) (pc := 70) dX6_statesByFiring_70 rfl rfl ?_
        refine e_iload (pc := 72) dX6_statesByFiring_72 rfl ?_
        refine e_iload (pc := 74) dX6_statesByFiring_74 rfl ?_
        refine e_icmp_ne (pc := 76) (tgt := 82) dX6_statesByFiring_76 (by decide) (fun c1 => ?_) (fun c1 => ?_)
        · have H := H.1 c1
          refine e_aload_n (pc := 82) dX6_statesByFiring_82 rfl rfl ?_
          refine e_getR (q := 6) (ci := 6) (k := 1) (y := 2) (C := RX6) (T := TX6) (N := 10) (pc := 83) dX6_statesByFiring_83 rfl rfl ev_in6 rfl ul_2_1 ⟨rfl, rfl⟩ rfl ?_
          refine e_iload (pc := 86) dX6_statesByFiring_86 rfl ?_
          refine e_invV (pc := 88) (Y' := Y_X5_barring) (as := [vI (wth x5 (g1 41 (g1 43 x7)) (g1 42 (g1 43 x7)))]) (st := []) (lv0 := [some (vR 2), some (vI (wth x5 (g1 41 (g1 43 x7)) (g1 42 (g1 43 x7)))), none, none, none]) (q := 2) (ci := 5) (T := TX5) (N := 7) dX6_statesByFiring_88 m_X5_barring ul_4_124 ⟨ul_3_23, ul_3_24⟩ ⟨rfl, rfl⟩ rfl rfl rfl rfl rfl rfl rfl (c_X5_barring w (wth x5 (g1 41 (g1 43 x7)) (g1 42 (g1 43 x7))) g1 H.1) ?_
          rintro _ hz ⟨_, rfl, rfl, hh⟩
          rw [hh]
          show Ev w Y_X6_statesByFiring 91 [some (vR 6), none, none, some (vL b), none, some (vI x5), some (vI x6), some (vI x7), some (vI (g1 43 x7)), some (vI (wth x5 (g1 41 (g1 43 x7)) (g1 42 (g1 43 x7))))] [vL (bset (fun k => k < g1 2 6 ∧ cBar g1 k (dgt (wth x5 (g1 41 (g1 43 x7)) (g1 42 (g1 43 x7))))) 40)] g1 (rI K)
          have H := H.2
          refine e_lload_n (pc := 91) dX6_statesByFiring_91 rfl rfl ?_
          refine e_ldc2 (x := (-1)) (pc := 92) dX6_statesByFiring_92 ul_4_125 ⟨by decide, by decide⟩ ?_
          refine e_lxor (pc := 95) dX6_statesByFiring_95 ?_
          refine e_land (pc := 96) dX6_statesByFiring_96 ?_
          refine e_lconst (x := 0) (pc := 97) dX6_statesByFiring_97 ⟨by decide, by decide⟩ (by decide) ?_
          refine e_lcif_eq (pc := 98) (tgt := 104) dX6_statesByFiring_98 dX6_statesByFiring_99 (by decide) (fun c2 => ?_) (fun c2 => ?_)
          · have H := H.1 c2
            refine e_iload (pc := 104) dX6_statesByFiring_104 rfl ?_
            refine e_istore (lv' := [some (vR 6), none, none, some (vL b), none, some (vI (wth x5 (g1 41 (g1 43 x7)) (g1 42 (g1 43 x7)))), some (vI x6), some (vI x7), some (vI (g1 43 x7)), some (vI (wth x5 (g1 41 (g1 43 x7)) (g1 42 (g1 43 x7))))]) (pc := 106) dX6_statesByFiring_106 rfl rfl ?_
            refine e_iinc (lv' := [some (vR 6), none, none, some (vL b), none, some (vI (wth x5 (g1 41 (g1 43 x7)) (g1 42 (g1 43 x7)))), some (vI (x6 + 1)), some (vI x7), some (vI (g1 43 x7)), some (vI (wth x5 (g1 41 (g1 43 x7)) (g1 42 (g1 43 x7))))]) (pc := 108) dX6_statesByFiring_108 rfl H.1 rfl rfl ?_
            have H := H.2
            refine e_aload_n (pc := 111) dX6_statesByFiring_111 rfl rfl ?_
            refine e_aload_n (pc := 112) dX6_statesByFiring_112 rfl rfl ?_
            refine e_getR (q := 6) (ci := 6) (k := 4) (y := 41) (C := RX6) (T := TX6) (N := 10) (pc := 113) dX6_statesByFiring_113 rfl rfl ev_in6 rfl ul_2_4 ⟨rfl, rfl⟩ rfl ?_
            refine e_iload (pc := 116) dX6_statesByFiring_116 rfl ?_
            refine e_iald (q := 41) (x := (g1 41 (g1 43 x7))) (pc := 118) dX6_statesByFiring_118 rfl H.1 rfl ?_
            have H := H.2
            refine e_aload_n (pc := 119) dX6_statesByFiring_119 rfl rfl ?_
            refine e_getR (q := 6) (ci := 6) (k := 5) (y := 42) (C := RX6) (T := TX6) (N := 10) (pc := 120) dX6_statesByFiring_120 rfl rfl ev_in6 rfl ul_2_5 ⟨rfl, rfl⟩ rfl ?_
            refine e_iload (pc := 123) dX6_statesByFiring_123 rfl ?_
            refine e_iald (q := 42) (x := (g1 42 (g1 43 x7))) (pc := 125) dX6_statesByFiring_125 rfl H.1 rfl ?_
            have H := H.2
            refine e_invV (pc := 126) (Y' := Y_X6_rouse) (as := [vI (g1 41 (g1 43 x7)), vI (g1 42 (g1 43 x7))]) (st := []) (lv0 := [some (vR 6), some (vI (g1 41 (g1 43 x7))), some (vI (g1 42 (g1 43 x7))), none]) (q := 6) (ci := 6) (T := TX6) (N := 10) dX6_statesByFiring_126 m_X6_rouse ul_4_27 ⟨ul_4_7, ul_4_8⟩ ⟨rfl, rfl⟩ rfl rfl rfl rfl rfl rfl rfl (c_X6_rouse w (g1 41 (g1 43 x7)) (g1 42 (g1 43 x7)) g1 _ H) ?_
            rintro _ h23 ⟨rfl, H⟩
            show Ev w Y_X6_statesByFiring 129 [some (vR 6), none, none, some (vL b), none, some (vI (wth x5 (g1 41 (g1 43 x7)) (g1 42 (g1 43 x7)))), some (vI (x6 + 1)), some (vI x7), some (vI (g1 43 x7)), some (vI (wth x5 (g1 41 (g1 43 x7)) (g1 42 (g1 43 x7))))] [] h23 (rI K)
            refine e_iinc (lv' := [some (vR 6), none, none, some (vL b), none, some (vI (wth x5 (g1 41 (g1 43 x7)) (g1 42 (g1 43 x7)))), some (vI (x6 + 1)), some (vI (x7 + 1)), some (vI (g1 43 x7)), some (vI (wth x5 (g1 41 (g1 43 x7)) (g1 42 (g1 43 x7))))]) (pc := 129) dX6_statesByFiring_129 rfl H.1 rfl rfl ?_
            have H := H.2
            refine e_goto (pc := 132) (tgt := 18) dX6_statesByFiring_132 (by decide) ?_
            refine e_mask [true, false, false, true, false, true, true, true, false, false] rfl ?_
            obtain ⟨m, hm, H⟩ := H
            exact ih1 m hm _ _ _ _ H
          · have H := H.2 c2
            refine e_iconst (pc := 102) dX6_statesByFiring_102 ⟨by decide, by decide⟩ ?_
            exact e_ret (pc := 103) (v := some (vI (-1))) dX6_statesByFiring_103 rfl trivial ⟨_, rfl, H⟩
        · have H := H.2 c1
          refine e_goto (pc := 79) (tgt := 129) dX6_statesByFiring_79 (by decide) ?_
          refine e_iinc (lv' := [some (vR 6), none, none, some (vL b), none, some (vI x5), some (vI x6), some (vI (x7 + 1)), some (vI (g1 43 x7)), some (vI (wth x5 (g1 41 (g1 43 x7)) (g1 42 (g1 43 x7))))]) (pc := 129) dX6_statesByFiring_129 rfl H.1 rfl rfl ?_
          have H := H.2
          refine e_goto (pc := 132) (tgt := 18) dX6_statesByFiring_132 (by decide) ?_
          refine e_mask [true, false, false, true, false, true, true, true, false, false] rfl ?_
          obtain ⟨m, hm, H⟩ := H
          exact ih1 m hm _ _ _ _ H
      refine e_icmp_ge (pc := 23) (tgt := 135) dX6_statesByFiring_23 (by decide) (fun c3 => ?_) (fun c3 => ?_)
      · exact J1 (Or.inl c3)
      · refine e_iload (pc := 26) dX6_statesByFiring_26 rfl ?_
        refine e_aload_n (pc := 28) dX6_statesByFiring_28 rfl rfl ?_
        refine e_getI (q := 6) (ci := 6) (k := 9) (kz := 9) (C := RX6) (T := TX6) (N := 10) (x := (g1 6 9)) (pc := 29) dX6_statesByFiring_29 rfl rfl rfl ev_in6 rfl ul_2_12 ⟨rfl, by decide⟩ rfl ?_
        refine e_icmp_ge (pc := 32) (tgt := 135) dX6_statesByFiring_32 (by decide) (fun c4 => ?_) (fun c4 => ?_)
        · exact J1 (Or.inr (Or.inl c4))
        · refine e_iload (pc := 35) dX6_statesByFiring_35 rfl ?_
          refine e_bipush (pc := 37) dX6_statesByFiring_37 ⟨by decide, by decide⟩ (by decide) ?_
          refine e_icmp_ge (pc := 39) (tgt := 135) dX6_statesByFiring_39 (by decide) (fun c5 => ?_) (fun c5 => ?_)
          · exact J1 (Or.inr (Or.inr c5))
          · exact J2 (fun z => z.elim c3 (fun z => z.elim c4 c5))
  refine e_iload_n (pc := 0) dX6_statesByFiring_0 rfl rfl ?_
  refine e_istore (lv' := [some (vR 6), some (vI s), some (vI S), some (vL b), none, some (vI S), none, none, none, none]) (pc := 1) dX6_statesByFiring_1 rfl rfl ?_
  refine e_iconst (pc := 3) dX6_statesByFiring_3 ⟨by decide, by decide⟩ ?_
  refine e_istore (lv' := [some (vR 6), some (vI s), some (vI S), some (vL b), none, some (vI S), some (vI 0), none, none, none]) (pc := 4) dX6_statesByFiring_4 rfl rfl ?_
  refine e_aload_n (pc := 6) dX6_statesByFiring_6 rfl rfl ?_
  refine e_invV (pc := 7) (Y' := Y_X6_clearRow) (as := []) (st := []) (lv0 := [some (vR 6)]) (q := 6) (ci := 6) (T := TX6) (N := 10) dX6_statesByFiring_7 m_X6_clearRow ul_4_69 ⟨ul_3_219, ul_3_220⟩ ⟨rfl, rfl⟩ rfl rfl rfl rfl rfl rfl rfl (c_X6_clearRow w h _ H) ?_
  rintro _ h21 ⟨rfl, H⟩
  show Ev w Y_X6_statesByFiring 10 [some (vR 6), some (vI s), some (vI S), some (vL b), none, some (vI S), some (vI 0), none, none, none] [] h21 (rI K)
  refine e_aload_n (pc := 10) dX6_statesByFiring_10 rfl rfl ?_
  refine e_iload_n (pc := 11) dX6_statesByFiring_11 rfl rfl ?_
  refine e_invV (pc := 12) (Y' := Y_X6_putInRow) (as := [vI s]) (st := []) (lv0 := [some (vR 6), some (vI s)]) (q := 6) (ci := 6) (T := TX6) (N := 10) dX6_statesByFiring_12 m_X6_putInRow ul_4_10 ⟨ul_4_12, us_X6_putInRow⟩ ⟨rfl, rfl⟩ rfl rfl rfl rfl rfl rfl rfl (c_X6_putInRow w s h21 _ H) ?_
  rintro _ h22 ⟨rfl, H⟩
  show Ev w Y_X6_statesByFiring 15 [some (vR 6), some (vI s), some (vI S), some (vL b), none, some (vI S), some (vI 0), none, none, none] [] h22 (rI K)
  refine e_iconst (pc := 15) dX6_statesByFiring_15 ⟨by decide, by decide⟩ ?_
  refine e_istore (lv' := [some (vR 6), some (vI s), some (vI S), some (vL b), none, some (vI S), some (vI 0), some (vI 0), none, none]) (pc := 16) dX6_statesByFiring_16 rfl rfl ?_
  refine e_mask [true, false, false, true, false, true, true, true, false, false] rfl ?_
  obtain ⟨m, H⟩ := H
  exact L1 m _ _ _ _ H
set_option maxRecDepth 100000 in
set_option maxHeartbeats 4000000 in
theorem c_X6_statesByFiring (w : WD) (s : Int) (S : Int) (b : Int) (h : HP) (K : Int → HP → Prop)  (H : S_X6_statesByFiring s S b h K) : Ev w Y_X6_statesByFiring 0 [some (vR 6), some (vI s), some (vI S), some (vL b), none, none, none, none, none, none] [] h (rI K) := by
  obtain ⟨⟨hH, hF, hS, hs0, hin0, rfl⟩, HK⟩ := H
  have h67 := hS.1
  have h10 := hH.1
  have hsi : fwC h s S = -1 ∨ inS (fwC h s S) := sbf_in (N := h 6 7) (fun x a b => (hS.2 x a b).2) (fun t v x hx => wkC_m h67 t v x hx) 257 0 0 S [s] hin0 (fun x hx => by rw [List.mem_singleton] at hx; omega)
  refine v_X6_statesByFiring w s S _ h K (fun n x5 x6 x7 g => ∃ (k F : Nat) (L : List Int), x7 = (k : Int) ∧ n = 300 - k ∧ F + k = 257 ∧ k ≤ L.length ∧ (0 ≤ x6 ∧ x6 ≤ 30) ∧ (L.length : Int) ≤ 1 + 8 * x6 ∧ inS x5 ∧ (∀ q, q ≠ 6 → q ≠ 43 → g q = h q) ∧ (∀ i : Int, i ≠ 9 → g 6 i = h 6 i) ∧ g 6 9 = (L.length : Int) ∧ rwH (g 43) L ∧ (∀ y : Int, y ∈ L → 0 ≤ y ∧ y < h 6 7) ∧ fwC h s S = sbf (h 41) (h 42) (wkC h) (fun S' => cNB h (dgt (h 1 8)) (dgt S')) F k x6 x5 L) ?_ ?_
  · refine ⟨fun c => ?_, fun c => ?_⟩
    · rw [sth_eq, us_s] at c; omega
    · have e9 : sth h 6 9 0 6 9 = 0 := by rw [sth_eq, us_s]
      rw [e9]
      refine ⟨by omega, ⟨by omega, by omega⟩, 300, 0, 257, [s], rfl, rfl, rfl, Nat.zero_le _, by omega, by simp only [List.length_singleton]; omega, hin0, fun q a b => by rw [sth_ne a, sth_ne b, sth_ne a], fun i a => by rw [sth_eq, us_n a, sth_ne (by decide), sth_eq, us_n a], by rw [sth_eq, us_s]; rfl, fun i hi => ?_, fun y hy => by rw [List.mem_singleton] at hy; omega, rfl⟩
      rw [List.length_singleton] at hi
      have : i = 0 := by omega
      subst this
      rw [sth_ne (by decide), sth_eq]
      show us _ 0 s 0 = s
      rw [us_s]
  · rintro n S1 x6 x7 g ⟨k, F, L, rfl, rfl, hFk, hkL, hc, hlen, hin, hg, h6, hl, hr, hm, he⟩
    rw [hl]
    refine ⟨fun z => ?_, fun z => ?_⟩
    · rw [sbf_stop (F := F) (k := k) (c := x6) (L := L) (by rintro ⟨y1, y2⟩; rcases z with z | z | z <;> omega)] at he
      rw [← he]
      exact HK g hg h6 hsi
    · have hk : k < L.length ∧ x6 < 30 := ⟨Classical.byContradiction (fun y => z (Or.inr (Or.inl (by omega)))), Classical.byContradiction (fun y => z (Or.inr (Or.inr (by omega))))⟩
      obtain ⟨F, rfl⟩ : ∃ j, F = j + 1 := ⟨F - 1, by omega⟩
      generalize hx : L.getD k 0 = x at *
      have hsm := hm x (by rw [← hx]; exact getD_mem hk.1)
      have hst := hS.2 x hsm.1 hsm.2
      have e43 : g 43 (k : Int) = x := by rw [hr k hk.1, hx]
      have g41 : g 41 = h 41 := hg _ (by decide) (by decide)
      have g42 : g 42 = h 42 := hg _ (by decide) (by decide)
      have g2 : g 2 = h 2 := hg _ (by decide) (by decide)
      have g1 : g 1 = h 1 := hg _ (by decide) (by decide)
      have hfg : fOK g := by unfold fOK; rw [g2, hg 18 (by decide) (by decide), hg 19 (by decide) (by decide)]; exact hF
      have hHg : HOK g := HOK_c (by rw [g1]) (by rw [g1]) (hg _ (by decide) (by decide)) (hg _ (by decide) (by decide)) (hg _ (by decide) (by decide)) (hg _ (by decide) (by decide)) (hg _ (by decide) (by decide)) hH
      rw [e43, g41, g42, g2]
      have hnb : jand (bset (fun k => k < h 2 6 ∧ cBar g k (dgt (wth S1 (h 41 x) (h 42 x)))) 40) (jxor (bset (fun k => k < h 2 6 ∧ cBar h k (dgt (h 1 8))) 40) (-1)) = 0 ↔ ¬ cNB h (dgt (h 1 8)) (dgt (wth S1 (h 41 x) (h 42 x))) := by
        rw [bset_jn (by decide)]
        have cq : ∀ j : Int, 0 ≤ j ∧ j < h 2 6 → (cBar g j (dgt (wth S1 (h 41 x) (h 42 x))) ↔ cBar h j (dgt (wth S1 (h 41 x) (h 42 x)))) := fun j hj => cBar_c (hg _ (by decide) (by decide)) (hg _ (by decide) (by decide)) (hg _ (by decide) (by decide)) (hg _ (by decide) (by decide)) hF hj (fun _ _ _ => rfl)
        have h40 := hF.1
        constructor
        · rintro y ⟨j, j0, j1, j2, j3⟩
          exact j3 (y j j0 (by omega) ⟨j1, (cq j ⟨j0, j1⟩).mpr j2⟩).2
        · intro y j j0 _ j2
          exact ⟨j2.1, Classical.byContradiction (fun u => y ⟨j, j0, j2.1, (cq j ⟨j0, j2.1⟩).mp j2.2, u⟩)⟩
      rw [hnb]
      refine ⟨by omega, by omega, by omega, ⟨hin, by omega, hst.2⟩, fun z1 => ⟨⟨hHg, hfg, inS_wth hst.2⟩, fun z2 => ?_, fun z2 => ?_⟩, fun z1 => ?_⟩
      · have hne : ¬ dgt S1 (h 41 x) = h 42 x := fun y => z1 ((wth_same hin (by omega) hst.2).mpr y)
        refine ⟨⟨by omega, by omega⟩, by omega, by omega, L, ⟨by rw [h6 7 (by decide)]; exact h67, hl, hr, by omega⟩, fun h2 p1 p2 p3 p4 => ?_⟩
        rw [h6 7 (by decide), hg 39 (by decide) (by decide), hg 40 (by decide) (by decide)] at p3 p4
        have hwl := wkC_l h67 (h 41 x) (h 42 x)
        have hla := List.length_append (as := L) (bs := wkC h (h 41 x) (h 42 x))
        refine ⟨⟨by omega, by omega⟩, 300 - (k + 1), by omega, k + 1, F, L ++ wkC h (h 41 x) (h 42 x), by omega, rfl, by omega, by omega, by omega, by omega, inS_wth hst.2, fun q a b => by rw [p1 q b a]; exact hg q a b, fun i a => by rw [p2 i a]; exact h6 i a, p3, p4, fun y hy => ?_, ?_⟩
        · rw [List.mem_append] at hy
          rcases hy with hy | hy
          · exact hm y hy
          · exact wkC_m h67 _ _ y hy
        · rw [he, sbf_go hk hx hne z2]
      · have hne : ¬ dgt S1 (h 41 x) = h 42 x := fun y => z1 ((wth_same hin (by omega) hst.2).mpr y)
        rw [sbf_bar hk hx hne (Classical.not_not.mp z2)] at he
        rw [← he]
        exact HK g hg h6 hsi
      · have hne : dgt S1 (h 41 x) = h 42 x := (wth_same hin (by omega) hst.2).mp z1
        exact ⟨⟨by omega, by omega⟩, 300 - (k + 1), by omega, k + 1, F, L, by omega, rfl, by omega, by omega, hc, hlen, hin, hg, h6, rfl, hr, hm, by rw [he, sbf_same hk hx hne]⟩
def BRm (h : HP) (S : Int) : Prop := ∃ k : Int, 0 ≤ k ∧ k < h 70 1 ∧ h 82 k = 0 ∧ mBrF h k (dgt S)
noncomputable def fwM (h : HP) (s S : Int) : Int := sbf (fun x => h 79 (5 * x + 3)) (fun x => h 79 (5 * x + 4)) (wkM h) (BRm h) 257 0 0 S [s]
theorem fwM_in {h : HP} {s S : Int} (hS : MSOK h) (hs : 0 ≤ s ∧ s < h 55 33) (hin : inS S) : fwM h s S = -1 ∨ inS (fwM h s S) :=
  sbf_in (N := h 55 33) (fun x a b => (hS.2 x a b).2) (fun t v x hx => wkM_m hS.1 t v x hx) 257 0 0 S [s] hin (fun x hx => by rw [List.mem_singleton] at hx; omega)
def S_X9_bringsBar (s : Int) (h : HP) (K : Int → HP → Prop) : Prop := ∃ S : Int, (mHOK h ∧ mfOK h ∧ MSOK h ∧ (0 ≤ s ∧ s < h 55 33) ∧ inS S ∧ ∀ t : Int, 0 ≤ t → t < 10 → h 60 t = dgt S t) ∧ ∀ h' : HP, (∀ q, q ≠ 60 → q ≠ 86 → q ≠ 55 → h' q = h q) → (∀ i : Int, i ≠ 47 → h' 55 i = h 55 i) → mHOK h' → (0 ≤ fwM h s S → ∀ t : Int, 0 ≤ t → t < 10 → h' 60 t = dgt (fwM h s S) t) → K (b2i (fwM h s S < 0)) h'
set_option maxRecDepth 100000 in
set_option maxHeartbeats 4000000 in
theorem v_X9_bringsBar (w : WD) (s : Int) (h : HP) (K : Int → HP → Prop) 
    (I1 : Nat → Int → Int → HP → Prop)
    (H : (∃ m : Nat, I1 m 0 0 (sth (sth h 86 0 s) 55 47 1)))
    (H1 : ∀ (n1 : Nat) (x2 : Int) (x3 : Int) (g1 : HP), I1 n1 x2 x3 g1 → (((((g1 55 47) ≤ x3) ∨ (30 ≤ x2)) → K 0 (sth g1 55 47 0)) ∧ (¬ (((g1 55 47) ≤ x3) ∨ (30 ≤ x2)) → ((0 ≤ x3 ∧ x3 < 400) ∧ ((iR (5 * (g1 86 x3))) ∧ ((iR ((5 * (g1 86 x3)) + 3)) ∧ ((0 ≤ ((5 * (g1 86 x3)) + 3) ∧ ((5 * (g1 86 x3)) + 3) < 40) ∧ ((0 ≤ x3 ∧ x3 < 400) ∧ ((iR (5 * (g1 86 x3))) ∧ ((iR ((5 * (g1 86 x3)) + 4)) ∧ ((0 ≤ ((5 * (g1 86 x3)) + 4) ∧ ((5 * (g1 86 x3)) + 4) < 40) ∧ ((0 ≤ (g1 79 ((5 * (g1 86 x3)) + 3)) ∧ (g1 79 ((5 * (g1 86 x3)) + 3)) < 10) ∧ (((g1 60 (g1 79 ((5 * (g1 86 x3)) + 3))) = (g1 79 ((5 * (g1 86 x3)) + 4)) → ((iR (x3 + 1)) ∧ (∃ m : Nat, m < n1 ∧ I1 m x2 (x3 + 1) g1))) ∧ (¬ (g1 60 (g1 79 ((5 * (g1 86 x3)) + 3))) = (g1 79 ((5 * (g1 86 x3)) + 4)) → ((0 ≤ (g1 79 ((5 * (g1 86 x3)) + 3)) ∧ (g1 79 ((5 * (g1 86 x3)) + 3)) < 10) ∧ ((iR (x2 + 1)) ∧ ((mfOK (sth g1 60 (g1 79 ((5 * (g1 86 x3)) + 3)) (g1 79 ((5 * (g1 86 x3)) + 4))) ∧ mHOK (sth g1 60 (g1 79 ((5 * (g1 86 x3)) + 3)) (g1 79 ((5 * (g1 86 x3)) + 4)))) ∧ ((¬ (∃ k : Int, 0 ≤ k ∧ k < (sth g1 60 (g1 79 ((5 * (g1 86 x3)) + 3)) (g1 79 ((5 * (g1 86 x3)) + 4))) 70 1 ∧ (sth g1 60 (g1 79 ((5 * (g1 86 x3)) + 3)) (g1 79 ((5 * (g1 86 x3)) + 4))) 82 k = 0 ∧ mBar (sth g1 60 (g1 79 ((5 * (g1 86 x3)) + 3)) (g1 79 ((5 * (g1 86 x3)) + 4))) k) → (S_X9_wakeBy (g1 79 ((5 * (g1 86 x3)) + 3)) (sth g1 60 (g1 79 ((5 * (g1 86 x3)) + 3)) (g1 79 ((5 * (g1 86 x3)) + 4))) (fun h21 => ((iR (x3 + 1)) ∧ (∃ m : Nat, m < n1 ∧ I1 m (x2 + 1) (x3 + 1) h21))))) ∧ ((∃ k : Int, 0 ≤ k ∧ k < (sth g1 60 (g1 79 ((5 * (g1 86 x3)) + 3)) (g1 79 ((5 * (g1 86 x3)) + 4))) 70 1 ∧ (sth g1 60 (g1 79 ((5 * (g1 86 x3)) + 3)) (g1 79 ((5 * (g1 86 x3)) + 4))) 82 k = 0 ∧ mBar (sth g1 60 (g1 79 ((5 * (g1 86 x3)) + 3)) (g1 79 ((5 * (g1 86 x3)) + 4))) k) → K 1 (sth (sth g1 60 (g1 79 ((5 * (g1 86 x3)) + 3)) (g1 79 ((5 * (g1 86 x3)) + 4))) 55 47 0)))))))))))))))))))) :
    Ev w Y_X9_bringsBar 0 [some (vR 55), some (vI s), none, none, none, none] [] h (rI K) := by
  have L1 : ∀ (n1 : Nat) (x2 : Int) (x3 : Int) (g1 : HP), I1 n1 x2 x3 g1 → Ev w Y_X9_bringsBar 16 [some (vR 55), none, some (vI x2), some (vI x3), none, none] [] g1 (rI K) := by
    intro n1
    induction n1 using Nat.strongRecOn with
    | ind n1 ih1 =>
      intro x2 x3 g1 H
      have H := H1 n1 x2 x3 g1 H
      refine e_iload_n (pc := 16) dX9_bringsBar_16 rfl rfl ?_
      refine e_aload_n (pc := 17) dX9_bringsBar_17 rfl rfl ?_
      refine e_getI (q := 55) (ci := 9) (k := 47) (kz := 47) (C := RX9) (T := TX9) (N := 52) (x := (g1 55 47)) (pc := 18) dX9_bringsBar_18 rfl rfl rfl ev_in9 rfl ul_4_229 ⟨rfl, by decide⟩ rfl ?_
      have J1 : (((g1 55 47) ≤ x3) ∨ (30 ≤ x2)) → Ev w Y_X9_bringsBar 114 [some (vR 55), none, some (vI x2), some (vI x3), none, none] [] g1 (rI K) := by
        intro hp
        have H := H.1 hp
        refine e_aload_n (pc := 114) dX9_bringsBar_114 rfl rfl ?_
        refine e_iconst (pc := 115) dX9_bringsBar_115 ⟨by decide, by decide⟩ ?_
        refine e_put (q := 55) (ci := 9) (k := 47) (kz := 47) (C := RX9) (T := TX9) (N := 52) (ty := .int) (pc := 116) dX9_bringsBar_116 rfl rfl rfl ev_in9 tyX9 tyX9_ok nmX9 rfl ul_4_229 ⟨rfl, by decide⟩ rfl (tyX9_ok 47 (by decide)) (Or.inl rfl) ?_
        refine e_iconst (pc := 119) dX9_bringsBar_119 ⟨by decide, by decide⟩ ?_
        exact e_ret (pc := 120) (v := some (vI 0)) dX9_bringsBar_120 rfl (Or.inl rfl) ⟨_, rfl, H⟩
      have J2 : ¬ (((g1 55 47) ≤ x3) ∨ (30 ≤ x2)) → Ev w Y_X9_bringsBar 30 [some (vR 55), none, some (vI x2), some (vI x3), none, none] [] g1 (rI K) := by
        intro hp
        have H := H.2 hp
        refine e_aload_n (pc := 30) dX9_bringsBar_30 rfl rfl ?_
        refine e_getR (q := 55) (ci := 9) (k := 34) (y := 79) (C := RX9) (T := TX9) (N := 52) (pc := 31) dX9_bringsBar_31 rfl rfl ev_in9 rfl ul_4_216 ⟨rfl, rfl⟩ rfl ?_
        refine e_iconst (pc := 34) dX9_bringsBar_34 ⟨by decide, by decide⟩ ?_
        refine e_aload_n (pc := 35) dX9_bringsBar_35 rfl rfl ?_
        refine e_getR (q := 55) (ci := 9) (k := 48) (y := 86) (C := RX9) (T := TX9) (N := 52) (pc := 36) dX9_bringsBar_36 rfl rfl ev_in9 rfl ul_4_230 ⟨rfl, rfl⟩ rfl ?_
        refine e_iload_n (pc := 39) dX9_bringsBar_39 rfl rfl ?_
        refine e_iald (q := 86) (x := (g1 86 x3)) (pc := 40) dX9_bringsBar_40 rfl H.1 rfl ?_
        have H := H.2
        refine e_imul (pc := 41) dX9_bringsBar_41 H.1 ?_
        have H := H.2
        refine e_iconst (pc := 42) dX9_bringsBar_42 ⟨by decide, by decide⟩ ?_
        refine e_iadd (pc := 43) dX9_bringsBar_43 H.1 ?_
        have H := H.2
        refine e_iald (q := 79) (x := (g1 79 ((5 * (g1 86 x3)) + 3))) (pc := 44) dX9_bringsBar_44 rfl H.1 rfl ?_
        have H := H.2
        refine e_istore (lv' := [some (vR 55), none, some (vI x2), some (vI x3), some (vI (g1 79 ((5 * (g1 86 x3)) + 3))), none]) (pc := 45) dX9_bringsBar_45 rfl rfl ?_
        refine e_aload_n (pc := 47) dX9_bringsBar_47 rfl rfl ?_
        refine e_getR (q := 55) (ci := 9) (k := 34) (y := 79) (C := RX9) (T := TX9) (N := 52) (pc := 48) dX9_bringsBar_48 rfl rfl ev_in9 rfl ul_4_216 ⟨rfl, rfl⟩ rfl ?_
        refine e_iconst (pc := 51) dX9_bringsBar_51 ⟨by decide, by decide⟩ ?_
        refine e_aload_n (pc := 52) dX9_bringsBar_52 rfl rfl ?_
        refine e_getR (q := 55) (ci := 9) (k := 48) (y := 86) (C := RX9) (T := TX9) (N := 52) (pc := 53) dX9_bringsBar_53 rfl rfl ev_in9 rfl ul_4_230 ⟨rfl, rfl⟩ rfl ?_
        refine e_iload_n (pc := 56) dX9_bringsBar_56 rfl rfl ?_
        refine e_iald (q := 86) (x := (g1 86 x3)) (pc := 57) dX9_bringsBar_57 rfl H.1 rfl ?_
        have H := H.2
        refine e_imul (pc := 58) dX9_bringsBar_58 H.1 ?_
        have H := H.2
        refine e_iconst (pc := 59) dX9_bringsBar_59 ⟨by decide, by decide⟩ ?_
        refine e_iadd (pc := 60) dX9_bringsBar_60 H.1 ?_
        have H := H.2
        refine e_iald (q := 79) (x := (g1 79 ((5 * (g1 86 x3)) + 4))) (pc := 61) dX9_bringsBar_61 rfl H.1 rfl ?_
        have H := H.2
        refine e_istore (lv' := [some (vR 55), none, some (vI x2), some (vI x3), some (vI (g1 79 ((5 * (g1 86 x3)) + 3))), some (vI (g1 79 ((5 * (g1 86 x3)) + 4)))]) (pc := 62) dX9_bringsBar_62 rfl rfl ?_
        refine e_aload_n (pc := 64) dX9_bringsBar_64 rfl rfl ?_
        refine e_getR (q := 55) (ci := 9) (k := 5) (y := 60) (C := RX9) (T := TX9) (N := 52) (pc := 65) dX9_bringsBar_65 rfl rfl ev_in9 rfl ul_4_187 ⟨rfl, rfl⟩ rfl ?_
        refine e_iload (pc := 68) dX9_bringsBar_68 rfl ?_
        refine e_iald (q := 60) (x := (g1 60 (g1 79 ((5 * (g1 86 x3)) + 3)))) (pc := 70) dX9_bringsBar_70 rfl H.1 rfl ?_
        have H := H.2
        refine e_iload (pc := 71) dX9_bringsBar_71 rfl ?_
        refine e_icmp_eq (pc := 73) (tgt := 108) dX9_bringsBar_73 (by decide) (fun c1 => ?_) (fun c1 => ?_)
        · have H := H.1 c1
          refine e_iinc (lv' := [some (vR 55), none, some (vI x2), some (vI (x3 + 1)), some (vI (g1 79 ((5 * (g1 86 x3)) + 3))), some (vI (g1 79 ((5 * (g1 86 x3)) + 4)))]) (pc := 108) dX9_bringsBar_108 rfl H.1 rfl rfl ?_
          have H := H.2
          refine e_goto (pc := 111) (tgt := 16) dX9_bringsBar_111 (by decide) ?_
          refine e_mask [true, false, true, true, false, false] rfl ?_
          obtain ⟨m, hm, H⟩ := H
          exact ih1 m hm _ _ _ H
        · have H := H.2 c1
          refine e_aload_n (pc := 76) dX9_bringsBar_76 rfl rfl ?_
          refine e_getR (q := 55) (ci := 9) (k := 5) (y := 60) (C := RX9) (T := TX9) (N := 52) (pc := 77) dX9_bringsBar_77 rfl rfl ev_in9 rfl ul_4_187 ⟨rfl, rfl⟩ rfl ?_
          refine e_iload (pc := 80) dX9_bringsBar_80 rfl ?_
          refine e_iload (pc := 82) dX9_bringsBar_82 rfl ?_
          refine e_iast (q := 60) (pc := 84) dX9_bringsBar_84 rfl H.1 ?_
          have H := H.2
          refine e_iinc (lv' := [some (vR 55), none, some (vI (x2 + 1)), some (vI x3), some (vI (g1 79 ((5 * (g1 86 x3)) + 3))), some (vI (g1 79 ((5 * (g1 86 x3)) + 4)))]) (pc := 85) dX9_bringsBar_85 rfl H.1 rfl rfl ?_
          have H := H.2
          refine e_aload_n (pc := 88) dX9_bringsBar_88 rfl rfl ?_
          refine e_invV (pc := 89) (Y' := Y_X9_newBar) (as := []) (st := []) (lv0 := [some (vR 55), none]) (q := 55) (ci := 9) (T := TX9) (N := 52) dX9_bringsBar_89 m_X9_newBar ul_6_19 ⟨ul_6_21, us_X9_newBar⟩ ⟨rfl, rfl⟩ rfl rfl rfl rfl rfl rfl rfl (c_X9_newBar w (sth g1 60 (g1 79 ((5 * (g1 86 x3)) + 3)) (g1 79 ((5 * (g1 86 x3)) + 4))) H.1) ?_
          rintro _ hz ⟨_, rfl, rfl, hh⟩
          rw [hh]
          show Ev w Y_X9_bringsBar 92 [some (vR 55), none, some (vI (x2 + 1)), some (vI x3), some (vI (g1 79 ((5 * (g1 86 x3)) + 3))), some (vI (g1 79 ((5 * (g1 86 x3)) + 4)))] [vI (b2i (∃ k : Int, 0 ≤ k ∧ k < (sth g1 60 (g1 79 ((5 * (g1 86 x3)) + 3)) (g1 79 ((5 * (g1 86 x3)) + 4))) 70 1 ∧ (sth g1 60 (g1 79 ((5 * (g1 86 x3)) + 3)) (g1 79 ((5 * (g1 86 x3)) + 4))) 82 k = 0 ∧ mBar (sth g1 60 (g1 79 ((5 * (g1 86 x3)) + 3)) (g1 79 ((5 * (g1 86 x3)) + 4))) k))] (sth g1 60 (g1 79 ((5 * (g1 86 x3)) + 3)) (g1 79 ((5 * (g1 86 x3)) + 4))) (rI K)
          have H := H.2
          refine e_ifb_eq (pc := 92) (tgt := 102) dX9_bringsBar_92 (by decide) (fun c2 => ?_) (fun c2 => ?_)
          · have H := H.1 c2
            refine e_aload_n (pc := 102) dX9_bringsBar_102 rfl rfl ?_
            refine e_iload (pc := 103) dX9_bringsBar_103 rfl ?_
            refine e_invV (pc := 105) (Y' := Y_X9_wakeBy) (as := [vI (g1 79 ((5 * (g1 86 x3)) + 3))]) (st := []) (lv0 := [some (vR 55), some (vI (g1 79 ((5 * (g1 86 x3)) + 3))), none]) (q := 55) (ci := 9) (T := TX9) (N := 52) dX9_bringsBar_105 m_X9_wakeBy ul_6_27 ⟨ul_6_29, us_X9_wakeBy⟩ ⟨rfl, rfl⟩ rfl rfl rfl rfl rfl rfl rfl (c_X9_wakeBy w (g1 79 ((5 * (g1 86 x3)) + 3)) (sth g1 60 (g1 79 ((5 * (g1 86 x3)) + 3)) (g1 79 ((5 * (g1 86 x3)) + 4))) _ H) ?_
            rintro _ h21 ⟨rfl, H⟩
            show Ev w Y_X9_bringsBar 108 [some (vR 55), none, some (vI (x2 + 1)), some (vI x3), some (vI (g1 79 ((5 * (g1 86 x3)) + 3))), some (vI (g1 79 ((5 * (g1 86 x3)) + 4)))] [] h21 (rI K)
            refine e_iinc (lv' := [some (vR 55), none, some (vI (x2 + 1)), some (vI (x3 + 1)), some (vI (g1 79 ((5 * (g1 86 x3)) + 3))), some (vI (g1 79 ((5 * (g1 86 x3)) + 4)))]) (pc := 108) dX9_bringsBar_108 rfl H.1 rfl rfl ?_
            have H := H.2
            refine e_goto (pc := 111) (tgt := 16) dX9_bringsBar_111 (by decide) ?_
            refine e_mask [true, false, true, true, false, false] rfl ?_
            obtain ⟨m, hm, H⟩ := H
            exact ih1 m hm _ _ _ H
          · have H := H.2 c2
            refine e_aload_n (pc := 95) dX9_bringsBar_95 rfl rfl ?_
            refine e_iconst (pc := 96) dX9_bringsBar_96 ⟨by decide, by decide⟩ ?_
            refine e_put (q := 55) (ci := 9) (k := 47) (kz := 47) (C := RX9) (T := TX9) (N := 52) (ty := .int) (pc := 97) dX9_bringsBar_97 rfl rfl rfl ev_in9 tyX9 tyX9_ok nmX9 rfl ul_4_229 ⟨rfl, by decide⟩ rfl (tyX9_ok 47 (by decide)) (Or.inl rfl) ?_
            refine e_iconst (pc := 100) dX9_bringsBar_100 ⟨by decide, by decide⟩ ?_
            exact e_ret (pc := 101) (v := some (vI 1)) dX9_bringsBar_101 rfl (Or.inr rfl) ⟨_, rfl, H⟩
      refine e_icmp_ge (pc := 21) (tgt := 114) dX9_bringsBar_21 (by decide) (fun c3 => ?_) (fun c3 => ?_)
      · exact J1 (Or.inl c3)
      · refine e_iload_n (pc := 24) dX9_bringsBar_24 rfl rfl ?_
        refine e_bipush (pc := 25) dX9_bringsBar_25 ⟨by decide, by decide⟩ (by decide) ?_
        refine e_icmp_ge (pc := 27) (tgt := 114) dX9_bringsBar_27 (by decide) (fun c4 => ?_) (fun c4 => ?_)
        · exact J1 (Or.inr c4)
        · exact J2 (fun z => z.elim c3 c4)
  refine e_aload_n (pc := 0) dX9_bringsBar_0 rfl rfl ?_
  refine e_getR (q := 55) (ci := 9) (k := 48) (y := 86) (C := RX9) (T := TX9) (N := 52) (pc := 1) dX9_bringsBar_1 rfl rfl ev_in9 rfl ul_4_230 ⟨rfl, rfl⟩ rfl ?_
  refine e_iconst (pc := 4) dX9_bringsBar_4 ⟨by decide, by decide⟩ ?_
  refine e_iload_n (pc := 5) dX9_bringsBar_5 rfl rfl ?_
  refine e_iast (q := 86) (pc := 6) dX9_bringsBar_6 rfl ⟨by decide, by decide⟩ ?_
  refine e_aload_n (pc := 7) dX9_bringsBar_7 rfl rfl ?_
  refine e_iconst (pc := 8) dX9_bringsBar_8 ⟨by decide, by decide⟩ ?_
  refine e_put (q := 55) (ci := 9) (k := 47) (kz := 47) (C := RX9) (T := TX9) (N := 52) (ty := .int) (pc := 9) dX9_bringsBar_9 rfl rfl rfl ev_in9 tyX9 tyX9_ok nmX9 rfl ul_4_229 ⟨rfl, by decide⟩ rfl (tyX9_ok 47 (by decide)) (Or.inl rfl) ?_
  refine e_iconst (pc := 12) dX9_bringsBar_12 ⟨by decide, by decide⟩ ?_
  refine e_istore_n (lv' := [some (vR 55), some (vI s), some (vI 0), none, none, none]) (pc := 13) dX9_bringsBar_13 rfl rfl rfl ?_
  refine e_iconst (pc := 14) dX9_bringsBar_14 ⟨by decide, by decide⟩ ?_
  refine e_istore_n (lv' := [some (vR 55), some (vI s), some (vI 0), some (vI 0), none, none]) (pc := 15) dX9_bringsBar_15 rfl rfl rfl ?_
  refine e_mask [true, false, true, true, false, false] rfl ?_
  obtain ⟨m, H⟩ := H
  exact L1 m _ _ _ H
set_option maxRecDepth 100000 in
set_option maxHeartbeats 4000000 in
theorem c_X9_bringsBar (w : WD) (s : Int) (h : HP) (K : Int → HP → Prop)  (H : S_X9_bringsBar s h K) : Ev w Y_X9_bringsBar 0 [some (vR 55), some (vI s), none, none, none, none] [] h (rI K) := by
  obtain ⟨S, ⟨hH, hF, hS, hs0, hin0, h60⟩, HK⟩ := H
  have h67 := hS.1
  have h10 := hH.1
  have hsi := fwM_in hS hs0 hin0
  refine v_X9_bringsBar w s h K (fun n x2 x3 g => ∃ (k F : Nat) (L : List Int) (S1 : Int), x3 = (k : Int) ∧ n = 300 - k ∧ F + k = 257 ∧ k ≤ L.length ∧ (0 ≤ x2 ∧ x2 ≤ 30) ∧ (L.length : Int) ≤ 1 + 8 * x2 ∧ inS S1 ∧ (∀ t : Int, 0 ≤ t → t < 10 → g 60 t = dgt S1 t) ∧ mHOK g ∧ (∀ q, q ≠ 60 → q ≠ 86 → q ≠ 55 → g q = h q) ∧ (∀ i : Int, i ≠ 47 → g 55 i = h 55 i) ∧ g 55 47 = (L.length : Int) ∧ rwH (g 86) L ∧ (∀ y : Int, y ∈ L → 0 ≤ y ∧ y < h 55 33) ∧ fwM h s S = sbf (fun x => h 79 (5 * x + 3)) (fun x => h 79 (5 * x + 4)) (wkM h) (BRm h) F k x2 S1 L) ⟨300, 0, 257, [s], S, rfl, rfl, rfl, Nat.zero_le _, by omega, by simp only [List.length_singleton]; omega, hin0, fun t a b => by rw [sth_ne (by decide), sth_ne (by decide)]; exact h60 t a b, mHOK_c (by rw [sth_eq, us_n (by decide), sth_ne (by decide)]) (by rw [sth_ne (by decide), sth_ne (by decide)]) (by rw [sth_ne (by decide), sth_ne (by decide)]) (by rw [sth_ne (by decide), sth_ne (by decide)]) (by rw [sth_ne (by decide), sth_ne (by decide)]) (by rw [sth_ne (by decide), sth_ne (by decide)]) hH, fun q a b c => by rw [sth_ne c, sth_ne b], fun i a => by rw [sth_eq, us_n a, sth_ne (by decide)], by rw [sth_eq, us_s]; rfl, fun i hi => ?_, fun y hy => by rw [List.mem_singleton] at hy; omega, rfl⟩ ?_
  · rw [List.length_singleton] at hi
    have : i = 0 := by omega
    subst this
    rw [sth_ne (by decide), sth_eq]
    show us _ 0 s 0 = s
    rw [us_s]
  · rintro n x2 x3 g ⟨k, F, L, S1, rfl, rfl, hFk, hkL, hc, hlen, hin, hag, hHg, hg, h6, hl, hr, hm, he⟩
    rw [hl]
    refine ⟨fun z => ?_, fun z => ?_⟩
    · rw [sbf_stop (F := F) (k := k) (c := x2) (L := L) (by rintro ⟨y1, y2⟩; rcases z with z | z <;> omega)] at he
      have := HK (sth g 55 47 0) (fun q a b c => by rw [sth_ne c]; exact hg q a b c) (fun i a => by rw [sth_eq, us_n a]; exact h6 i a) (mHOK_c (by rw [sth_eq, us_n (by decide)]) (sth_ne (by decide)) (sth_ne (by decide)) (sth_ne (by decide)) (sth_ne (by decide)) (sth_ne (by decide)) hHg) (fun _ t a b => by rw [sth_ne (by decide), he]; exact hag t a b)
      rw [b2i_f (by rw [he]; have := hin.1; omega)] at this
      exact this
    · have hk : k < L.length ∧ x2 < 30 := ⟨Classical.byContradiction (fun y => z (Or.inl (by omega))), Classical.byContradiction (fun y => z (Or.inr (by omega)))⟩
      obtain ⟨F, rfl⟩ : ∃ j, F = j + 1 := ⟨F - 1, by omega⟩
      generalize hx : L.getD k 0 = x at *
      have hsm := hm x (by rw [← hx]; exact getD_mem hk.1)
      have hst := hS.2 x hsm.1 hsm.2
      have e86 : g 86 (k : Int) = x := by rw [hr k hk.1, hx]
      have g79 : g 79 = h 79 := hg _ (by decide) (by decide) (by decide)
      have g70 : g 70 = h 70 := hg _ (by decide) (by decide) (by decide)
      have g71 : g 71 = h 71 := hg _ (by decide) (by decide) (by decide)
      have g82 : g 82 = h 82 := hg _ (by decide) (by decide) (by decide)
      have g0 : g 55 0 = h 55 0 := h6 0 (by decide)
      have g33 : g 55 33 = h 55 33 := h6 33 (by decide)
      have hfg : mfOK g := by unfold mfOK; rw [g70, g71]; exact hF
      rw [e86, g79]
      have hcond : g 60 (h 79 (5 * x + 3)) = h 79 (5 * x + 4) ↔ dgt S1 (h 79 (5 * x + 3)) = h 79 (5 * x + 4) := by rw [hag _ hst.1.1 (by omega)]
      generalize ht : h 79 (5 * x + 3) = t at *
      generalize hv : h 79 (5 * x + 4) = v at *
      have aq : ∀ q, q ≠ 60 → sth g 60 t v q = g q := fun q a => sth_ne a
      have a60 : sth g 60 t v 60 = us (g 60) t v := sth_eq
      have hH2 : mHOK (sth g 60 t v) := mHOK_60 (t := t) (v := v) hHg (by rw [aq 55 (by decide)]) (aq _ (by decide)) (aq _ (by decide)) (aq _ (by decide)) (aq _ (by decide)) a60 (by omega) hst.2
      have hag2 : ∀ u : Int, 0 ≤ u → u < 10 → us (g 60) t v u = dgt (wth S1 t v) u := fun u u0 u1 => by
        rw [dgt_wth hst.2 u0 u1]
        by_cases e : u = t
        · rw [e, us_s, if_pos rfl]
        · rw [us_n e, if_neg e]; exact hag u u0 u1
      have hnb : (∃ k : Int, 0 ≤ k ∧ k < sth g 60 t v 70 1 ∧ sth g 60 t v 82 k = 0 ∧ mBar (sth g 60 t v) k) ↔ BRm h (wth S1 t v) := by
        unfold BRm
        rw [aq 70 (by decide), aq 82 (by decide), g70, g82]
        have q1 : ∀ j : Int, 0 ≤ j ∧ j < h 70 1 → (mBar (sth g 60 t v) j ↔ mBrF h j (dgt (wth S1 t v))) := fun j hj => by
          rw [mBar_F (h := h) (by rw [aq 71 (by decide), g71]) (by rw [aq 62 (by decide), hg 62 (by decide) (by decide) (by decide)]) (by rw [aq 56 (by decide), hg 56 (by decide) (by decide) (by decide)]), a60]
          exact iBar_c (hF.2 j hj.1 hj.2) hag2
        exact ⟨fun ⟨j, a, b, c, d⟩ => ⟨j, a, b, c, (q1 j ⟨a, b⟩).mp d⟩, fun ⟨j, a, b, c, d⟩ => ⟨j, a, b, c, (q1 j ⟨a, b⟩).mpr d⟩⟩
      rw [hnb]
      refine ⟨by omega, ⟨by omega, by omega⟩, ⟨by omega, by omega⟩, by omega, by omega, ⟨by omega, by omega⟩, ⟨by omega, by omega⟩, by omega, by omega, fun z1 => ?_, fun z1 => ⟨by omega, ⟨by omega, by omega⟩, ⟨by unfold mfOK; rw [aq 70 (by decide), aq 71 (by decide)]; exact hfg, hH2⟩, fun z2 => ?_, fun z2 => ?_⟩⟩
      · have hne : dgt S1 ((fun x => h 79 (5 * x + 3)) x) = (fun x => h 79 (5 * x + 4)) x := by show dgt S1 (h 79 (5 * x + 3)) = h 79 (5 * x + 4); rw [ht, hv]; exact hcond.mp z1
        refine ⟨⟨by omega, by omega⟩, 300 - (k + 1), by omega, k + 1, F, L, S1, by omega, rfl, by omega, by omega, hc, hlen, hin, hag, hHg, hg, h6, rfl, hr, hm, ?_⟩
        rw [he]
        exact sbf_same hk hx hne
      · have hne : ¬ dgt S1 ((fun x => h 79 (5 * x + 3)) x) = (fun x => h 79 (5 * x + 4)) x := by show ¬ dgt S1 (h 79 (5 * x + 3)) = h 79 (5 * x + 4); rw [ht, hv]; exact fun y => z1 (hcond.mpr y)
        refine ⟨L, ⟨by rw [aq 55 (by decide), g33]; exact h67, by omega, by rw [aq 55 (by decide)]; exact hl, by rw [aq 86 (by decide)]; exact hr, by omega⟩, fun h2 p1 p2 p3 p4 => ?_⟩
        have ew : wkP (mwk (sth g 60 t v) t) (sth g 60 t v 55 33).toNat = wkM h t v := by
          unfold wkM
          rw [aq 55 (by decide), g33]
          refine wkP_c (fun i _ _ => ?_)
          unfold mwk
          rw [aq 79 (by decide), g79, a60, us_s]
        rw [ew] at p3 p4
        have hwl := wkM_l h67 t v
        have hla := List.length_append (as := L) (bs := wkM h t v)
        have m60 : h2 60 = us (g 60) t v := by rw [p1 60 (by decide) (by decide), a60]
        have mq : ∀ q, q ≠ 60 → q ≠ 86 → q ≠ 55 → h2 q = g q := fun q a b c => by rw [p1 q b c, aq q a]
        have m55 : ∀ i : Int, i ≠ 47 → h2 55 i = g 55 i := fun i a => by rw [p2 i a, aq 55 (by decide)]
        refine ⟨⟨by omega, by omega⟩, 300 - (k + 1), by omega, k + 1, F, L ++ wkM h t v, wth S1 t v, by omega, rfl, by omega, by omega, by omega, by omega, inS_wth hst.2, fun u u0 u1 => by rw [m60]; exact hag2 u u0 u1, mHOK_60 (t := t) (v := v) hHg (m55 0 (by decide)) (mq _ (by decide) (by decide) (by decide)) (mq _ (by decide) (by decide) (by decide)) (mq _ (by decide) (by decide) (by decide)) (mq _ (by decide) (by decide) (by decide)) m60 (by omega) hst.2, fun q a b c => by rw [mq q a b c]; exact hg q a b c, fun i a => by rw [m55 i a]; exact h6 i a, p3, p4, fun y hy => ?_, ?_⟩
        · rw [List.mem_append] at hy
          rcases hy with hy | hy
          · exact hm y hy
          · exact wkM_m h67 _ _ y hy
        · rw [he, sbf_go hk hx hne (by show ¬ BRm h (wth S1 (h 79 (5 * x + 3)) (h 79 (5 * x + 4))); rw [ht, hv]; exact z2)]
          show sbf _ _ _ _ _ _ _ (wth S1 (h 79 (5 * x + 3)) (h 79 (5 * x + 4))) (L ++ wkM h (h 79 (5 * x + 3)) (h 79 (5 * x + 4))) = _
          rw [ht, hv]
      · have hne : ¬ dgt S1 ((fun x => h 79 (5 * x + 3)) x) = (fun x => h 79 (5 * x + 4)) x := by show ¬ dgt S1 (h 79 (5 * x + 3)) = h 79 (5 * x + 4); rw [ht, hv]; exact fun y => z1 (hcond.mpr y)
        have e1 : fwM h s S = -1 := by rw [he, sbf_bar hk hx hne (by show BRm h (wth S1 (h 79 (5 * x + 3)) (h 79 (5 * x + 4))); rw [ht, hv]; exact z2)]
        have := HK (sth (sth g 60 t v) 55 47 0) (fun q a b c => by rw [sth_ne c, aq q a]; exact hg q a b c) (fun i a => by rw [sth_eq, us_n a, aq 55 (by decide)]; exact h6 i a) (mHOK_c (by rw [sth_eq, us_n (by decide)]) (sth_ne (by decide)) (sth_ne (by decide)) (sth_ne (by decide)) (sth_ne (by decide)) (sth_ne (by decide)) hH2) (fun y => by rw [e1] at y; exact absurd y (by decide))
        rw [b2i_t (by rw [e1]; decide)] at this
        exact this
