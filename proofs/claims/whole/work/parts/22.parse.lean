/-! reading the text, both ways -/
def S_X5_readItem (p : Int) (h : HP) (K : Int → HP → Prop) : Prop := (tOK h ∧ 0 ≤ p ∧ p < h 2 5) ∧ ∀ (r : Int) (h' : HP), (∀ q, q ≠ 17 → h' q = h q) → ((iv (h 16) (h 2 5) p ∧ r = nxt (h 16) (h 2 5) p ∧ ∀ j : Nat, (j : Int) < nW (h 16 p) → h' 17 (j : Int) = nvl (h 16) (h 2 5) (np (h 16) (h 2 5) p j)) ∨ (¬ iv (h 16) (h 2 5) p ∧ r = -1)) → K r h'
theorem tOK_c {h h' : HP} (h2 : h' 2 = h 2) (h16 : h' 16 = h 16) (ht : tOK h) : tOK h' := by unfold tOK; rw [h2, h16]; exact ht
theorem sth_ne {h : HP} {q q' : Nat} {i v : Int} (hq : q' ≠ q) : sth h q i v q' = h q' := by unfold sth; rw [if_neg hq]
theorem sth_eq {h : HP} {q : Nat} {i v : Int} : sth h q i v q = us (h q) i v := by unfold sth; rw [if_pos rfl]; rfl
theorem us_s {f : Int → Int} {i v : Int} : us f i v i = v := by unfold us; rw [if_pos rfl]
theorem us_n {f : Int → Int} {i v j : Int} (h : j ≠ i) : us f i v j = f j := by unfold us; rw [if_neg h]
set_option maxRecDepth 100000 in
set_option maxHeartbeats 4000000 in
theorem v_X5_readItem (w : WD) (p : Int) (h : HP) (K : Int → HP → Prop) 
    (I1 : Nat → Int → Int → Int → HP → Prop)
    (H : ((0 ≤ p ∧ p < 200) ∧ ((iR (p + 1)) ∧ (∃ m : Nat, I1 m (nW (h 16 p)) (p + 1) 0 h))))
    (H1 : ∀ (n1 : Nat) (x2 : Int) (x3 : Int) (x4 : Int) (g1 : HP), I1 n1 x2 x3 x4 g1 → ((x2 ≤ x4 → ((0 ≤ p ∧ p < 200) ∧ K (cif (¬ (fitI (g1 16 p) (g1 17))) (-1) x3) g1)) ∧ (¬ x2 ≤ x4 → ((tOK g1 ∧ 0 ≤ x3 ∧ x3 < 1000) ∧ ((¬ (cif (fig (g1 16) (g1 2 5) x3) (nln (g1 16) (g1 2 5) x3) 0) = 0 → ((tOK g1 ∧ 0 ≤ x3 ∧ fig (g1 16) (g1 2 5) x3 ∧ (cif (fig (g1 16) (g1 2 5) x3) (nln (g1 16) (g1 2 5) x3) 0) = nln (g1 16) (g1 2 5) x3) ∧ ((0 ≤ x4 ∧ x4 < 5) ∧ ((iR (x3 + (cif (fig (g1 16) (g1 2 5) x3) (nln (g1 16) (g1 2 5) x3) 0))) ∧ ((iR (x2 - 1)) ∧ (((((g1 2 5) ≤ (x3 + (cif (fig (g1 16) (g1 2 5) x3) (nln (g1 16) (g1 2 5) x3) 0)) → True) ∧ (¬ (g1 2 5) ≤ (x3 + (cif (fig (g1 16) (g1 2 5) x3) (nln (g1 16) (g1 2 5) x3) 0)) → ((0 ≤ (x3 + (cif (fig (g1 16) (g1 2 5) x3) (nln (g1 16) (g1 2 5) x3) 0)) ∧ (x3 + (cif (fig (g1 16) (g1 2 5) x3) (nln (g1 16) (g1 2 5) x3) 0)) < 200) ∧ True)))) ∧ (((((g1 2 5) ≤ (x3 + (cif (fig (g1 16) (g1 2 5) x3) (nln (g1 16) (g1 2 5) x3) 0))) ∨ (¬ (g1 16 (x3 + (cif (fig (g1 16) (g1 2 5) x3) (nln (g1 16) (g1 2 5) x3) 0))) = (cif (¬ x4 = (x2 - 1)) 44 59))) → K (-1) (sth g1 17 x4 (nvl (g1 16) (g1 2 5) x3))) ∧ (¬ (((g1 2 5) ≤ (x3 + (cif (fig (g1 16) (g1 2 5) x3) (nln (g1 16) (g1 2 5) x3) 0))) ∨ (¬ (g1 16 (x3 + (cif (fig (g1 16) (g1 2 5) x3) (nln (g1 16) (g1 2 5) x3) 0))) = (cif (¬ x4 = (x2 - 1)) 44 59))) → ((iR ((x3 + (cif (fig (g1 16) (g1 2 5) x3) (nln (g1 16) (g1 2 5) x3) 0)) + 1)) ∧ ((iR (x4 + 1)) ∧ (∃ m : Nat, m < n1 ∧ I1 m x2 ((x3 + (cif (fig (g1 16) (g1 2 5) x3) (nln (g1 16) (g1 2 5) x3) 0)) + 1) (x4 + 1) (sth g1 17 x4 (nvl (g1 16) (g1 2 5) x3))))))))))))) ∧ ((cif (fig (g1 16) (g1 2 5) x3) (nln (g1 16) (g1 2 5) x3) 0) = 0 → K (-1) g1)))))) :
    Ev w Y_X5_readItem 0 [some (vR 2), some (vI p), none, none, none, none, none] [] h (rI K) := by
  have L1 : ∀ (n1 : Nat) (x2 : Int) (x3 : Int) (x4 : Int) (g1 : HP), I1 n1 x2 x3 x4 g1 → Ev w Y_X5_readItem 17 [some (vR 2), some (vI p), some (vI x2), some (vI x3), some (vI x4), none, none] [] g1 (rI K) := by
    intro n1
    induction n1 using Nat.strongRecOn with
    | ind n1 ih1 =>
      intro x2 x3 x4 g1 H
      have H := H1 n1 x2 x3 x4 g1 H
      refine e_iload (pc := 17) dX5_readItem_17 rfl ?_
      refine e_iload_n (pc := 19) dX5_readItem_19 rfl rfl ?_
      refine e_icmp_ge (pc := 20) (tgt := 103) dX5_readItem_20 (by decide) (fun c1 => ?_) (fun c1 => ?_)
      · have H := H.1 c1
        refine e_aload_n (pc := 103) dX5_readItem_103 rfl rfl ?_
        refine e_aload_n (pc := 104) dX5_readItem_104 rfl rfl ?_
        refine e_getR (q := 2) (ci := 5) (k := 1) (y := 16) (C := RX5) (T := TX5) (N := 7) (pc := 105) dX5_readItem_105 rfl rfl ev_in5 rfl ul_1_85 ⟨rfl, rfl⟩ rfl ?_
        refine e_iload_n (pc := 108) dX5_readItem_108 rfl rfl ?_
        refine e_iald (q := 16) (x := (g1 16 p)) (pc := 109) dX5_readItem_109 rfl H.1 rfl ?_
        have H := H.2
        refine e_invV (pc := 110) (Y' := Y_X5_numbersFit) (as := [vI (g1 16 p)]) (st := []) (lv0 := [some (vR 2), some (vI (g1 16 p))]) (q := 2) (ci := 5) (T := TX5) (N := 7) dX5_readItem_110 m_X5_numbersFit ul_2_226 ⟨ul_2_228, us_X5_numbersFit⟩ ⟨rfl, rfl⟩ rfl rfl rfl rfl rfl rfl rfl (c_X5_numbersFit w (g1 16 p) g1) ?_
        rintro _ hz ⟨_, rfl, rfl, hh⟩
        rw [hh]
        show Ev w Y_X5_readItem 113 [some (vR 2), some (vI p), some (vI x2), some (vI x3), some (vI x4), none, none] [vI (b2i (fitI (g1 16 p) (g1 17)))] g1 (rI K)
        have J : Ev w Y_X5_readItem 121 [some (vR 2), some (vI p), some (vI x2), some (vI x3), some (vI x4), none, none] [vI (cif (¬ (fitI (g1 16 p) (g1 17))) (-1) x3)] g1 (rI K) := by
          exact e_ret (pc := 121) (v := some (vI (cif (¬ (fitI (g1 16 p) (g1 17))) (-1) x3))) dX5_readItem_121 rfl trivial ⟨_, rfl, H⟩
        refine e_ifb_eq (pc := 113) (tgt := 120) dX5_readItem_113 (by decide) (fun c2 => ?_) (fun c2 => ?_)
        · refine e_iconst (pc := 120) dX5_readItem_120 ⟨by decide, by decide⟩ ?_
          exact e_top (cif_t c2) J
        · refine e_iload_n (pc := 116) dX5_readItem_116 rfl rfl ?_
          refine e_goto (pc := 117) (tgt := 121) dX5_readItem_117 (by decide) ?_
          exact e_top (cif_f (fun z => z c2)) J
      · have H := H.2 c1
        refine e_aload_n (pc := 23) dX5_readItem_23 rfl rfl ?_
        refine e_iload_n (pc := 24) dX5_readItem_24 rfl rfl ?_
        refine e_invV (pc := 25) (Y' := Y_X5_figuresAt) (as := [vI x3]) (st := []) (lv0 := [some (vR 2), some (vI x3)]) (q := 2) (ci := 5) (T := TX5) (N := 7) dX5_readItem_25 m_X5_figuresAt ul_2_214 ⟨ul_2_216, us_X5_figuresAt⟩ ⟨rfl, rfl⟩ rfl rfl rfl rfl rfl rfl rfl (c_X5_figuresAt w x3 g1 H.1) ?_
        rintro _ hz ⟨_, rfl, rfl, hh⟩
        rw [hh]
        show Ev w Y_X5_readItem 28 [some (vR 2), some (vI p), some (vI x2), some (vI x3), some (vI x4), none, none] [vI (cif (fig (g1 16) (g1 2 5) x3) (nln (g1 16) (g1 2 5) x3) 0)] g1 (rI K)
        have H := H.2
        refine e_istore (lv' := [some (vR 2), some (vI p), some (vI x2), some (vI x3), some (vI x4), some (vI (cif (fig (g1 16) (g1 2 5) x3) (nln (g1 16) (g1 2 5) x3) 0)), none]) (pc := 28) dX5_readItem_28 rfl rfl ?_
        refine e_iload (pc := 30) dX5_readItem_30 rfl ?_
        refine e_if_ne (pc := 32) (tgt := 37) dX5_readItem_32 (by decide) (fun c3 => ?_) (fun c3 => ?_)
        · have H := H.1 c3
          refine e_aload_n (pc := 37) dX5_readItem_37 rfl rfl ?_
          refine e_getR (q := 2) (ci := 5) (k := 2) (y := 17) (C := RX5) (T := TX5) (N := 7) (pc := 38) dX5_readItem_38 rfl rfl ev_in5 rfl ul_1_86 ⟨rfl, rfl⟩ rfl ?_
          refine e_iload (pc := 41) dX5_readItem_41 rfl ?_
          refine e_aload_n (pc := 43) dX5_readItem_43 rfl rfl ?_
          refine e_iload_n (pc := 44) dX5_readItem_44 rfl rfl ?_
          refine e_iload (pc := 45) dX5_readItem_45 rfl ?_
          refine e_invV (pc := 47) (Y' := Y_X5_valueAt) (as := [vI x3, vI (cif (fig (g1 16) (g1 2 5) x3) (nln (g1 16) (g1 2 5) x3) 0)]) (st := [vI x4, vR 17]) (lv0 := [some (vR 2), some (vI x3), some (vI (cif (fig (g1 16) (g1 2 5) x3) (nln (g1 16) (g1 2 5) x3) 0)), none]) (q := 2) (ci := 5) (T := TX5) (N := 7) dX5_readItem_47 m_X5_valueAt ul_2_222 ⟨ul_2_224, us_X5_valueAt⟩ ⟨rfl, rfl⟩ rfl rfl rfl rfl rfl rfl rfl (c_X5_valueAt w x3 (cif (fig (g1 16) (g1 2 5) x3) (nln (g1 16) (g1 2 5) x3) 0) g1 H.1) ?_
          rintro _ hz ⟨_, rfl, rfl, hh⟩
          rw [hh]
          show Ev w Y_X5_readItem 50 [some (vR 2), some (vI p), some (vI x2), some (vI x3), some (vI x4), some (vI (cif (fig (g1 16) (g1 2 5) x3) (nln (g1 16) (g1 2 5) x3) 0)), none] [vI (nvl (g1 16) (g1 2 5) x3), vI x4, vR 17] g1 (rI K)
          have H := H.2
          refine e_iast (q := 17) (pc := 50) dX5_readItem_50 rfl H.1 ?_
          have H := H.2
          refine e_iload_n (pc := 51) dX5_readItem_51 rfl rfl ?_
          refine e_iload (pc := 52) dX5_readItem_52 rfl ?_
          refine e_iadd (pc := 54) dX5_readItem_54 H.1 ?_
          have H := H.2
          refine e_istore_n (lv' := [some (vR 2), some (vI p), some (vI x2), some (vI (x3 + (cif (fig (g1 16) (g1 2 5) x3) (nln (g1 16) (g1 2 5) x3) 0))), some (vI x4), some (vI (cif (fig (g1 16) (g1 2 5) x3) (nln (g1 16) (g1 2 5) x3) 0)), none]) (pc := 55) dX5_readItem_55 rfl rfl rfl ?_
          refine e_iload (pc := 56) dX5_readItem_56 rfl ?_
          refine e_iload_n (pc := 58) dX5_readItem_58 rfl rfl ?_
          refine e_iconst (pc := 59) dX5_readItem_59 ⟨by decide, by decide⟩ ?_
          refine e_isub (pc := 60) dX5_readItem_60 H.1 ?_
          have H := H.2
          have J : Ev w Y_X5_readItem 71 [some (vR 2), some (vI p), some (vI x2), some (vI (x3 + (cif (fig (g1 16) (g1 2 5) x3) (nln (g1 16) (g1 2 5) x3) 0))), some (vI x4), some (vI (cif (fig (g1 16) (g1 2 5) x3) (nln (g1 16) (g1 2 5) x3) 0)), none] [vI (cif (¬ x4 = (x2 - 1)) 44 59)] (sth g1 17 x4 (nvl (g1 16) (g1 2 5) x3)) (rI K) := by
            refine e_istore (lv' := [some (vR 2), some (vI p), some (vI x2), some (vI (x3 + (cif (fig (g1 16) (g1 2 5) x3) (nln (g1 16) (g1 2 5) x3) 0))), some (vI x4), some (vI (cif (fig (g1 16) (g1 2 5) x3) (nln (g1 16) (g1 2 5) x3) 0)), some (vI (cif (¬ x4 = (x2 - 1)) 44 59))]) (pc := 71) dX5_readItem_71 rfl rfl ?_
            refine e_iload_n (pc := 73) dX5_readItem_73 rfl rfl ?_
            refine e_aload_n (pc := 74) dX5_readItem_74 rfl rfl ?_
            refine e_getI (q := 2) (ci := 5) (k := 5) (kz := 5) (C := RX5) (T := TX5) (N := 7) (x := (g1 2 5)) (pc := 75) dX5_readItem_75 rfl rfl rfl ev_in5 rfl ul_1_89 ⟨rfl, by decide⟩ rfl ?_
            have Ho := H.1
            have H := H.2
            have J1 : (((g1 2 5) ≤ (x3 + (cif (fig (g1 16) (g1 2 5) x3) (nln (g1 16) (g1 2 5) x3) 0))) ∨ (¬ (g1 16 (x3 + (cif (fig (g1 16) (g1 2 5) x3) (nln (g1 16) (g1 2 5) x3) 0))) = (cif (¬ x4 = (x2 - 1)) 44 59))) → Ev w Y_X5_readItem 92 [some (vR 2), some (vI p), some (vI x2), some (vI (x3 + (cif (fig (g1 16) (g1 2 5) x3) (nln (g1 16) (g1 2 5) x3) 0))), some (vI x4), some (vI (cif (fig (g1 16) (g1 2 5) x3) (nln (g1 16) (g1 2 5) x3) 0)), some (vI (cif (¬ x4 = (x2 - 1)) 44 59))] [] (sth g1 17 x4 (nvl (g1 16) (g1 2 5) x3)) (rI K) := by
              intro hp
              have H := H.1 hp
              refine e_iconst (pc := 92) dX5_readItem_92 ⟨by decide, by decide⟩ ?_
              exact e_ret (pc := 93) (v := some (vI (-1))) dX5_readItem_93 rfl trivial ⟨_, rfl, H⟩
            have J2 : ¬ (((g1 2 5) ≤ (x3 + (cif (fig (g1 16) (g1 2 5) x3) (nln (g1 16) (g1 2 5) x3) 0))) ∨ (¬ (g1 16 (x3 + (cif (fig (g1 16) (g1 2 5) x3) (nln (g1 16) (g1 2 5) x3) 0))) = (cif (¬ x4 = (x2 - 1)) 44 59))) → Ev w Y_X5_readItem 94 [some (vR 2), some (vI p), some (vI x2), some (vI (x3 + (cif (fig (g1 16) (g1 2 5) x3) (nln (g1 16) (g1 2 5) x3) 0))), some (vI x4), some (vI (cif (fig (g1 16) (g1 2 5) x3) (nln (g1 16) (g1 2 5) x3) 0)), some (vI (cif (¬ x4 = (x2 - 1)) 44 59))] [] (sth g1 17 x4 (nvl (g1 16) (g1 2 5) x3)) (rI K) := by
              intro hp
              have H := H.2 hp
              refine e_iinc (lv' := [some (vR 2), some (vI p), some (vI x2), some (vI ((x3 + (cif (fig (g1 16) (g1 2 5) x3) (nln (g1 16) (g1 2 5) x3) 0)) + 1)), some (vI x4), some (vI (cif (fig (g1 16) (g1 2 5) x3) (nln (g1 16) (g1 2 5) x3) 0)), some (vI (cif (¬ x4 = (x2 - 1)) 44 59))]) (pc := 94) dX5_readItem_94 rfl H.1 rfl rfl ?_
              have H := H.2
              refine e_iinc (lv' := [some (vR 2), some (vI p), some (vI x2), some (vI ((x3 + (cif (fig (g1 16) (g1 2 5) x3) (nln (g1 16) (g1 2 5) x3) 0)) + 1)), some (vI (x4 + 1)), some (vI (cif (fig (g1 16) (g1 2 5) x3) (nln (g1 16) (g1 2 5) x3) 0)), some (vI (cif (¬ x4 = (x2 - 1)) 44 59))]) (pc := 97) dX5_readItem_97 rfl H.1 rfl rfl ?_
              have H := H.2
              refine e_goto (pc := 100) (tgt := 17) dX5_readItem_100 (by decide) ?_
              refine e_mask [true, true, true, true, true, false, false] rfl ?_
              obtain ⟨m, hm, H⟩ := H
              exact ih1 m hm _ _ _ _ H
            refine e_icmp_ge (pc := 78) (tgt := 92) dX5_readItem_78 (by decide) (fun c4 => ?_) (fun c4 => ?_)
            · have Ho := Ho.1 c4
              exact J1 (Or.inl c4)
            · have Ho := Ho.2 c4
              refine e_aload_n (pc := 81) dX5_readItem_81 rfl rfl ?_
              refine e_getR (q := 2) (ci := 5) (k := 1) (y := 16) (C := RX5) (T := TX5) (N := 7) (pc := 82) dX5_readItem_82 rfl rfl ev_in5 rfl ul_1_85 ⟨rfl, rfl⟩ rfl ?_
              refine e_iload_n (pc := 85) dX5_readItem_85 rfl rfl ?_
              refine e_iald (q := 16) (x := (g1 16 (x3 + (cif (fig (g1 16) (g1 2 5) x3) (nln (g1 16) (g1 2 5) x3) 0)))) (pc := 86) dX5_readItem_86 rfl Ho.1 rfl ?_
              have Ho := Ho.2
              refine e_iload (pc := 87) dX5_readItem_87 rfl ?_
              refine e_icmp_eq (pc := 89) (tgt := 94) dX5_readItem_89 (by decide) (fun c5 => ?_) (fun c5 => ?_)
              · exact J2 (fun z => z.elim c4 (fun z => z c5))
              · exact J1 (Or.inr c5)
          refine e_icmp_ne (pc := 61) (tgt := 69) dX5_readItem_61 (by decide) (fun c6 => ?_) (fun c6 => ?_)
          · refine e_bipush (pc := 69) dX5_readItem_69 ⟨by decide, by decide⟩ (by decide) ?_
            exact e_top (cif_t c6) J
          · refine e_bipush (pc := 64) dX5_readItem_64 ⟨by decide, by decide⟩ (by decide) ?_
            refine e_goto (pc := 66) (tgt := 71) dX5_readItem_66 (by decide) ?_
            exact e_top (cif_f (fun z => z c6)) J
        · have H := H.2 c3
          refine e_iconst (pc := 35) dX5_readItem_35 ⟨by decide, by decide⟩ ?_
          exact e_ret (pc := 36) (v := some (vI (-1))) dX5_readItem_36 rfl trivial ⟨_, rfl, H⟩
  refine e_aload_n (pc := 0) dX5_readItem_0 rfl rfl ?_
  refine e_getR (q := 2) (ci := 5) (k := 1) (y := 16) (C := RX5) (T := TX5) (N := 7) (pc := 1) dX5_readItem_1 rfl rfl ev_in5 rfl ul_1_85 ⟨rfl, rfl⟩ rfl ?_
  refine e_iload_n (pc := 4) dX5_readItem_4 rfl rfl ?_
  refine e_iald (q := 16) (x := (h 16 p)) (pc := 5) dX5_readItem_5 rfl H.1 rfl ?_
  have H := H.2
  refine e_invS (pc := 6) (Y' := Y_X5_numbersWanted) (as := [vI (h 16 p)]) (st := []) (lv0 := [some (vI (h 16 p))]) dX5_readItem_6 m_X5_numbersWanted ul_2_211 ul_2_212 ⟨rfl, rfl⟩ rfl rfl rfl rfl rfl (c_X5_numbersWanted w (h 16 p) h) ?_
  rintro _ hz ⟨_, rfl, rfl, hh⟩
  rw [hh]
  show Ev w Y_X5_readItem 9 [some (vR 2), some (vI p), none, none, none, none, none] [vI (nW (h 16 p))] h (rI K)
  refine e_istore_n (lv' := [some (vR 2), some (vI p), some (vI (nW (h 16 p))), none, none, none, none]) (pc := 9) dX5_readItem_9 rfl rfl rfl ?_
  refine e_iload_n (pc := 10) dX5_readItem_10 rfl rfl ?_
  refine e_iconst (pc := 11) dX5_readItem_11 ⟨by decide, by decide⟩ ?_
  refine e_iadd (pc := 12) dX5_readItem_12 H.1 ?_
  have H := H.2
  refine e_istore_n (lv' := [some (vR 2), some (vI p), some (vI (nW (h 16 p))), some (vI (p + 1)), none, none, none]) (pc := 13) dX5_readItem_13 rfl rfl rfl ?_
  refine e_iconst (pc := 14) dX5_readItem_14 ⟨by decide, by decide⟩ ?_
  refine e_istore (lv' := [some (vR 2), some (vI p), some (vI (nW (h 16 p))), some (vI (p + 1)), some (vI 0), none, none]) (pc := 15) dX5_readItem_15 rfl rfl ?_
  obtain ⟨m, H⟩ := H
  exact L1 m _ _ _ _ H
set_option maxRecDepth 100000 in
set_option maxHeartbeats 4000000 in
theorem c_X5_readItem (w : WD) (p : Int) (h : HP) (K : Int → HP → Prop)  (H : S_X5_readItem p h K) : Ev w Y_X5_readItem 0 [some (vR 2), some (vI p), none, none, none, none, none] [] h (rI K) := by
  obtain ⟨⟨ht, hp0, hp1⟩, HK⟩ := H
  obtain ⟨t1, t2, t3⟩ := id ht
  have hb := nW_b (h 16 p)
  refine v_X5_readItem w p h K (fun n x2 x3 x4 g => ∃ j : Nat, x4 = (j : Int) ∧ x2 = nW (h 16 p) ∧ (j : Int) ≤ nW (h 16 p) ∧ n = 5 - j ∧ x3 = np (h 16) (h 2 5) p j ∧ (0 ≤ x3 ∧ x3 ≤ h 2 5) ∧ (∀ q, q ≠ 17 → g q = h q) ∧ (∀ i : Nat, i < j → nok (h 16) (h 2 5) (np (h 16) (h 2 5) p i) (dlm (h 16 p) i)) ∧ (∀ i : Nat, i < j → g 17 (i : Int) = nvl (h 16) (h 2 5) (np (h 16) (h 2 5) p i))) ⟨by omega, ⟨by omega, by omega⟩, 5, 0, rfl, rfl, by omega, rfl, rfl, by omega, fun _ _ => rfl, fun i hi => by omega, fun i hi => by omega⟩ ?_
  rintro n x2 x3 x4 g ⟨j, rfl, rfl, hj, rfl, rfl, hx, hg, hn, hv⟩
  have g2 : g 2 = h 2 := hg 2 (by decide)
  have g16 : g 16 = h 16 := hg 16 (by decide)
  have htg : tOK g := tOK_c g2 g16 ht
  rw [g2, g16]
  generalize hq : np (h 16) (h 2 5) p j = q at hx
  refine ⟨fun c => ⟨by omega, ?_⟩, fun c => ⟨⟨htg, by omega, by omega⟩, fun c2 => ?_, fun c2 => ?_⟩⟩
  · have e : (nW (h 16 p)).toNat = j := by omega
    have hfit : fitI (h 16 p) (g 17) ↔ fitI (h 16 p) (fun i => nvl (h 16) (h 2 5) (np (h 16) (h 2 5) p i.toNat)) := fit_c (fun i a b => by
      have := hv i.toNat (by omega)
      rw [Int.toNat_of_nonneg a] at this
      exact this)
    by_cases cf : fitI (h 16 p) (g 17)
    · rw [cif_f (fun z => z cf)]
      refine HK _ g hg (Or.inl ⟨⟨fun i hi => hn i (by omega), hfit.mp cf⟩, ?_, fun i hi => hv i (by omega)⟩)
      unfold nxt
      rw [e, hq]
    · rw [cif_t cf]
      exact HK _ g hg (Or.inr ⟨fun z => cf (hfit.mpr z.2), rfl⟩)
  · have cf : fig (h 16) (h 2 5) q := Classical.byContradiction (fun z => c2 (cif_f z))
    rw [cif_t cf]
    have hl := nln_b (h 16) (h 2 5) q
    have e1 : dlm (h 16 p) j = cif (¬ (j : Int) = nW (h 16 p) - 1) 44 59 := by
      unfold dlm
      by_cases z : (j : Int) = nW (h 16 p) - 1
      · rw [if_pos z, cif_f (fun y => y z)]
      · rw [if_neg z, cif_t z]
    refine ⟨⟨htg, by omega, cf, rfl⟩, by omega, ⟨by omega, by omega⟩, ⟨by omega, by omega⟩, ⟨fun _ => trivial, fun _ => ⟨by omega, trivial⟩⟩, fun c3 => ?_, fun c3 => ⟨⟨by omega, by omega⟩, ⟨by omega, by omega⟩, 5 - (j + 1), by omega, j + 1, by omega, rfl, by omega, rfl, ?_, by omega, fun q' hq' => ?_, fun i hi => ?_, fun i hi => ?_⟩⟩
    · refine HK _ _ (fun q' hq' => by rw [sth_ne hq']; exact hg q' hq') (Or.inr ⟨fun z => ?_, rfl⟩)
      have := z.1 j (by omega)
      rw [hq, e1] at this
      rcases c3 with c3 | c3
      · have := this.2.1; omega
      · exact c3 this.2.2
    · simp only [np]
      rw [hq]
    · rw [sth_ne hq']; exact hg q' hq'
    · by_cases e : i = j
      · subst e
        rw [hq, e1]
        exact ⟨cf, by omega, Classical.not_not.mp (fun z => c3 (Or.inr z))⟩
      · exact hn i (by omega)
    · rw [sth_eq]
      by_cases e : i = j
      · subst e
        rw [us_s, hq]
      · rw [us_n (by omega)]; exact hv i (by omega)
  · have cf : ¬ fig (h 16) (h 2 5) q := fun z => by
      rw [cif_t z] at c2
      have := nln_b (h 16) (h 2 5) q
      omega
    refine HK _ g hg (Or.inr ⟨fun z => ?_, rfl⟩)
    have := (z.1 j (by omega)).1
    rw [hq] at this
    exact cf this
def ffR (T : Int → Int) (L r : Int) : Prop := ∃ m : Nat, (∀ k, k < m → ps T L k < L ∧ iv T L (ps T L k)) ∧ ((ps T L m < L ∧ ¬ iv T L (ps T L m) ∧ r = ps T L m) ∨ (L ≤ ps T L m ∧ r = -4))
theorem ffR_u {T : Int → Int} {L r r' : Int} (h : ffR T L r) (h' : ffR T L r') : r = r' := by
  obtain ⟨m, a, b⟩ := h
  obtain ⟨m', a', b'⟩ := h'
  rcases Nat.lt_trichotomy m m' with c | c | c
  · have := a' m c
    rcases b with b | b
    · exact absurd this.2 b.2.1
    · omega
  · subst c
    rcases b with b | b <;> rcases b' with b' | b' <;> omega
  · have := a m' c
    rcases b' with b' | b'
    · exact absurd this.2 b'.2.1
    · omega
def S_X5_firstFault (h : HP) (K : Int → HP → Prop) : Prop := tOK h ∧ ∀ (r : Int) (h' : HP), (∀ q, q ≠ 17 → h' q = h q) → ffR (h 16) (h 2 5) r → K r h'
set_option maxRecDepth 100000 in
set_option maxHeartbeats 4000000 in
theorem v_X5_firstFault (w : WD)  (h : HP) (K : Int → HP → Prop) 
    (I1 : Nat → Int → Int → HP → Prop)
    (H : (∃ m : Nat, I1 m 0 0 h))
    (H1 : ∀ (n1 : Nat) (x1 : Int) (x2 : Int) (g1 : HP), I1 n1 x1 x2 g1 → ((((200 ≤ x2) ∨ ((g1 2 5) ≤ x1)) → K (-4) g1) ∧ (¬ ((200 ≤ x2) ∨ ((g1 2 5) ≤ x1)) → (S_X5_readItem x1 g1 (fun r21 h21 => ((0 ≤ r21 → ((iR (x2 + 1)) ∧ (∃ m : Nat, m < n1 ∧ I1 m r21 (x2 + 1) h21))) ∧ (¬ 0 ≤ r21 → K x1 h21))))))) :
    Ev w Y_X5_firstFault 0 [some (vR 2), none, none, none] [] h (rI K) := by
  have L1 : ∀ (n1 : Nat) (x1 : Int) (x2 : Int) (g1 : HP), I1 n1 x1 x2 g1 → Ev w Y_X5_firstFault 4 [some (vR 2), some (vI x1), some (vI x2), none] [] g1 (rI K) := by
    intro n1
    induction n1 using Nat.strongRecOn with
    | ind n1 ih1 =>
      intro x1 x2 g1 H
      have H := H1 n1 x1 x2 g1 H
      refine e_iload_n (pc := 4) dX5_firstFault_4 rfl rfl ?_
      refine e_sipush (pc := 5) dX5_firstFault_5 ⟨by decide, by decide⟩ (by decide) ?_
      have J1 : ((200 ≤ x2) ∨ ((g1 2 5) ≤ x1)) → Ev w Y_X5_firstFault 39 [some (vR 2), some (vI x1), some (vI x2), none] [] g1 (rI K) := by
        intro hp
        have H := H.1 hp
        refine e_bipush (pc := 39) dX5_firstFault_39 ⟨by decide, by decide⟩ (by decide) ?_
        exact e_ret (pc := 41) (v := some (vI (-4))) dX5_firstFault_41 rfl trivial ⟨_, rfl, H⟩
      have J2 : ¬ ((200 ≤ x2) ∨ ((g1 2 5) ≤ x1)) → Ev w Y_X5_firstFault 19 [some (vR 2), some (vI x1), some (vI x2), none] [] g1 (rI K) := by
        intro hp
        have H := H.2 hp
        refine e_aload_n (pc := 19) dX5_firstFault_19 rfl rfl ?_
        refine e_iload_n (pc := 20) dX5_firstFault_20 rfl rfl ?_
        refine e_invV (pc := 21) (Y' := Y_X5_readItem) (as := [vI x1]) (st := []) (lv0 := [some (vR 2), some (vI x1), none, none, none, none, none]) (q := 2) (ci := 5) (T := TX5) (N := 7) dX5_firstFault_21 m_X5_readItem ul_2_207 ⟨ul_2_209, us_X5_readItem⟩ ⟨rfl, rfl⟩ rfl rfl rfl rfl rfl rfl rfl (c_X5_readItem w x1 g1 _ H) ?_
        rintro _ h21 ⟨r21, rfl, H⟩
        show Ev w Y_X5_firstFault 24 [some (vR 2), some (vI x1), some (vI x2), none] [vI r21] h21 (rI K)
        refine e_istore_n (lv' := [some (vR 2), some (vI x1), some (vI x2), some (vI r21)]) (pc := 24) dX5_firstFault_24 rfl rfl rfl ?_
        refine e_iload_n (pc := 25) dX5_firstFault_25 rfl rfl ?_
        refine e_if_ge (pc := 26) (tgt := 31) dX5_firstFault_26 (by decide) (fun c1 => ?_) (fun c1 => ?_)
        · have H := H.1 c1
          refine e_iload_n (pc := 31) dX5_firstFault_31 rfl rfl ?_
          refine e_istore_n (lv' := [some (vR 2), some (vI r21), some (vI x2), some (vI r21)]) (pc := 32) dX5_firstFault_32 rfl rfl rfl ?_
          refine e_iinc (lv' := [some (vR 2), some (vI r21), some (vI (x2 + 1)), some (vI r21)]) (pc := 33) dX5_firstFault_33 rfl H.1 rfl rfl ?_
          have H := H.2
          refine e_goto (pc := 36) (tgt := 4) dX5_firstFault_36 (by decide) ?_
          refine e_mask [true, true, true, false] rfl ?_
          obtain ⟨m, hm, H⟩ := H
          exact ih1 m hm _ _ _ H
        · have H := H.2 c1
          refine e_iload_n (pc := 29) dX5_firstFault_29 rfl rfl ?_
          exact e_ret (pc := 30) (v := some (vI x1)) dX5_firstFault_30 rfl trivial ⟨_, rfl, H⟩
      refine e_icmp_ge (pc := 8) (tgt := 39) dX5_firstFault_8 (by decide) (fun c2 => ?_) (fun c2 => ?_)
      · exact J1 (Or.inl c2)
      · refine e_iload_n (pc := 11) dX5_firstFault_11 rfl rfl ?_
        refine e_aload_n (pc := 12) dX5_firstFault_12 rfl rfl ?_
        refine e_getI (q := 2) (ci := 5) (k := 5) (kz := 5) (C := RX5) (T := TX5) (N := 7) (x := (g1 2 5)) (pc := 13) dX5_firstFault_13 rfl rfl rfl ev_in5 rfl ul_1_89 ⟨rfl, by decide⟩ rfl ?_
        refine e_icmp_ge (pc := 16) (tgt := 39) dX5_firstFault_16 (by decide) (fun c3 => ?_) (fun c3 => ?_)
        · exact J1 (Or.inr c3)
        · exact J2 (fun z => z.elim c2 c3)
  refine e_iconst (pc := 0) dX5_firstFault_0 ⟨by decide, by decide⟩ ?_
  refine e_istore_n (lv' := [some (vR 2), some (vI 0), none, none]) (pc := 1) dX5_firstFault_1 rfl rfl rfl ?_
  refine e_iconst (pc := 2) dX5_firstFault_2 ⟨by decide, by decide⟩ ?_
  refine e_istore_n (lv' := [some (vR 2), some (vI 0), some (vI 0), none]) (pc := 3) dX5_firstFault_3 rfl rfl rfl ?_
  obtain ⟨m, H⟩ := H
  exact L1 m _ _ _ H
set_option maxRecDepth 100000 in
set_option maxHeartbeats 4000000 in
theorem c_X5_firstFault (w : WD)  (h : HP) (K : Int → HP → Prop)  (H : S_X5_firstFault  h K) : Ev w Y_X5_firstFault 0 [some (vR 2), none, none, none] [] h (rI K) := by
  obtain ⟨ht, HK⟩ := H
  obtain ⟨t1, t2, t3⟩ := id ht
  refine v_X5_firstFault w h K (fun n x1 x2 g => ∃ k : Nat, x2 = (k : Int) ∧ x1 = ps (h 16) (h 2 5) k ∧ n = 200 - k ∧ (∀ q, q ≠ 17 → g q = h q) ∧ ∀ i : Nat, i < k → ps (h 16) (h 2 5) i < h 2 5 ∧ iv (h 16) (h 2 5) (ps (h 16) (h 2 5) i)) ⟨200, 0, rfl, rfl, rfl, fun _ _ => rfl, fun i hi => by omega⟩ ?_
  rintro n x1 x2 g ⟨k, rfl, rfl, rfl, hg, hi⟩
  have g2 : g 2 = h 2 := hg 2 (by decide)
  have g16 : g 16 = h 16 := hg 16 (by decide)
  have h5 := ps_ge k (fun i z => (hi i z).2)
  rw [g2]
  refine ⟨fun c => HK _ g hg ⟨k, hi, Or.inr ⟨by omega, rfl⟩⟩, fun c => ⟨⟨tOK_c g2 g16 ht, by omega, by rw [g2]; omega⟩, fun r h' hf hr => ?_⟩⟩
  rw [g2, g16] at hr
  have hg' : ∀ q, q ≠ 17 → h' q = h q := fun q z => (hf q z).trans (hg q z)
  rcases hr with ⟨a, b, d⟩ | ⟨a, b⟩
  · have := nxt_b a
    refine ⟨fun _ => ⟨⟨by omega, by omega⟩, 200 - (k + 1), by omega, k + 1, by omega, ?_, rfl, hg', fun i z => ?_⟩, fun z => by omega⟩
    · rw [b]; rfl
    · by_cases e : i = k
      · subst e; exact ⟨by omega, a⟩
      · exact hi i (by omega)
  · exact ⟨fun z => by omega, fun _ => HK _ h' hg' ⟨k, hi, Or.inl ⟨by omega, a, rfl⟩⟩⟩
/-- the items of a text without fault, as the class lays them -/
def frC (T : Int → Int) (L : Int) (m : Nat) (h : HP) : Prop := ∀ k : Nat, k < m → h 18 (k : Int) = T (ps T L k) ∧ ∀ j : Nat, (j : Int) < nW (T (ps T L k)) → h 19 ((k : Int) * 5 + (j : Int)) = nvl T L (np T L (ps T L k) j)
def okT (T : Int → Int) (L : Int) (m : Nat) : Prop := (∀ k, k < m → ps T L k < L ∧ iv T L (ps T L k)) ∧ L ≤ ps T L m
def S_X5_putInForce (h : HP) (K : Int → HP → Prop) : Prop := tOK h ∧ (∀ (h' : HP) (r : Int), (∀ q, q ≠ 17 → h' q = h q) → ffR (h 16) (h 2 5) r → r ≠ -4 → K (-2) h') ∧ ∀ (h' : HP) (m : Nat), (∀ q, q ≠ 17 → q ≠ 18 → q ≠ 19 → q ≠ 2 → h' q = h q) → (∀ i : Int, i ≠ 6 → h' 2 i = h 2 i) → okT (h 16) (h 2 5) m → h' 2 6 = (m : Int) → frC (h 16) (h 2 5) m h' → K (m : Int) h'
theorem cph_ne {h : HP} {q0 q1 q : Nat} {a b n : Int} (hq : q ≠ q1) : cph h q0 q1 a b n q = h q := by unfold cph; rw [if_neg hq]
theorem cph_eq {h : HP} {q0 q1 : Nat} {a b n : Int} : cph h q0 q1 a b n q1 = fun j => if b ≤ j ∧ j < b + n then h q0 (a + (j - b)) else h q1 j := by unfold cph; rw [if_pos rfl]
set_option maxRecDepth 100000 in
set_option maxHeartbeats 4000000 in
theorem v_X5_putInForce (w : WD)  (h : HP) (K : Int → HP → Prop) 
    (I1 : Nat → Int → Int → HP → Prop)
    (H : (S_X5_firstFault  h (fun r21 h21 => ((r21 = (-4) → (∃ m : Nat, I1 m 0 0 (sth h21 2 6 0))) ∧ (¬ r21 = (-4) → K (-2) h21)))))
    (H1 : ∀ (n1 : Nat) (x1 : Int) (x2 : Int) (g1 : HP), I1 n1 x1 x2 g1 → ((((40 ≤ x2) ∨ ((x1 < 0) ∨ ((g1 2 5) ≤ x1))) → K (g1 2 6) g1) ∧ (¬ ((40 ≤ x2) ∨ ((x1 < 0) ∨ ((g1 2 5) ≤ x1))) → (S_X5_readItem x1 g1 (fun r22 h22 => ((0 ≤ x1 ∧ x1 < 200) ∧ ((0 ≤ x2 ∧ x2 < 40) ∧ ((iR (x2 * 5)) ∧ (((0 : Int) ≤ 0 ∧ (0 : Int) ≤ (x2 * 5) ∧ (0 : Int) ≤ 5 ∧ (0 : Int) + 5 ≤ 5 ∧ ((x2 * 5) : Int) + 5 ≤ 200) ∧ ((iR ((h22 2 6) + 1)) ∧ ((iR (x2 + 1)) ∧ (∃ m : Nat, m < n1 ∧ I1 m r22 (x2 + 1) (sth (cph (sth h22 18 x2 (h22 16 x1)) 17 19 0 (x2 * 5) 5) 2 6 ((h22 2 6) + 1)))))))))))))) :
    Ev w Y_X5_putInForce 0 [some (vR 2), none, none, none] [] h (rI K) := by
  have L1 : ∀ (n1 : Nat) (x1 : Int) (x2 : Int) (g1 : HP), I1 n1 x1 x2 g1 → Ev w Y_X5_putInForce 21 [some (vR 2), some (vI x1), some (vI x2), none] [] g1 (rI K) := by
    intro n1
    induction n1 using Nat.strongRecOn with
    | ind n1 ih1 =>
      intro x1 x2 g1 H
      have H := H1 n1 x1 x2 g1 H
      refine e_iload_n (pc := 21) dX5_putInForce_21 rfl rfl ?_
      refine e_bipush (pc := 22) dX5_putInForce_22 ⟨by decide, by decide⟩ (by decide) ?_
      have J1 : ((40 ≤ x2) ∨ ((x1 < 0) ∨ ((g1 2 5) ≤ x1))) → Ev w Y_X5_putInForce 91 [some (vR 2), some (vI x1), some (vI x2), none] [] g1 (rI K) := by
        intro hp
        have H := H.1 hp
        refine e_aload_n (pc := 91) dX5_putInForce_91 rfl rfl ?_
        refine e_getI (q := 2) (ci := 5) (k := 6) (kz := 6) (C := RX5) (T := TX5) (N := 7) (x := (g1 2 6)) (pc := 92) dX5_putInForce_92 rfl rfl rfl ev_in5 rfl ul_1_92 ⟨rfl, by decide⟩ rfl ?_
        exact e_ret (pc := 95) (v := some (vI (g1 2 6))) dX5_putInForce_95 rfl trivial ⟨_, rfl, H⟩
      have J2 : ¬ ((40 ≤ x2) ∨ ((x1 < 0) ∨ ((g1 2 5) ≤ x1))) → Ev w Y_X5_putInForce 39 [some (vR 2), some (vI x1), some (vI x2), none] [] g1 (rI K) := by
        intro hp
        have H := H.2 hp
        refine e_aload_n (pc := 39) dX5_putInForce_39 rfl rfl ?_
        refine e_iload_n (pc := 40) dX5_putInForce_40 rfl rfl ?_
        refine e_invV (pc := 41) (Y' := Y_X5_readItem) (as := [vI x1]) (st := []) (lv0 := [some (vR 2), some (vI x1), none, none, none, none, none]) (q := 2) (ci := 5) (T := TX5) (N := 7) dX5_putInForce_41 m_X5_readItem ul_2_207 ⟨ul_2_209, us_X5_readItem⟩ ⟨rfl, rfl⟩ rfl rfl rfl rfl rfl rfl rfl (c_X5_readItem w x1 g1 _ H) ?_
        rintro _ h22 ⟨r22, rfl, H⟩
        show Ev w Y_X5_putInForce 44 [some (vR 2), some (vI x1), some (vI x2), none] [vI r22] h22 (rI K)
        refine e_istore_n (lv' := [some (vR 2), some (vI x1), some (vI x2), some (vI r22)]) (pc := 44) dX5_putInForce_44 rfl rfl rfl ?_
        refine e_aload_n (pc := 45) dX5_putInForce_45 rfl rfl ?_
        refine e_getR (q := 2) (ci := 5) (k := 3) (y := 18) (C := RX5) (T := TX5) (N := 7) (pc := 46) dX5_putInForce_46 rfl rfl ev_in5 rfl ul_1_87 ⟨rfl, rfl⟩ rfl ?_
        refine e_iload_n (pc := 49) dX5_putInForce_49 rfl rfl ?_
        refine e_aload_n (pc := 50) dX5_putInForce_50 rfl rfl ?_
        refine e_getR (q := 2) (ci := 5) (k := 1) (y := 16) (C := RX5) (T := TX5) (N := 7) (pc := 51) dX5_putInForce_51 rfl rfl ev_in5 rfl ul_1_85 ⟨rfl, rfl⟩ rfl ?_
        refine e_iload_n (pc := 54) dX5_putInForce_54 rfl rfl ?_
        refine e_iald (q := 16) (x := (h22 16 x1)) (pc := 55) dX5_putInForce_55 rfl H.1 rfl ?_
        have H := H.2
        refine e_iast (q := 18) (pc := 56) dX5_putInForce_56 rfl H.1 ?_
        have H := H.2
        refine e_aload_n (pc := 57) dX5_putInForce_57 rfl rfl ?_
        refine e_getR (q := 2) (ci := 5) (k := 2) (y := 17) (C := RX5) (T := TX5) (N := 7) (pc := 58) dX5_putInForce_58 rfl rfl ev_in5 rfl ul_1_86 ⟨rfl, rfl⟩ rfl ?_
        refine e_iconst (pc := 61) dX5_putInForce_61 ⟨by decide, by decide⟩ ?_
        refine e_aload_n (pc := 62) dX5_putInForce_62 rfl rfl ?_
        refine e_getR (q := 2) (ci := 5) (k := 4) (y := 19) (C := RX5) (T := TX5) (N := 7) (pc := 63) dX5_putInForce_63 rfl rfl ev_in5 rfl ul_1_88 ⟨rfl, rfl⟩ rfl ?_
        refine e_iload_n (pc := 66) dX5_putInForce_66 rfl rfl ?_
        refine e_iconst (pc := 67) dX5_putInForce_67 ⟨by decide, by decide⟩ ?_
        refine e_imul (pc := 68) dX5_putInForce_68 H.1 ?_
        have H := H.2
        refine e_iconst (pc := 69) dX5_putInForce_69 ⟨by decide, by decide⟩ ?_
        refine e_copy (pc := 70) (q0 := 17) (q1 := 19) dX5_putInForce_70 ul_3_3 ul_3_4 rfl rfl H.1 (by decide) ?_
        have H := H.2
        refine e_aload_n (pc := 73) dX5_putInForce_73 rfl rfl ?_
        refine e_dup (pc := 74) dX5_putInForce_74 rfl ?_
        refine e_getI (q := 2) (ci := 5) (k := 6) (kz := 6) (C := RX5) (T := TX5) (N := 7) (x := (h22 2 6)) (pc := 75) dX5_putInForce_75 rfl rfl rfl ev_in5 rfl ul_1_92 ⟨rfl, by decide⟩ rfl ?_
        refine e_iconst (pc := 78) dX5_putInForce_78 ⟨by decide, by decide⟩ ?_
        refine e_iadd (pc := 79) dX5_putInForce_79 H.1 ?_
        have H := H.2
        refine e_put (q := 2) (ci := 5) (k := 6) (kz := 6) (C := RX5) (T := TX5) (N := 7) (ty := .int) (pc := 80) dX5_putInForce_80 rfl rfl rfl ev_in5 tyX5 tyX5_ok nmX5 rfl ul_1_92 ⟨rfl, by decide⟩ rfl (tyX5_ok 6 (by decide)) (Or.inl rfl) ?_
        refine e_iload_n (pc := 83) dX5_putInForce_83 rfl rfl ?_
        refine e_istore_n (lv' := [some (vR 2), some (vI r22), some (vI x2), some (vI r22)]) (pc := 84) dX5_putInForce_84 rfl rfl rfl ?_
        refine e_iinc (lv' := [some (vR 2), some (vI r22), some (vI (x2 + 1)), some (vI r22)]) (pc := 85) dX5_putInForce_85 rfl H.1 rfl rfl ?_
        have H := H.2
        refine e_goto (pc := 88) (tgt := 21) dX5_putInForce_88 (by decide) ?_
        refine e_mask [true, true, true, false] rfl ?_
        obtain ⟨m, hm, H⟩ := H
        exact ih1 m hm _ _ _ H
      refine e_icmp_ge (pc := 24) (tgt := 91) dX5_putInForce_24 (by decide) (fun c2 => ?_) (fun c2 => ?_)
      · exact J1 (Or.inl c2)
      · refine e_iload_n (pc := 27) dX5_putInForce_27 rfl rfl ?_
        refine e_if_lt (pc := 28) (tgt := 91) dX5_putInForce_28 (by decide) (fun c3 => ?_) (fun c3 => ?_)
        · exact J1 (Or.inr (Or.inl c3))
        · refine e_iload_n (pc := 31) dX5_putInForce_31 rfl rfl ?_
          refine e_aload_n (pc := 32) dX5_putInForce_32 rfl rfl ?_
          refine e_getI (q := 2) (ci := 5) (k := 5) (kz := 5) (C := RX5) (T := TX5) (N := 7) (x := (g1 2 5)) (pc := 33) dX5_putInForce_33 rfl rfl rfl ev_in5 rfl ul_1_89 ⟨rfl, by decide⟩ rfl ?_
          refine e_icmp_ge (pc := 36) (tgt := 91) dX5_putInForce_36 (by decide) (fun c4 => ?_) (fun c4 => ?_)
          · exact J1 (Or.inr (Or.inr c4))
          · exact J2 (fun z => z.elim c2 (fun z => z.elim c3 c4))
  refine e_aload_n (pc := 0) dX5_putInForce_0 rfl rfl ?_
  refine e_invV (pc := 1) (Y' := Y_X5_firstFault) (as := []) (st := []) (lv0 := [some (vR 2), none, none, none]) (q := 2) (ci := 5) (T := TX5) (N := 7) dX5_putInForce_1 m_X5_firstFault ul_3_2 ⟨ul_2_204, ul_2_205⟩ ⟨rfl, rfl⟩ rfl rfl rfl rfl rfl rfl rfl (c_X5_firstFault w h _ H) ?_
  rintro _ h21 ⟨r21, rfl, H⟩
  show Ev w Y_X5_putInForce 4 [some (vR 2), none, none, none] [vI r21] h21 (rI K)
  refine e_bipush (pc := 4) dX5_putInForce_4 ⟨by decide, by decide⟩ (by decide) ?_
  refine e_icmp_eq (pc := 6) (tgt := 12) dX5_putInForce_6 (by decide) (fun c1 => ?_) (fun c1 => ?_)
  · have H := H.1 c1
    refine e_aload_n (pc := 12) dX5_putInForce_12 rfl rfl ?_
    refine e_iconst (pc := 13) dX5_putInForce_13 ⟨by decide, by decide⟩ ?_
    refine e_put (q := 2) (ci := 5) (k := 6) (kz := 6) (C := RX5) (T := TX5) (N := 7) (ty := .int) (pc := 14) dX5_putInForce_14 rfl rfl rfl ev_in5 tyX5 tyX5_ok nmX5 rfl ul_1_92 ⟨rfl, by decide⟩ rfl (tyX5_ok 6 (by decide)) (Or.inl rfl) ?_
    refine e_iconst (pc := 17) dX5_putInForce_17 ⟨by decide, by decide⟩ ?_
    refine e_istore_n (lv' := [some (vR 2), some (vI 0), none, none]) (pc := 18) dX5_putInForce_18 rfl rfl rfl ?_
    refine e_iconst (pc := 19) dX5_putInForce_19 ⟨by decide, by decide⟩ ?_
    refine e_istore_n (lv' := [some (vR 2), some (vI 0), some (vI 0), none]) (pc := 20) dX5_putInForce_20 rfl rfl rfl ?_
    obtain ⟨m, H⟩ := H
    exact L1 m _ _ _ H
  · have H := H.2 c1
    refine e_bipush (pc := 9) dX5_putInForce_9 ⟨by decide, by decide⟩ (by decide) ?_
    exact e_ret (pc := 11) (v := some (vI (-2))) dX5_putInForce_11 rfl trivial ⟨_, rfl, H⟩
set_option maxRecDepth 100000 in
set_option maxHeartbeats 4000000 in
theorem c_X5_putInForce (w : WD)  (h : HP) (K : Int → HP → Prop)  (H : S_X5_putInForce  h K) : Ev w Y_X5_putInForce 0 [some (vR 2), none, none, none] [] h (rI K) := by
  obtain ⟨ht, HN, HK⟩ := H
  obtain ⟨t1, t2, t3⟩ := id ht
  refine v_X5_putInForce w h K (fun n x1 x2 g => ∃ k : Nat, x2 = (k : Int) ∧ x1 = ps (h 16) (h 2 5) k ∧ n = 40 - k ∧ (∀ q, q ≠ 17 → q ≠ 18 → q ≠ 19 → q ≠ 2 → g q = h q) ∧ (∀ i : Int, i ≠ 6 → g 2 i = h 2 i) ∧ g 2 6 = (k : Int) ∧ frC (h 16) (h 2 5) k g ∧ (∀ i : Nat, i < k → ps (h 16) (h 2 5) i < h 2 5 ∧ iv (h 16) (h 2 5) (ps (h 16) (h 2 5) i)) ∧ ∃ m : Nat, okT (h 16) (h 2 5) m ∧ k ≤ m) ⟨ht, fun r h1 hf hr => ⟨fun c => ⟨40, 0, rfl, rfl, rfl, fun q a b d e => by rw [sth_ne e]; exact hf q a, fun i hi => by rw [sth_eq, us_n hi, hf 2 (by decide)], by rw [sth_eq, us_s]; rfl, fun k z => by omega, fun i z => by omega, ?_⟩, fun c => HN h1 r hf hr c⟩⟩ ?_
  · obtain ⟨m, a, b⟩ := hr
    rcases b with b | b
    · have := ps_ge m (fun i z => (a i z).2)
      omega
    · exact ⟨m, ⟨a, b.1⟩, by omega⟩
  · rintro n x1 x2 g ⟨k, rfl, rfl, rfl, hg, hg2, hg6, hfr, hi, m, hm, hkm⟩
    have h5 := ps_ge k (fun i z => (hi i z).2)
    have g16 : g 16 = h 16 := hg 16 (by decide) (by decide) (by decide) (by decide)
    have g25 : g 2 5 = h 2 5 := hg2 5 (by decide)
    have htg : tOK g := by unfold tOK; rw [g25, g16]; exact ht
    rw [g25, hg6]
    refine ⟨fun c => HK g k hg hg2 ⟨hi, by omega⟩ hg6 hfr, fun c => ⟨⟨htg, by omega, by rw [g25]; omega⟩, fun r h' hf hr => ?_⟩⟩
    rw [g25, g16] at hr
    have hlt : k < m := by
      rcases Nat.lt_or_ge k m with z | z
      · exact z
      · have e : k = m := by omega
        subst e
        have := hm.2
        omega
    have hiv := (hm.1 k hlt).2
    obtain ⟨a, b, d⟩ := hr.resolve_right (fun z => z.1 hiv)
    have f16 : h' 16 = h 16 := (hf 16 (by decide)).trans g16
    have f26 : h' 2 6 = (k : Int) := by rw [hf 2 (by decide)]; exact hg6
    rw [f26, f16]
    refine ⟨by omega, by omega, ⟨by omega, by omega⟩, by omega, ⟨by omega, by omega⟩, ⟨by omega, by omega⟩, 40 - (k + 1), by omega, k + 1, by omega, ?_, rfl, fun q z1 z2 z3 z4 => ?_, fun i z => ?_, ?_, fun i z => ?_, fun i z => ?_, m, hm, by omega⟩
    · rw [b]; rfl
    · rw [sth_ne z4, cph_ne z3, sth_ne z2, hf q z1]; exact hg q z1 z2 z3 z4
    · rw [sth_eq, us_n z, cph_ne (by decide), sth_ne (by decide), hf 2 (by decide)]; exact hg2 i z
    · rw [sth_eq, us_s]; omega
    · rw [sth_ne (by decide), sth_ne (by decide), cph_ne (by decide), cph_eq, sth_eq, sth_ne (by decide), sth_ne (by decide)]
      by_cases e : i = k
      · subst e
        refine ⟨us_s, fun j hj => ?_⟩
        have := nW_b (h 16 (ps (h 16) (h 2 5) i))
        show (if _ then _ else _) = _
        rw [if_pos (by omega)]
        have := d j hj
        rw [← this]
        congr 1
        omega
      · have hik := hfr i (by omega)
        refine ⟨by rw [us_n (by omega), hf 18 (by decide)]; exact hik.1, fun j hj => ?_⟩
        have := nW_b (h 16 (ps (h 16) (h 2 5) i))
        show (if _ then _ else _) = _
        rw [if_neg (by omega), hf 19 (by decide)]
        exact hik.2 j hj
    · by_cases e : i = k
      · subst e; exact ⟨by omega, hiv⟩
      · exact hi i (by omega)
noncomputable def byt (v k : Int) : Int := iand (j2i (jushr v (8 * k))) 255
theorem byt_b (v k : Int) : 0 ≤ byt v k ∧ byt v k ≤ 255 := by
  unfold byt
  have e : ∀ x : Int32, 0 ≤ (x &&& 255).toInt ∧ (x &&& 255).toInt ≤ 255 := by
    intro x
    obtain ⟨j, hj, e⟩ := pk_andE x (m := 255) 8 (by decide)
    rw [e, nI_toInt (by omega)]
    omega
  unfold iand
  exact e _
def S_X5_append (n v : Int) (h : HP) (K : Int → HP → Prop) : Prop := (tOK h ∧ 1 ≤ n ∧ n ≤ 8) ∧ (200 < h 2 5 + n → K (-3) h) ∧ (h 2 5 + n ≤ 200 → ∀ h' : HP, (∀ q, q ≠ 16 → q ≠ 2 → h' q = h q) → (∀ i : Int, i ≠ 5 → h' 2 i = h 2 i) → h' 2 5 = h 2 5 + n → (h' 16 = fun j => if h 2 5 ≤ j ∧ j < h 2 5 + n then byt v (h 2 5 + n - 1 - j) else h 16 j) → K (h 2 5 + n) h')
set_option maxRecDepth 100000 in
set_option maxHeartbeats 4000000 in
theorem v_X5_append (w : WD) (n : Int) (v : Int) (h : HP) (K : Int → HP → Prop) 
    (I1 : Nat → Int → HP → Prop)
    (H : ((iR ((h 2 5) + n)) ∧ ((((h 2 5) + n) ≤ 200 → ((iR (n - 1)) ∧ (∃ m : Nat, I1 m (n - 1) h))) ∧ (¬ ((h 2 5) + n) ≤ 200 → K (-3) h))))
    (H1 : ∀ (n1 : Nat) (x4 : Int) (g1 : HP), I1 n1 x4 g1 → ((x4 < 0 → K (g1 2 5) g1) ∧ (¬ x4 < 0 → ((iR (8 * x4)) ∧ ((0 ≤ (g1 2 5) ∧ (g1 2 5) < 200) ∧ ((iR ((g1 2 5) + 1)) ∧ ((iR (x4 + (-1))) ∧ (∃ m : Nat, m < n1 ∧ I1 m (x4 + (-1)) (sth (sth g1 16 (g1 2 5) (iand (j2i (jushr v (8 * x4))) 255)) 2 5 ((g1 2 5) + 1)))))))))) :
    Ev w Y_X5_append 0 [some (vR 2), some (vI n), some (vL v), none, none] [] h (rI K) := by
  have L1 : ∀ (n1 : Nat) (x4 : Int) (g1 : HP), I1 n1 x4 g1 → Ev w Y_X5_append 20 [some (vR 2), none, some (vL v), none, some (vI x4)] [] g1 (rI K) := by
    intro n1
    induction n1 using Nat.strongRecOn with
    | ind n1 ih1 =>
      intro x4 g1 H
      have H := H1 n1 x4 g1 H
      refine e_iload (pc := 20) dX5_append_20 rfl ?_
      refine e_if_lt (pc := 22) (tgt := 62) dX5_append_22 (by decide) (fun c2 => ?_) (fun c2 => ?_)
      · have H := H.1 c2
        refine e_aload_n (pc := 62) dX5_append_62 rfl rfl ?_
        refine e_getI (q := 2) (ci := 5) (k := 5) (kz := 5) (C := RX5) (T := TX5) (N := 7) (x := (g1 2 5)) (pc := 63) dX5_append_63 rfl rfl rfl ev_in5 rfl ul_1_89 ⟨rfl, by decide⟩ rfl ?_
        exact e_ret (pc := 66) (v := some (vI (g1 2 5))) dX5_append_66 rfl trivial ⟨_, rfl, H⟩
      · have H := H.2 c2
        refine e_aload_n (pc := 25) dX5_append_25 rfl rfl ?_
        refine e_getR (q := 2) (ci := 5) (k := 1) (y := 16) (C := RX5) (T := TX5) (N := 7) (pc := 26) dX5_append_26 rfl rfl ev_in5 rfl ul_1_85 ⟨rfl, rfl⟩ rfl ?_
        refine e_aload_n (pc := 29) dX5_append_29 rfl rfl ?_
        refine e_getI (q := 2) (ci := 5) (k := 5) (kz := 5) (C := RX5) (T := TX5) (N := 7) (x := (g1 2 5)) (pc := 30) dX5_append_30 rfl rfl rfl ev_in5 rfl ul_1_89 ⟨rfl, by decide⟩ rfl ?_
        refine e_lload_n (pc := 33) dX5_append_33 rfl rfl ?_
        refine e_bipush (pc := 34) dX5_append_34 ⟨by decide, by decide⟩ (by decide) ?_
        refine e_iload (pc := 36) dX5_append_36 rfl ?_
        refine e_imul (pc := 38) dX5_append_38 H.1 ?_
        have H := H.2
        refine e_lushr (pc := 39) dX5_append_39 ?_
        refine e_l2i (pc := 40) dX5_append_40 ?_
        refine e_sipush (pc := 41) dX5_append_41 ⟨by decide, by decide⟩ (by decide) ?_
        refine e_iand (pc := 44) dX5_append_44 ?_
        refine e_iast (q := 16) (pc := 45) dX5_append_45 rfl H.1 ?_
        have H := H.2
        refine e_aload_n (pc := 46) dX5_append_46 rfl rfl ?_
        refine e_dup (pc := 47) dX5_append_47 rfl ?_
        refine e_getI (q := 2) (ci := 5) (k := 5) (kz := 5) (C := RX5) (T := TX5) (N := 7) (x := (g1 2 5)) (pc := 48) dX5_append_48 rfl rfl rfl ev_in5 rfl ul_1_89 ⟨rfl, by decide⟩ rfl ?_
        refine e_iconst (pc := 51) dX5_append_51 ⟨by decide, by decide⟩ ?_
        refine e_iadd (pc := 52) dX5_append_52 H.1 ?_
        have H := H.2
        refine e_put (q := 2) (ci := 5) (k := 5) (kz := 5) (C := RX5) (T := TX5) (N := 7) (ty := .int) (pc := 53) dX5_append_53 rfl rfl rfl ev_in5 tyX5 tyX5_ok nmX5 rfl ul_1_89 ⟨rfl, by decide⟩ rfl (tyX5_ok 5 (by decide)) (Or.inl rfl) ?_
        refine e_iinc (lv' := [some (vR 2), none, some (vL v), none, some (vI (x4 + (-1)))]) (pc := 56) dX5_append_56 rfl H.1 rfl rfl ?_
        have H := H.2
        refine e_goto (pc := 59) (tgt := 20) dX5_append_59 (by decide) ?_
        obtain ⟨m, hm, H⟩ := H
        exact ih1 m hm _ _ H
  refine e_aload_n (pc := 0) dX5_append_0 rfl rfl ?_
  refine e_getI (q := 2) (ci := 5) (k := 5) (kz := 5) (C := RX5) (T := TX5) (N := 7) (x := (h 2 5)) (pc := 1) dX5_append_1 rfl rfl rfl ev_in5 rfl ul_1_89 ⟨rfl, by decide⟩ rfl ?_
  refine e_iload_n (pc := 4) dX5_append_4 rfl rfl ?_
  refine e_iadd (pc := 5) dX5_append_5 H.1 ?_
  have H := H.2
  refine e_sipush (pc := 6) dX5_append_6 ⟨by decide, by decide⟩ (by decide) ?_
  refine e_icmp_le (pc := 9) (tgt := 15) dX5_append_9 (by decide) (fun c1 => ?_) (fun c1 => ?_)
  · have H := H.1 c1
    refine e_iload_n (pc := 15) dX5_append_15 rfl rfl ?_
    refine e_iconst (pc := 16) dX5_append_16 ⟨by decide, by decide⟩ ?_
    refine e_isub (pc := 17) dX5_append_17 H.1 ?_
    have H := H.2
    refine e_istore (lv' := [some (vR 2), some (vI n), some (vL v), none, some (vI (n - 1))]) (pc := 18) dX5_append_18 rfl rfl ?_
    refine e_mask [true, false, true, false, true] rfl ?_
    obtain ⟨m, H⟩ := H
    exact L1 m _ _ H
  · have H := H.2 c1
    refine e_bipush (pc := 12) dX5_append_12 ⟨by decide, by decide⟩ (by decide) ?_
    exact e_ret (pc := 14) (v := some (vI (-3))) dX5_append_14 rfl trivial ⟨_, rfl, H⟩
set_option maxRecDepth 100000 in
set_option maxHeartbeats 4000000 in
theorem c_X5_append (w : WD) (n : Int) (v : Int) (h : HP) (K : Int → HP → Prop)  (H : S_X5_append n v h K) : Ev w Y_X5_append 0 [some (vR 2), some (vI n), some (vL v), none, none] [] h (rI K) := by
  obtain ⟨⟨ht, hn1, hn8⟩, HF, HK⟩ := H
  obtain ⟨t1, t2, t3⟩ := id ht
  refine v_X5_append w n v h K (fun m x4 g => (-1 ≤ x4 ∧ x4 < n) ∧ m = (x4 + 1).toNat ∧ h 2 5 + n ≤ 200 ∧ (∀ q, q ≠ 16 → q ≠ 2 → g q = h q) ∧ (∀ i : Int, i ≠ 5 → g 2 i = h 2 i) ∧ g 2 5 = h 2 5 + n - 1 - x4 ∧ (g 16 = fun j => if h 2 5 ≤ j ∧ j < h 2 5 + n - 1 - x4 then byt v (h 2 5 + n - 1 - j) else h 16 j)) ⟨⟨by omega, by omega⟩, fun c => ⟨⟨by omega, by omega⟩, n.toNat, by omega, by omega, c, fun _ _ _ => rfl, fun _ _ => rfl, by omega, ?_⟩, fun c => HF (by omega)⟩ ?_
  · funext j
    rw [if_neg (by omega)]
  · rintro m x4 g ⟨h0, rfl, hc, hg, hg2, hg5, hgt⟩
    refine ⟨fun c => ?_, fun c => ?_⟩
    · have e : x4 = -1 := by omega
      subst e
      rw [hg5, show h 2 5 + n - 1 - -1 = h 2 5 + n by omega]
      refine HK hc g hg hg2 (by rw [hg5]; omega) ?_
      rw [hgt]
      funext j
      rw [show h 2 5 + n - 1 - -1 = h 2 5 + n by omega]
    · rw [hg5]
      refine ⟨⟨by omega, by omega⟩, by omega, ⟨by omega, by omega⟩, ⟨by omega, by omega⟩, (x4 + -1 + 1).toNat, by omega, by omega, rfl, hc, fun q z1 z2 => by rw [sth_ne z2, sth_ne z1]; exact hg q z1 z2, fun i z => by rw [sth_eq, us_n z, sth_ne (by decide)]; exact hg2 i z, by rw [sth_eq, us_s]; omega, ?_⟩
      rw [sth_ne (by decide), sth_eq, hgt]
      funext j
      unfold us
      by_cases e : j = h 2 5 + n - 1 - x4
      · rw [if_pos e, if_pos (by omega), show h 2 5 + n - 1 - j = x4 by omega]
        rfl
      · rw [if_neg e]
        show (if h 2 5 ≤ j ∧ j < h 2 5 + n - 1 - x4 then byt v (h 2 5 + n - 1 - j) else h 16 j) = _
        by_cases e2 : h 2 5 ≤ j ∧ j < h 2 5 + n - 1 - x4
        · rw [if_pos e2, if_pos (by omega)]
        · rw [if_neg e2, if_neg (by omega)]
def S_X5_clearText  (h : HP) (K : Int → HP → Prop) : Prop :=
  K (h 2 5) (sth h 2 5 0)
set_option maxRecDepth 100000 in
set_option maxHeartbeats 4000000 in
theorem v_X5_clearText (w : WD)  (h : HP) (K : Int → HP → Prop) 
    (H : K (h 2 5) (sth h 2 5 0)) :
    Ev w Y_X5_clearText 0 [some (vR 2), none] [] h (rI K) := by
  refine e_aload_n (pc := 0) dX5_clearText_0 rfl rfl ?_
  refine e_getI (q := 2) (ci := 5) (k := 5) (kz := 5) (C := RX5) (T := TX5) (N := 7) (x := (h 2 5)) (pc := 1) dX5_clearText_1 rfl rfl rfl ev_in5 rfl ul_1_89 ⟨rfl, by decide⟩ rfl ?_
  refine e_istore_n (lv' := [some (vR 2), some (vI (h 2 5))]) (pc := 4) dX5_clearText_4 rfl rfl rfl ?_
  refine e_aload_n (pc := 5) dX5_clearText_5 rfl rfl ?_
  refine e_iconst (pc := 6) dX5_clearText_6 ⟨by decide, by decide⟩ ?_
  refine e_put (q := 2) (ci := 5) (k := 5) (kz := 5) (C := RX5) (T := TX5) (N := 7) (ty := .int) (pc := 7) dX5_clearText_7 rfl rfl rfl ev_in5 tyX5 tyX5_ok nmX5 rfl ul_1_89 ⟨rfl, by decide⟩ rfl (tyX5_ok 5 (by decide)) (Or.inl rfl) ?_
  refine e_iload_n (pc := 10) dX5_clearText_10 rfl rfl ?_
  exact e_ret (pc := 11) (v := some (vI (h 2 5))) dX5_clearText_11 rfl trivial ⟨_, rfl, H⟩
theorem c_X5_clearText (w : WD)  (h : HP) (K : Int → HP → Prop)  (H : S_X5_clearText  h K) : Ev w Y_X5_clearText 0 [some (vR 2), none] [] h (rI K) := v_X5_clearText w  h K  H
