/-! all readings of what is heard -/
theorem frO_q {h g : HP} (hf : frO h g) (q : Nat) (hq : q ∉ [26, 27, 28, 29, 4, 32, 33, 34, 35]) : g q = h q :=
  hf.1 q (fun e => hq (by subst e; decide)) (fun e => hq (by subst e; decide)) (fun e => hq (by subst e; decide)) (fun e => hq (by subst e; decide)) (fun e => hq (by subst e; decide)) (fun e => hq (by subst e; decide)) (fun e => hq (by subst e; decide)) (fun e => hq (by subst e; decide)) (fun e => hq (by subst e; decide))
theorem frO_t {h g k : HP} (h1 : frO h g) (h2 : frO g k) : frO h k :=
  ⟨fun q a1 a2 a3 a4 a5 a6 a7 a8 a9 => by rw [h2.1 q a1 a2 a3 a4 a5 a6 a7 a8 a9]; exact h1.1 q a1 a2 a3 a4 a5 a6 a7 a8 a9, fun i z => by rw [h2.2 i z]; exact h1.2 i z⟩
theorem frO_V {h g : HP} (hf : frO h g) (hV : VOK h) : VOK g :=
  VOK_c (by rw [frO_q hf 3 (by decide)]) (frO_q hf 20 (by decide)) (frO_q hf 21 (by decide)) (frO_q hf 22 (by decide)) (frO_q hf 23 (by decide)) (frO_q hf 24 (by decide)) hV
theorem frO_H {h g : HP} (hf : frO h g) (hV : HRD h) : HRD g := HRD_c (by rw [frO_q hf 3 (by decide)]) (frO_q hf 25 (by decide)) hV
theorem frO_p {h g : HP} (hf : frO h g) : prC g = prC h := by
  funext a b c
  unfold prC
  rw [frO_q hf 3 (by decide), frO_q hf 22 (by decide), frO_q hf 23 (by decide), frO_q hf 24 (by decide), frO_q hf 25 (by decide)]
theorem frO_1 {h g : HP} (q : Nat) (hq : q = 32 ∨ q = 33 ∨ q = 34 ∨ q = 35) (hf : ∀ q', q' ≠ q → g q' = h q') : frO h g :=
  ⟨fun q' a1 a2 a3 a4 a5 a6 a7 a8 a9 => hf q' (by omega), fun i _ => by rw [hf 4 (by omega)]⟩
theorem frO_5 {h g : HP} (h1 : ∀ q, q ≠ 26 → q ≠ 27 → q ≠ 28 → q ≠ 29 → q ≠ 4 → g q = h q) (h2 : ∀ i : Int, i ≠ 15 → g 4 i = h 4 i) : frO h g :=
  ⟨fun q a1 a2 a3 a4 a5 _ _ _ _ => h1 q a1 a2 a3 a4 a5, h2⟩
def S_X3_offerWithVerb (a lim : Int) (h : HP) (K : HP → Prop) : Prop := ∃ R : RD, (VOK h ∧ HRD h ∧ rpC h R ∧ (0 ≤ a ∧ a < h 3 6) ∧ ∀ j : Nat, (j : Int) ≤ h 3 7 → h 33 (j : Int) = rwW (h 24) (h 25) (h 22) (h 23) a row0 j) ∧ ∀ h' : HP, frO h h' → h' 32 = h 32 → rpC h' (rl2 (h 20) (prC h) lim a (h 3 6).toNat (h 3 6).toNat R) → K h'
set_option maxRecDepth 100000 in
set_option maxHeartbeats 4000000 in
theorem v_X3_offerWithVerb (w : WD) (a : Int) (lim : Int) (h : HP) (K : HP → Prop) 
    (I1 : Nat → Int → Int → HP → Prop)
    (H : (∃ m : Nat, I1 m (h 3 7) 0 h))
    (H1 : ∀ (n1 : Nat) (x3 : Int) (x4 : Int) (g1 : HP), I1 n1 x3 x4 g1 → (((g1 3 6) ≤ x4 → K g1) ∧ (¬ (g1 3 6) ≤ x4 → ((0 ≤ x4 ∧ x4 < 16) ∧ (((((g1 20 x4) = 1) ∨ ((g1 20 x4) = 3)) → (S_X7_priceWithWord 33 34 x4 g1 (fun h21 => ((0 ≤ x3 ∧ x3 < 9) ∧ ((lim < (h21 34 x3) → ((¬ (g1 20 x4) = 1 → ((iR (x4 + 1)) ∧ (∃ m : Nat, m < n1 ∧ I1 m x3 (x4 + 1) h21))) ∧ ((g1 20 x4) = 1 → (S_X3_offerWithSort a x4 lim h21 (fun h22 => ((iR (x4 + 1)) ∧ (∃ m : Nat, m < n1 ∧ I1 m x3 (x4 + 1) h22))))))) ∧ (¬ lim < (h21 34 x3) → ((0 ≤ x3 ∧ x3 < 9) ∧ (S_X3_offer (h21 34 x3) a x4 (-1) h21 (fun h23 => ((¬ (g1 20 x4) = 1 → ((iR (x4 + 1)) ∧ (∃ m : Nat, m < n1 ∧ I1 m x3 (x4 + 1) h23))) ∧ ((g1 20 x4) = 1 → (S_X3_offerWithSort a x4 lim h23 (fun h24 => ((iR (x4 + 1)) ∧ (∃ m : Nat, m < n1 ∧ I1 m x3 (x4 + 1) h24))))))))))))))) ∧ (¬ (((g1 20 x4) = 1) ∨ ((g1 20 x4) = 3)) → ((¬ (g1 20 x4) = 1 → ((iR (x4 + 1)) ∧ (∃ m : Nat, m < n1 ∧ I1 m x3 (x4 + 1) g1))) ∧ ((g1 20 x4) = 1 → (S_X3_offerWithSort a x4 lim g1 (fun h25 => ((iR (x4 + 1)) ∧ (∃ m : Nat, m < n1 ∧ I1 m x3 (x4 + 1) h25)))))))))))) :
    Ev w Y_X3_offerWithVerb 0 [some (vR 4), some (vI a), some (vI lim), none, none, none] [] h (rV K) := by
  have L1 : ∀ (n1 : Nat) (x3 : Int) (x4 : Int) (g1 : HP), I1 n1 x3 x4 g1 → Ev w Y_X3_offerWithVerb 11 [some (vR 4), some (vI a), some (vI lim), some (vI x3), some (vI x4), none] [] g1 (rV K) := by
    intro n1
    induction n1 using Nat.strongRecOn with
    | ind n1 ih1 =>
      intro x3 x4 g1 H
      have H := H1 n1 x3 x4 g1 H
      refine e_iload (pc := 11) dX3_offerWithVerb_11 rfl ?_
      refine e_aload_n (pc := 13) dX3_offerWithVerb_13 rfl rfl ?_
      refine e_getR (q := 4) (ci := 3) (k := 1) (y := 3) (C := RX3) (T := TX3) (N := 16) (pc := 14) dX3_offerWithVerb_14 rfl rfl ev_in3 rfl ul_1_152 ⟨rfl, rfl⟩ rfl ?_
      refine e_getI (q := 3) (ci := 7) (k := 6) (kz := 6) (C := RX7) (T := TX7) (N := 8) (x := (g1 3 6)) (pc := 17) dX3_offerWithVerb_17 rfl rfl rfl ev_in7 rfl ul_1_124 ⟨rfl, by decide⟩ rfl ?_
      refine e_icmp_ge (pc := 20) (tgt := 108) dX3_offerWithVerb_20 (by decide) (fun c1 => ?_) (fun c1 => ?_)
      · have H := H.1 c1
        exact e_ret (pc := 108) (v := none) dX3_offerWithVerb_108 rfl trivial ⟨rfl, H⟩
      · have H := H.2 c1
        refine e_aload_n (pc := 23) dX3_offerWithVerb_23 rfl rfl ?_
        refine e_getR (q := 4) (ci := 3) (k := 1) (y := 3) (C := RX3) (T := TX3) (N := 16) (pc := 24) dX3_offerWithVerb_24 rfl rfl ev_in3 rfl ul_1_152 ⟨rfl, rfl⟩ rfl ?_
        refine e_getR (q := 3) (ci := 7) (k := 0) (y := 20) (C := RX7) (T := TX7) (N := 8) (pc := 27) dX3_offerWithVerb_27 rfl rfl ev_in7 rfl ul_1_117 ⟨rfl, rfl⟩ rfl ?_
        refine e_iload (pc := 30) dX3_offerWithVerb_30 rfl ?_
        refine e_iald (q := 20) (x := (g1 20 x4)) (pc := 32) dX3_offerWithVerb_32 rfl H.1 rfl ?_
        have H := H.2
        refine e_istore (lv' := [some (vR 4), some (vI a), some (vI lim), some (vI x3), some (vI x4), some (vI (g1 20 x4))]) (pc := 33) dX3_offerWithVerb_33 rfl rfl ?_
        refine e_iload (pc := 35) dX3_offerWithVerb_35 rfl ?_
        refine e_iconst (pc := 37) dX3_offerWithVerb_37 ⟨by decide, by decide⟩ ?_
        have J1 : (((g1 20 x4) = 1) ∨ ((g1 20 x4) = 3)) → Ev w Y_X3_offerWithVerb 47 [some (vR 4), some (vI a), some (vI lim), some (vI x3), some (vI x4), some (vI (g1 20 x4))] [] g1 (rV K) := by
          intro hp
          have H := H.1 hp
          refine e_aload_n (pc := 47) dX3_offerWithVerb_47 rfl rfl ?_
          refine e_getR (q := 4) (ci := 3) (k := 1) (y := 3) (C := RX3) (T := TX3) (N := 16) (pc := 48) dX3_offerWithVerb_48 rfl rfl ev_in3 rfl ul_1_152 ⟨rfl, rfl⟩ rfl ?_
          refine e_aload_n (pc := 51) dX3_offerWithVerb_51 rfl rfl ?_
          refine e_getR (q := 4) (ci := 3) (k := 9) (y := 33) (C := RX3) (T := TX3) (N := 16) (pc := 52) dX3_offerWithVerb_52 rfl rfl ev_in3 rfl ul_1_162 ⟨rfl, rfl⟩ rfl ?_
          refine e_aload_n (pc := 55) dX3_offerWithVerb_55 rfl rfl ?_
          refine e_getR (q := 4) (ci := 3) (k := 10) (y := 34) (C := RX3) (T := TX3) (N := 16) (pc := 56) dX3_offerWithVerb_56 rfl rfl ev_in3 rfl ul_1_163 ⟨rfl, rfl⟩ rfl ?_
          refine e_iload (pc := 59) dX3_offerWithVerb_59 rfl ?_
          refine e_invV (pc := 61) (Y' := Y_X7_priceWithWord) (as := [vR 33, vR 34, vI x4]) (st := []) (lv0 := [some (vR 3), some (vR 33), some (vR 34), some (vI x4), none]) (q := 3) (ci := 7) (T := TX7) (N := 8) dX3_offerWithVerb_61 m_X7_priceWithWord ul_3_57 ⟨ul_3_58, ul_3_59⟩ ⟨rfl, rfl⟩ rfl rfl rfl rfl rfl rfl rfl (c_X7_priceWithWord w 33 34 x4 g1 _ rfl rfl H) ?_
          rintro _ h21 ⟨rfl, H⟩
          show Ev w Y_X3_offerWithVerb 64 [some (vR 4), some (vI a), some (vI lim), some (vI x3), some (vI x4), some (vI (g1 20 x4))] [] h21 (rV K)
          refine e_aload_n (pc := 64) dX3_offerWithVerb_64 rfl rfl ?_
          refine e_getR (q := 4) (ci := 3) (k := 10) (y := 34) (C := RX3) (T := TX3) (N := 16) (pc := 65) dX3_offerWithVerb_65 rfl rfl ev_in3 rfl ul_1_163 ⟨rfl, rfl⟩ rfl ?_
          refine e_iload_n (pc := 68) dX3_offerWithVerb_68 rfl rfl ?_
          refine e_iald (q := 34) (x := (h21 34 x3)) (pc := 69) dX3_offerWithVerb_69 rfl H.1 rfl ?_
          have H := H.2
          refine e_iload_n (pc := 70) dX3_offerWithVerb_70 rfl rfl ?_
          refine e_icmp_gt (pc := 71) (tgt := 88) dX3_offerWithVerb_71 (by decide) (fun c2 => ?_) (fun c2 => ?_)
          · have H := H.1 c2
            refine e_iload (pc := 88) dX3_offerWithVerb_88 rfl ?_
            refine e_iconst (pc := 90) dX3_offerWithVerb_90 ⟨by decide, by decide⟩ ?_
            refine e_icmp_ne (pc := 91) (tgt := 102) dX3_offerWithVerb_91 (by decide) (fun c3 => ?_) (fun c3 => ?_)
            · have H := H.1 c3
              refine e_iinc (lv' := [some (vR 4), some (vI a), some (vI lim), some (vI x3), some (vI (x4 + 1)), some (vI (g1 20 x4))]) (pc := 102) dX3_offerWithVerb_102 rfl H.1 rfl rfl ?_
              have H := H.2
              refine e_goto (pc := 105) (tgt := 11) dX3_offerWithVerb_105 (by decide) ?_
              refine e_mask [true, true, true, true, true, false] rfl ?_
              obtain ⟨m, hm, H⟩ := H
              exact ih1 m hm _ _ _ H
            · have H := H.2 c3
              refine e_aload_n (pc := 94) dX3_offerWithVerb_94 rfl rfl ?_
              refine e_iload_n (pc := 95) dX3_offerWithVerb_95 rfl rfl ?_
              refine e_iload (pc := 96) dX3_offerWithVerb_96 rfl ?_
              refine e_iload_n (pc := 98) dX3_offerWithVerb_98 rfl rfl ?_
              refine e_invV (pc := 99) (Y' := Y_X3_offerWithSort) (as := [vI a, vI x4, vI lim]) (st := []) (lv0 := [some (vR 4), some (vI a), some (vI x4), some (vI lim), none, none]) (q := 4) (ci := 3) (T := TX3) (N := 16) dX3_offerWithVerb_99 m_X3_offerWithSort ul_3_77 ⟨ul_3_79, us_X3_offerWithSort⟩ ⟨rfl, rfl⟩ rfl rfl rfl rfl rfl rfl rfl (c_X3_offerWithSort w a x4 lim h21 _ H) ?_
              rintro _ h22 ⟨rfl, H⟩
              show Ev w Y_X3_offerWithVerb 102 [some (vR 4), some (vI a), some (vI lim), some (vI x3), some (vI x4), some (vI (g1 20 x4))] [] h22 (rV K)
              refine e_iinc (lv' := [some (vR 4), some (vI a), some (vI lim), some (vI x3), some (vI (x4 + 1)), some (vI (g1 20 x4))]) (pc := 102) dX3_offerWithVerb_102 rfl H.1 rfl rfl ?_
              have H := H.2
              refine e_goto (pc := 105) (tgt := 11) dX3_offerWithVerb_105 (by decide) ?_
              refine e_mask [true, true, true, true, true, false] rfl ?_
              obtain ⟨m, hm, H⟩ := H
              exact ih1 m hm _ _ _ H
          · have H := H.2 c2
            refine e_aload_n (pc := 74) dX3_offerWithVerb_74 rfl rfl ?_
            refine e_aload_n (pc := 75) dX3_offerWithVerb_75 rfl rfl ?_
            refine e_getR (q := 4) (ci := 3) (k := 10) (y := 34) (C := RX3) (T := TX3) (N := 16) (pc := 76) dX3_offerWithVerb_76 rfl rfl ev_in3 rfl ul_1_163 ⟨rfl, rfl⟩ rfl ?_
            refine e_iload_n (pc := 79) dX3_offerWithVerb_79 rfl rfl ?_
            refine e_iald (q := 34) (x := (h21 34 x3)) (pc := 80) dX3_offerWithVerb_80 rfl H.1 rfl ?_
            have H := H.2
            refine e_iload_n (pc := 81) dX3_offerWithVerb_81 rfl rfl ?_
            refine e_iload (pc := 82) dX3_offerWithVerb_82 rfl ?_
            refine e_iconst (pc := 84) dX3_offerWithVerb_84 ⟨by decide, by decide⟩ ?_
            refine e_invV (pc := 85) (Y' := Y_X3_offer) (as := [vI (h21 34 x3), vI a, vI x4, vI (-1)]) (st := []) (lv0 := [some (vR 4), some (vI (h21 34 x3)), some (vI a), some (vI x4), some (vI (-1)), none, none]) (q := 4) (ci := 3) (T := TX3) (N := 16) dX3_offerWithVerb_85 m_X3_offer ul_3_73 ⟨ul_3_75, us_X3_offer⟩ ⟨rfl, rfl⟩ rfl rfl rfl rfl rfl rfl rfl (c_X3_offer w (h21 34 x3) a x4 (-1) h21 _ H) ?_
            rintro _ h23 ⟨rfl, H⟩
            show Ev w Y_X3_offerWithVerb 88 [some (vR 4), some (vI a), some (vI lim), some (vI x3), some (vI x4), some (vI (g1 20 x4))] [] h23 (rV K)
            refine e_iload (pc := 88) dX3_offerWithVerb_88 rfl ?_
            refine e_iconst (pc := 90) dX3_offerWithVerb_90 ⟨by decide, by decide⟩ ?_
            refine e_icmp_ne (pc := 91) (tgt := 102) dX3_offerWithVerb_91 (by decide) (fun c4 => ?_) (fun c4 => ?_)
            · have H := H.1 c4
              refine e_iinc (lv' := [some (vR 4), some (vI a), some (vI lim), some (vI x3), some (vI (x4 + 1)), some (vI (g1 20 x4))]) (pc := 102) dX3_offerWithVerb_102 rfl H.1 rfl rfl ?_
              have H := H.2
              refine e_goto (pc := 105) (tgt := 11) dX3_offerWithVerb_105 (by decide) ?_
              refine e_mask [true, true, true, true, true, false] rfl ?_
              obtain ⟨m, hm, H⟩ := H
              exact ih1 m hm _ _ _ H
            · have H := H.2 c4
              refine e_aload_n (pc := 94) dX3_offerWithVerb_94 rfl rfl ?_
              refine e_iload_n (pc := 95) dX3_offerWithVerb_95 rfl rfl ?_
              refine e_iload (pc := 96) dX3_offerWithVerb_96 rfl ?_
              refine e_iload_n (pc := 98) dX3_offerWithVerb_98 rfl rfl ?_
              refine e_invV (pc := 99) (Y' := Y_X3_offerWithSort) (as := [vI a, vI x4, vI lim]) (st := []) (lv0 := [some (vR 4), some (vI a), some (vI x4), some (vI lim), none, none]) (q := 4) (ci := 3) (T := TX3) (N := 16) dX3_offerWithVerb_99 m_X3_offerWithSort ul_3_77 ⟨ul_3_79, us_X3_offerWithSort⟩ ⟨rfl, rfl⟩ rfl rfl rfl rfl rfl rfl rfl (c_X3_offerWithSort w a x4 lim h23 _ H) ?_
              rintro _ h24 ⟨rfl, H⟩
              show Ev w Y_X3_offerWithVerb 102 [some (vR 4), some (vI a), some (vI lim), some (vI x3), some (vI x4), some (vI (g1 20 x4))] [] h24 (rV K)
              refine e_iinc (lv' := [some (vR 4), some (vI a), some (vI lim), some (vI x3), some (vI (x4 + 1)), some (vI (g1 20 x4))]) (pc := 102) dX3_offerWithVerb_102 rfl H.1 rfl rfl ?_
              have H := H.2
              refine e_goto (pc := 105) (tgt := 11) dX3_offerWithVerb_105 (by decide) ?_
              refine e_mask [true, true, true, true, true, false] rfl ?_
              obtain ⟨m, hm, H⟩ := H
              exact ih1 m hm _ _ _ H
        have J2 : ¬ (((g1 20 x4) = 1) ∨ ((g1 20 x4) = 3)) → Ev w Y_X3_offerWithVerb 88 [some (vR 4), some (vI a), some (vI lim), some (vI x3), some (vI x4), some (vI (g1 20 x4))] [] g1 (rV K) := by
          intro hp
          have H := H.2 hp
          refine e_iload (pc := 88) dX3_offerWithVerb_88 rfl ?_
          refine e_iconst (pc := 90) dX3_offerWithVerb_90 ⟨by decide, by decide⟩ ?_
          refine e_icmp_ne (pc := 91) (tgt := 102) dX3_offerWithVerb_91 (by decide) (fun c5 => ?_) (fun c5 => ?_)
          · have H := H.1 c5
            refine e_iinc (lv' := [some (vR 4), some (vI a), some (vI lim), some (vI x3), some (vI (x4 + 1)), some (vI (g1 20 x4))]) (pc := 102) dX3_offerWithVerb_102 rfl H.1 rfl rfl ?_
            have H := H.2
            refine e_goto (pc := 105) (tgt := 11) dX3_offerWithVerb_105 (by decide) ?_
            refine e_mask [true, true, true, true, true, false] rfl ?_
            obtain ⟨m, hm, H⟩ := H
            exact ih1 m hm _ _ _ H
          · have H := H.2 c5
            refine e_aload_n (pc := 94) dX3_offerWithVerb_94 rfl rfl ?_
            refine e_iload_n (pc := 95) dX3_offerWithVerb_95 rfl rfl ?_
            refine e_iload (pc := 96) dX3_offerWithVerb_96 rfl ?_
            refine e_iload_n (pc := 98) dX3_offerWithVerb_98 rfl rfl ?_
            refine e_invV (pc := 99) (Y' := Y_X3_offerWithSort) (as := [vI a, vI x4, vI lim]) (st := []) (lv0 := [some (vR 4), some (vI a), some (vI x4), some (vI lim), none, none]) (q := 4) (ci := 3) (T := TX3) (N := 16) dX3_offerWithVerb_99 m_X3_offerWithSort ul_3_77 ⟨ul_3_79, us_X3_offerWithSort⟩ ⟨rfl, rfl⟩ rfl rfl rfl rfl rfl rfl rfl (c_X3_offerWithSort w a x4 lim g1 _ H) ?_
            rintro _ h25 ⟨rfl, H⟩
            show Ev w Y_X3_offerWithVerb 102 [some (vR 4), some (vI a), some (vI lim), some (vI x3), some (vI x4), some (vI (g1 20 x4))] [] h25 (rV K)
            refine e_iinc (lv' := [some (vR 4), some (vI a), some (vI lim), some (vI x3), some (vI (x4 + 1)), some (vI (g1 20 x4))]) (pc := 102) dX3_offerWithVerb_102 rfl H.1 rfl rfl ?_
            have H := H.2
            refine e_goto (pc := 105) (tgt := 11) dX3_offerWithVerb_105 (by decide) ?_
            refine e_mask [true, true, true, true, true, false] rfl ?_
            obtain ⟨m, hm, H⟩ := H
            exact ih1 m hm _ _ _ H
        refine e_icmp_eq (pc := 38) (tgt := 47) dX3_offerWithVerb_38 (by decide) (fun c6 => ?_) (fun c6 => ?_)
        · exact J1 (Or.inl c6)
        · refine e_iload (pc := 41) dX3_offerWithVerb_41 rfl ?_
          refine e_iconst (pc := 43) dX3_offerWithVerb_43 ⟨by decide, by decide⟩ ?_
          refine e_icmp_ne (pc := 44) (tgt := 88) dX3_offerWithVerb_44 (by decide) (fun c7 => ?_) (fun c7 => ?_)
          · exact J2 (fun z => z.elim c6 c7)
          · exact J1 (Or.inr c7)
  refine e_aload_n (pc := 0) dX3_offerWithVerb_0 rfl rfl ?_
  refine e_getR (q := 4) (ci := 3) (k := 1) (y := 3) (C := RX3) (T := TX3) (N := 16) (pc := 1) dX3_offerWithVerb_1 rfl rfl ev_in3 rfl ul_1_152 ⟨rfl, rfl⟩ rfl ?_
  refine e_getI (q := 3) (ci := 7) (k := 7) (kz := 7) (C := RX7) (T := TX7) (N := 8) (x := (h 3 7)) (pc := 4) dX3_offerWithVerb_4 rfl rfl rfl ev_in7 rfl ul_1_127 ⟨rfl, by decide⟩ rfl ?_
  refine e_istore_n (lv' := [some (vR 4), some (vI a), some (vI lim), some (vI (h 3 7)), none, none]) (pc := 7) dX3_offerWithVerb_7 rfl rfl rfl ?_
  refine e_iconst (pc := 8) dX3_offerWithVerb_8 ⟨by decide, by decide⟩ ?_
  refine e_istore (lv' := [some (vR 4), some (vI a), some (vI lim), some (vI (h 3 7)), some (vI 0), none]) (pc := 9) dX3_offerWithVerb_9 rfl rfl ?_
  obtain ⟨m, H⟩ := H
  exact L1 m _ _ _ H
set_option maxRecDepth 100000 in
set_option maxHeartbeats 4000000 in
theorem c_X3_offerWithVerb (w : WD) (a : Int) (lim : Int) (h : HP) (K : HP → Prop)  (H : S_X3_offerWithVerb a lim h K) : Ev w Y_X3_offerWithVerb 0 [some (vR 4), some (vI a), some (vI lim), none, none, none] [] h (rV K) := by
  obtain ⟨R, ⟨hV, hH, hR, ha, h33⟩, HK⟩ := H
  have hn := hH.1
  have h16 := hV.1
  have hB33 : rowB (rwW (h 24) (h 25) (h 22) (h 23) a row0) (h 3 7) 72 := rowB_m (rwW_b (n := 0) hV hH (row0_b hn.2) ha) (by decide)
  refine v_X3_offerWithVerb w a lim h K (fun n x3 x4 g => ∃ k : Nat, x3 = h 3 7 ∧ x4 = (k : Int) ∧ (k : Int) ≤ h 3 6 ∧ n = (h 3 6 - (k : Int)).toNat ∧ frO h g ∧ g 32 = h 32 ∧ g 33 = h 33 ∧ rpC g (rl2 (h 20) (prC h) lim a (h 3 6).toNat k R)) ⟨(h 3 6).toNat, 0, rfl, rfl, by omega, by omega, frO_r h, rfl, rfl, hR⟩ ?_
  rintro n x3 x4 g ⟨k, rfl, rfl, hk, rfl, hf, e32, e33, hr⟩
  have g3 : g 3 = h 3 := frO_q hf 3 (by decide)
  have g20 : g 20 = h 20 := frO_q hf 20 (by decide)
  have hVg := frO_V hf hV
  have hHg := frO_H hf hH
  rw [g3, g20]
  have nx : ∀ g2 : HP, frO h g2 → g2 32 = h 32 → g2 33 = h 33 → (k : Int) < h 3 6 → rpC g2 (rl2 (h 20) (prC h) lim a (h 3 6).toNat (k + 1) R) → (iR ((k : Int) + 1)) ∧ (∃ m : Nat, m < (h 3 6 - (k : Int)).toNat ∧ ∃ k' : Nat, h 3 7 = h 3 7 ∧ (k : Int) + 1 = (k' : Int) ∧ (k' : Int) ≤ h 3 6 ∧ m = (h 3 6 - (k' : Int)).toNat ∧ frO h g2 ∧ g2 32 = h 32 ∧ g2 33 = h 33 ∧ rpC g2 (rl2 (h 20) (prC h) lim a (h 3 6).toNat k' R)) := fun g2 z1 z2 z3 z4 z5 =>
    ⟨⟨by omega, by omega⟩, (h 3 6 - ((k + 1 : Nat) : Int)).toNat, by omega, k + 1, rfl, by omega, by omega, rfl, z1, z2, z3, z5⟩
  refine ⟨fun c => HK g hf e32 (by rw [show k = (h 3 6).toNat by omega] at hr; exact hr), fun c => ⟨by omega, fun c2 => ⟨⟨by decide, by decide, by decide, by rw [g3]; omega, hVg, hHg, ?_⟩, fun h1 f1 f2 => ?_⟩, fun c2 => ⟨fun c3 => nx g hf e32 e33 (by omega) ?_, fun c3 => absurd (Or.inl c3) c2⟩⟩⟩
  · rw [g3]
    refine rowB_c (rowB_m hB33 (by decide)) (fun j hj => ?_)
    rw [e33]; exact h33 j hj
  · have hf1 : frO h h1 := frO_t hf (frO_1 34 (by omega) f1)
    have e132 : h1 32 = h 32 := by rw [f1 32 (by decide)]; exact e32
    have e133 : h1 33 = h 33 := by rw [f1 33 (by decide)]; exact e33
    have h34 : ∀ j : Nat, (j : Int) ≤ h 3 7 → h1 34 (j : Int) = rwW (h 24) (h 25) (h 22) (h 23) (k : Int) (rwW (h 24) (h 25) (h 22) (h 23) a row0) j := fun j hj => by
      rw [f2 j (by rw [g3]; exact hj), frO_q hf 22 (by decide), frO_q hf 23 (by decide), frO_q hf 24 (by decide), frO_q hf 25 (by decide)]
      unfold rwW
      exact rwF_rc (n := h 3 7) (fun j hj => by rw [e33]; exact h33 j hj) _ _ hj
    have hpr : h1 34 (h 3 7) = prC h a (k : Int) (-1) := by
      have := h34 (h 3 7).toNat (by omega)
      rw [Int.toNat_of_nonneg hn.1] at this
      rw [this]
      unfold prC prR
      rw [if_pos (by decide)]
    have hr1 : rpC h1 (rl2 (h 20) (prC h) lim a (h 3 6).toNat k R) := rpC_c (by rw [f1 4 (by decide)]) (f1 _ (by decide)) (f1 _ (by decide)) (f1 _ (by decide)) (f1 _ (by decide)) hr
    show _ ∧ _
    rw [hpr]
    have srt : ∀ (g2 : HP) (R2 : RD), frO h g2 → g2 32 = h 32 → g2 33 = h 33 → g2 34 = h1 34 → rpC g2 R2 → R2 = (if prC h a (k : Int) (-1) ≤ lim then ofr (rl2 (h 20) (prC h) lim a (h 3 6).toNat k R) (prC h a (k : Int) (-1)) a (k : Int) (-1) else rl2 (h 20) (prC h) lim a (h 3 6).toNat k R) → (¬ h 20 (k : Int) = 1 → (iR ((k : Int) + 1)) ∧ (∃ m : Nat, m < (h 3 6 - (k : Int)).toNat ∧ ∃ k' : Nat, h 3 7 = h 3 7 ∧ (k : Int) + 1 = (k' : Int) ∧ (k' : Int) ≤ h 3 6 ∧ m = (h 3 6 - (k' : Int)).toNat ∧ frO h g2 ∧ g2 32 = h 32 ∧ g2 33 = h 33 ∧ rpC g2 (rl2 (h 20) (prC h) lim a (h 3 6).toNat k' R))) ∧ (h 20 (k : Int) = 1 → S_X3_offerWithSort a (k : Int) lim g2 (fun h24 => (iR ((k : Int) + 1)) ∧ (∃ m : Nat, m < (h 3 6 - (k : Int)).toNat ∧ ∃ k' : Nat, h 3 7 = h 3 7 ∧ (k : Int) + 1 = (k' : Int) ∧ (k' : Int) ≤ h 3 6 ∧ m = (h 3 6 - (k' : Int)).toNat ∧ frO h h24 ∧ h24 32 = h 32 ∧ h24 33 = h 33 ∧ rpC h24 (rl2 (h 20) (prC h) lim a (h 3 6).toNat k' R)))) := by
      intro g2 R2 q1 q2 q3 q4 q5 q6
      have k3 : g2 3 = h 3 := frO_q q1 3 (by decide)
      refine ⟨fun c3 => nx g2 q1 q2 q3 (by omega) ?_, fun c3 => ⟨R2, ⟨frO_V q1 hV, frO_H q1 hH, q5, by rw [k3]; exact ha, by rw [k3]; omega, fun j hj => ?_⟩, fun h' p1 p2 p3 p4 => nx h' (frO_t q1 p1) (by rw [p2, q2]) (by rw [p3, q3]) (by omega) ?_⟩⟩
      · have c4 : h 20 (k : Int) = 3 := by rcases c2 with z | z; exact absurd z c3; exact z
        simp only [rl2]
        rw [if_neg c3]
        by_cases c5 : prC h a (k : Int) (-1) ≤ lim
        · rw [if_pos ⟨c4, c5⟩]; rw [q6, if_pos c5] at q5; exact q5
        · rw [if_neg (fun z => c5 z.2)]; rw [q6, if_neg c5] at q5; exact q5
      · rw [k3] at hj
        rw [q4, frO_q q1 22 (by decide), frO_q q1 23 (by decide), frO_q q1 24 (by decide), frO_q q1 25 (by decide)]
        exact h34 j hj
      · simp only [rl2]
        rw [if_pos c3, ← q6]
        rw [frO_q q1 20 (by decide), frO_p q1, k3] at p4
        exact p4
    refine ⟨by omega, fun c3 => srt h1 _ hf1 e132 e133 rfl hr1 (by rw [if_neg (by omega)]), fun c3 => ⟨by omega, _, hr1, fun h2 f3 f4 f5 => srt h2 _ (frO_t hf1 (frO_5 f3 f4)) (by rw [f3 _ (by decide) (by decide) (by decide) (by decide) (by decide)]; exact e132) (by rw [f3 _ (by decide) (by decide) (by decide) (by decide) (by decide)]; exact e133) (f3 _ (by decide) (by decide) (by decide) (by decide) (by decide)) f5 (by rw [if_pos (by omega)])⟩⟩
  · simp only [rl2]
    rw [if_neg c3, if_neg (fun z => c2 (Or.inr z.1))]
    exact hr
def S_X3_findReadings (lim : Int) (h : HP) (K : HP → Prop) : Prop := ∃ R : RD, (VOK h ∧ HRD h ∧ rpC h R) ∧ ∀ h' : HP, frO h h' → rpC h' (rl1 (h 20) (prC h) lim (h 3 6).toNat (h 3 6).toNat R) → K h'
set_option maxRecDepth 100000 in
set_option maxHeartbeats 4000000 in
theorem v_X3_findReadings (w : WD) (lim : Int) (h : HP) (K : HP → Prop) 
    (I1 : Nat → Int → HP → Prop)
    (H : (S_X7_priceNothing 32 h (fun h21 => (∃ m : Nat, I1 m 0 h21))))
    (H1 : ∀ (n1 : Nat) (x2 : Int) (g1 : HP), I1 n1 x2 g1 → (((g1 3 6) ≤ x2 → K g1) ∧ (¬ (g1 3 6) ≤ x2 → ((0 ≤ x2 ∧ x2 < 16) ∧ ((¬ (g1 20 x2) = 0 → ((iR (x2 + 1)) ∧ (∃ m : Nat, m < n1 ∧ I1 m (x2 + 1) g1))) ∧ ((g1 20 x2) = 0 → (S_X7_priceWithWord 32 33 x2 g1 (fun h22 => (S_X3_offerWithVerb x2 lim h22 (fun h23 => ((iR (x2 + 1)) ∧ (∃ m : Nat, m < n1 ∧ I1 m (x2 + 1) h23)))))))))))) :
    Ev w Y_X3_findReadings 0 [some (vR 4), some (vI lim), none] [] h (rV K) := by
  have L1 : ∀ (n1 : Nat) (x2 : Int) (g1 : HP), I1 n1 x2 g1 → Ev w Y_X3_findReadings 13 [some (vR 4), some (vI lim), some (vI x2)] [] g1 (rV K) := by
    intro n1
    induction n1 using Nat.strongRecOn with
    | ind n1 ih1 =>
      intro x2 g1 H
      have H := H1 n1 x2 g1 H
      refine e_iload_n (pc := 13) dX3_findReadings_13 rfl rfl ?_
      refine e_aload_n (pc := 14) dX3_findReadings_14 rfl rfl ?_
      refine e_getR (q := 4) (ci := 3) (k := 1) (y := 3) (C := RX3) (T := TX3) (N := 16) (pc := 15) dX3_findReadings_15 rfl rfl ev_in3 rfl ul_1_152 ⟨rfl, rfl⟩ rfl ?_
      refine e_getI (q := 3) (ci := 7) (k := 6) (kz := 6) (C := RX7) (T := TX7) (N := 8) (x := (g1 3 6)) (pc := 18) dX3_findReadings_18 rfl rfl rfl ev_in7 rfl ul_1_124 ⟨rfl, by decide⟩ rfl ?_
      refine e_icmp_ge (pc := 21) (tgt := 64) dX3_findReadings_21 (by decide) (fun c1 => ?_) (fun c1 => ?_)
      · have H := H.1 c1
        exact e_ret (pc := 64) (v := none) dX3_findReadings_64 rfl trivial ⟨rfl, H⟩
      · have H := H.2 c1
        refine e_aload_n (pc := 24) dX3_findReadings_24 rfl rfl ?_
        refine e_getR (q := 4) (ci := 3) (k := 1) (y := 3) (C := RX3) (T := TX3) (N := 16) (pc := 25) dX3_findReadings_25 rfl rfl ev_in3 rfl ul_1_152 ⟨rfl, rfl⟩ rfl ?_
        refine e_getR (q := 3) (ci := 7) (k := 0) (y := 20) (C := RX7) (T := TX7) (N := 8) (pc := 28) dX3_findReadings_28 rfl rfl ev_in7 rfl ul_1_117 ⟨rfl, rfl⟩ rfl ?_
        refine e_iload_n (pc := 31) dX3_findReadings_31 rfl rfl ?_
        refine e_iald (q := 20) (x := (g1 20 x2)) (pc := 32) dX3_findReadings_32 rfl H.1 rfl ?_
        have H := H.2
        refine e_if_ne (pc := 33) (tgt := 58) dX3_findReadings_33 (by decide) (fun c2 => ?_) (fun c2 => ?_)
        · have H := H.1 c2
          refine e_iinc (lv' := [some (vR 4), some (vI lim), some (vI (x2 + 1))]) (pc := 58) dX3_findReadings_58 rfl H.1 rfl rfl ?_
          have H := H.2
          refine e_goto (pc := 61) (tgt := 13) dX3_findReadings_61 (by decide) ?_
          obtain ⟨m, hm, H⟩ := H
          exact ih1 m hm _ _ H
        · have H := H.2 c2
          refine e_aload_n (pc := 36) dX3_findReadings_36 rfl rfl ?_
          refine e_getR (q := 4) (ci := 3) (k := 1) (y := 3) (C := RX3) (T := TX3) (N := 16) (pc := 37) dX3_findReadings_37 rfl rfl ev_in3 rfl ul_1_152 ⟨rfl, rfl⟩ rfl ?_
          refine e_aload_n (pc := 40) dX3_findReadings_40 rfl rfl ?_
          refine e_getR (q := 4) (ci := 3) (k := 8) (y := 32) (C := RX3) (T := TX3) (N := 16) (pc := 41) dX3_findReadings_41 rfl rfl ev_in3 rfl ul_1_161 ⟨rfl, rfl⟩ rfl ?_
          refine e_aload_n (pc := 44) dX3_findReadings_44 rfl rfl ?_
          refine e_getR (q := 4) (ci := 3) (k := 9) (y := 33) (C := RX3) (T := TX3) (N := 16) (pc := 45) dX3_findReadings_45 rfl rfl ev_in3 rfl ul_1_162 ⟨rfl, rfl⟩ rfl ?_
          refine e_iload_n (pc := 48) dX3_findReadings_48 rfl rfl ?_
          refine e_invV (pc := 49) (Y' := Y_X7_priceWithWord) (as := [vR 32, vR 33, vI x2]) (st := []) (lv0 := [some (vR 3), some (vR 32), some (vR 33), some (vI x2), none]) (q := 3) (ci := 7) (T := TX7) (N := 8) dX3_findReadings_49 m_X7_priceWithWord ul_3_57 ⟨ul_3_58, ul_3_59⟩ ⟨rfl, rfl⟩ rfl rfl rfl rfl rfl rfl rfl (c_X7_priceWithWord w 32 33 x2 g1 _ rfl rfl H) ?_
          rintro _ h22 ⟨rfl, H⟩
          show Ev w Y_X3_findReadings 52 [some (vR 4), some (vI lim), some (vI x2)] [] h22 (rV K)
          refine e_aload_n (pc := 52) dX3_findReadings_52 rfl rfl ?_
          refine e_iload_n (pc := 53) dX3_findReadings_53 rfl rfl ?_
          refine e_iload_n (pc := 54) dX3_findReadings_54 rfl rfl ?_
          refine e_invV (pc := 55) (Y' := Y_X3_offerWithVerb) (as := [vI x2, vI lim]) (st := []) (lv0 := [some (vR 4), some (vI x2), some (vI lim), none, none, none]) (q := 4) (ci := 3) (T := TX3) (N := 16) dX3_findReadings_55 m_X3_offerWithVerb ul_3_69 ⟨ul_3_71, us_X3_offerWithVerb⟩ ⟨rfl, rfl⟩ rfl rfl rfl rfl rfl rfl rfl (c_X3_offerWithVerb w x2 lim h22 _ H) ?_
          rintro _ h23 ⟨rfl, H⟩
          show Ev w Y_X3_findReadings 58 [some (vR 4), some (vI lim), some (vI x2)] [] h23 (rV K)
          refine e_iinc (lv' := [some (vR 4), some (vI lim), some (vI (x2 + 1))]) (pc := 58) dX3_findReadings_58 rfl H.1 rfl rfl ?_
          have H := H.2
          refine e_goto (pc := 61) (tgt := 13) dX3_findReadings_61 (by decide) ?_
          obtain ⟨m, hm, H⟩ := H
          exact ih1 m hm _ _ H
  refine e_aload_n (pc := 0) dX3_findReadings_0 rfl rfl ?_
  refine e_getR (q := 4) (ci := 3) (k := 1) (y := 3) (C := RX3) (T := TX3) (N := 16) (pc := 1) dX3_findReadings_1 rfl rfl ev_in3 rfl ul_1_152 ⟨rfl, rfl⟩ rfl ?_
  refine e_aload_n (pc := 4) dX3_findReadings_4 rfl rfl ?_
  refine e_getR (q := 4) (ci := 3) (k := 8) (y := 32) (C := RX3) (T := TX3) (N := 16) (pc := 5) dX3_findReadings_5 rfl rfl ev_in3 rfl ul_1_161 ⟨rfl, rfl⟩ rfl ?_
  refine e_invV (pc := 8) (Y' := Y_X7_priceNothing) (as := [vR 32]) (st := []) (lv0 := [some (vR 3), some (vR 32), none]) (q := 3) (ci := 7) (T := TX7) (N := 8) dX3_findReadings_8 m_X7_priceNothing ul_3_53 ⟨ul_3_54, ul_3_55⟩ ⟨rfl, rfl⟩ rfl rfl rfl rfl rfl rfl rfl (c_X7_priceNothing w 32 h _ rfl H) ?_
  rintro _ h21 ⟨rfl, H⟩
  show Ev w Y_X3_findReadings 11 [some (vR 4), some (vI lim), none] [] h21 (rV K)
  refine e_iconst (pc := 11) dX3_findReadings_11 ⟨by decide, by decide⟩ ?_
  refine e_istore_n (lv' := [some (vR 4), some (vI lim), some (vI 0)]) (pc := 12) dX3_findReadings_12 rfl rfl rfl ?_
  obtain ⟨m, H⟩ := H
  exact L1 m _ _ H
set_option maxRecDepth 100000 in
set_option maxHeartbeats 4000000 in
theorem c_X3_findReadings (w : WD) (lim : Int) (h : HP) (K : HP → Prop)  (H : S_X3_findReadings lim h K) : Ev w Y_X3_findReadings 0 [some (vR 4), some (vI lim), none] [] h (rV K) := by
  obtain ⟨R, ⟨hV, hH, hR⟩, HK⟩ := H
  have hn := hH.1
  have h16 := hV.1
  refine v_X3_findReadings w lim h K (fun n x2 g => ∃ k : Nat, x2 = (k : Int) ∧ (k : Int) ≤ h 3 6 ∧ n = (h 3 6 - (k : Int)).toNat ∧ frO h g ∧ (∀ j : Nat, (j : Int) ≤ h 3 7 → g 32 (j : Int) = row0 j) ∧ rpC g (rl1 (h 20) (prC h) lim (h 3 6).toNat k R)) ⟨⟨by decide, hH⟩, fun h1 f1 f2 => ⟨(h 3 6).toNat, 0, rfl, by omega, by omega, frO_1 32 (by omega) f1, f2, rpC_c (by rw [f1 4 (by decide)]) (f1 _ (by decide)) (f1 _ (by decide)) (f1 _ (by decide)) (f1 _ (by decide)) hR⟩⟩ ?_
  rintro n x2 g ⟨k, rfl, hk, rfl, hf, h32, hr⟩
  have g3 : g 3 = h 3 := frO_q hf 3 (by decide)
  have g20 : g 20 = h 20 := frO_q hf 20 (by decide)
  have hVg := frO_V hf hV
  have hHg := frO_H hf hH
  rw [g3, g20]
  refine ⟨fun c => HK g hf (by rw [show k = (h 3 6).toNat by omega] at hr; exact hr), fun c => ⟨by omega, fun c2 => ⟨⟨by omega, by omega⟩, (h 3 6 - ((k + 1 : Nat) : Int)).toNat, by omega, k + 1, by omega, by omega, rfl, hf, h32, ?_⟩, fun c2 => ⟨⟨by decide, by decide, by decide, by rw [g3]; omega, hVg, hHg, ?_⟩, fun h1 f1 f2 => ?_⟩⟩⟩
  · simp only [rl1]
    rw [if_neg c2]
    exact hr
  · rw [g3]
    exact rowB_c (rowB_m (row0_b hn.2) (by decide)) (fun j hj => h32 j hj)
  · have hf1 : frO h h1 := frO_t hf (frO_1 33 (by omega) f1)
    have k3 : h1 3 = h 3 := frO_q hf1 3 (by decide)
    refine ⟨rl1 (h 20) (prC h) lim (h 3 6).toNat k R, ⟨frO_V hf1 hV, frO_H hf1 hH, rpC_c (by rw [f1 4 (by decide)]) (f1 _ (by decide)) (f1 _ (by decide)) (f1 _ (by decide)) (f1 _ (by decide)) hr, by rw [k3]; omega, fun j hj => ?_⟩, fun h2 q1 q2 q3 => ⟨⟨by omega, by omega⟩, (h 3 6 - ((k + 1 : Nat) : Int)).toNat, by omega, k + 1, by omega, by omega, rfl, frO_t hf1 q1, fun j hj => by rw [q2, f1 32 (by decide)]; exact h32 j hj, ?_⟩⟩
    · rw [k3] at hj
      rw [f2 j (by rw [g3]; exact hj), frO_q hf 22 (by decide), frO_q hf 23 (by decide), frO_q hf 24 (by decide), frO_q hf 25 (by decide), frO_q hf1 22 (by decide), frO_q hf1 23 (by decide), frO_q hf1 24 (by decide), frO_q hf1 25 (by decide)]
      unfold rwW
      exact rwF_rc (n := h 3 7) (fun j hj => h32 j hj) _ _ hj
    · simp only [rl1]
      rw [if_pos c2]
      rw [frO_q hf1 20 (by decide), frO_p hf1, k3] at q3
      exact q3
