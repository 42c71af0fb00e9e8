/-! the reference's firing -/
def mBrF (h : HP) (k : Int) (s : Int → Int) : Prop := iBar (h 71 (240 + 6 * k)) (h 71 (240 + 6 * k + 1)) (h 71 (240 + 6 * k + 2)) (h 71 (240 + 6 * k + 3)) (h 71 (240 + 6 * k + 4)) s (fun t => ∀ f : Int, 0 ≤ f → f < 6 → ¬ h 62 f = h 56 t)
def mNB (h : HP) (f f' : Int → Int) : Prop := ∃ k : Int, 0 ≤ k ∧ k < h 70 1 ∧ mBrF h k f' ∧ ¬ mBrF h k f
theorem mBar_F {h g : HP} {k : Int} (h1 : g 71 = h 71) (h2 : g 62 = h 62) (h3 : g 56 = h 56) : mBar g k ↔ mBrF h k (g 60) := by
  unfold mBar mBrF
  rw [h1, h2, h3]
def MSOK (h : HP) : Prop := (0 ≤ h 55 33 ∧ h 55 33 ≤ 8) ∧ ∀ s : Int, 0 ≤ s → s < h 55 33 → (0 ≤ h 79 (5 * s + 3) ∧ h 79 (5 * s + 3) < h 55 0) ∧ (0 ≤ h 79 (5 * s + 4) ∧ h 79 (5 * s + 4) ≤ 3)
noncomputable def wkM (h : HP) (t v : Int) : List Int := wkP (fun s => h 79 (5 * s) = 1 ∧ h 79 (5 * s + 1) = t ∧ h 79 (5 * s + 2) = v) (h 55 33).toNat
def frM (h g : HP) : Prop := (∀ q, q ≠ 60 → q ≠ 61 → q ≠ 82 → q ≠ 86 → q ≠ 55 → g q = h q) ∧ (∀ i : Int, i ≠ 35 → i ≠ 47 → g 55 i = h 55 i)
noncomputable def firM (h : HP) : Nat → Nat → Int → (Int → Int) → (Int → Int) → Int → List Int → FS := fir (fun s => h 79 (5 * s + 3)) (fun s => h 79 (5 * s + 4)) (wkM h) (mNB h)
theorem us_back {f : Int → Int} {t v : Int} : us (us f t v) t (f t) = f := by
  funext i
  by_cases e : i = t
  · rw [e, us_s]
  · rw [us_n e, us_n e]
theorem mHOK_60 {h g : HP} {t v : Int} (hH : mHOK h) (h0 : g 55 0 = h 55 0) (h1 : g 56 = h 56) (h2 : g 57 = h 57) (h3 : g 58 = h 58) (h5 : g 62 = h 62) (h4 : g 60 = us (h 60) t v) (ht : 0 ≤ t ∧ t < h 55 0) (hv : 0 ≤ v ∧ v ≤ 3) : mHOK g := by
  unfold mHOK
  rw [h0, h1, h2, h3, h4, h5]
  refine ⟨hH.1, fun u a b => ⟨(hH.2.1 u a b).1, (hH.2.1 u a b).2.1, (hH.2.1 u a b).2.2.1, ?_⟩, fun u a b => ?_, hH.2.2.2⟩
  · by_cases e : u = t
    · rw [e, us_s]; exact hv
    · rw [us_n e]; exact (hH.2.1 u a b).2.2.2
  · rw [us_n (by omega)]; exact hH.2.2.1 u a b
def S_X9_fire (c0 : Int) (h : HP) (K : HP → Prop) : Prop := ∃ L : List Int, (mHOK h ∧ mfOK h ∧ MSOK h ∧ (0 ≤ c0 ∧ c0 ≤ 30) ∧ h 55 47 = (L.length : Int) ∧ rwH (h 86) L ∧ (∀ s : Int, s ∈ L → 0 ≤ s ∧ s < h 55 33) ∧ (L.length : Int) ≤ 8 + 8 * c0 ∧ (0 ≤ h 55 35 ∧ h 55 35 ≤ 2000000000)) ∧ ∀ h' : HP, frM h h' → mHOK h' → h' 55 47 = 0 → (∃ R : FS, R = firM h 257 0 c0 (h 60) (h 61) (h 55 35) L ∧ h' 60 = R.1 ∧ h' 61 = R.2.1 ∧ h' 55 35 = R.2.2.1) → K h'
set_option maxRecDepth 100000 in
set_option maxHeartbeats 4000000 in
theorem v_X9_fire (w : WD) (c0 : Int) (h : HP) (K : HP → Prop) 
    (I1 : Nat → Int → Int → HP → Prop)
    (H : (∃ m : Nat, I1 m c0 0 h))
    (H1 : ∀ (n1 : Nat) (x2 : Int) (x3 : Int) (g1 : HP), I1 n1 x2 x3 g1 → (((((g1 55 47) ≤ x3) ∨ (30 ≤ x2)) → K (sth g1 55 47 0)) ∧ (¬ (((g1 55 47) ≤ x3) ∨ (30 ≤ x2)) → ((0 ≤ x3 ∧ x3 < 400) ∧ ((iR (5 * (g1 86 x3))) ∧ ((iR ((5 * (g1 86 x3)) + 3)) ∧ ((0 ≤ ((5 * (g1 86 x3)) + 3) ∧ ((5 * (g1 86 x3)) + 3) < 40) ∧ ((iR (5 * (g1 86 x3))) ∧ ((iR ((5 * (g1 86 x3)) + 4)) ∧ ((0 ≤ ((5 * (g1 86 x3)) + 4) ∧ ((5 * (g1 86 x3)) + 4) < 40) ∧ ((0 ≤ (g1 79 ((5 * (g1 86 x3)) + 3)) ∧ (g1 79 ((5 * (g1 86 x3)) + 3)) < 10) ∧ (((g1 60 (g1 79 ((5 * (g1 86 x3)) + 3))) = (g1 79 ((5 * (g1 86 x3)) + 4)) → ((iR (x3 + 1)) ∧ (∃ m : Nat, m < n1 ∧ I1 m x2 (x3 + 1) g1))) ∧ (¬ (g1 60 (g1 79 ((5 * (g1 86 x3)) + 3))) = (g1 79 ((5 * (g1 86 x3)) + 4)) → (S_X9_layBars g1 (fun h21 => ((0 ≤ (g1 79 ((5 * (g1 86 x3)) + 3)) ∧ (g1 79 ((5 * (g1 86 x3)) + 3)) < 10) ∧ ((mfOK (sth h21 60 (g1 79 ((5 * (g1 86 x3)) + 3)) (g1 79 ((5 * (g1 86 x3)) + 4))) ∧ mHOK (sth h21 60 (g1 79 ((5 * (g1 86 x3)) + 3)) (g1 79 ((5 * (g1 86 x3)) + 4)))) ∧ ((¬ (∃ k : Int, 0 ≤ k ∧ k < (sth h21 60 (g1 79 ((5 * (g1 86 x3)) + 3)) (g1 79 ((5 * (g1 86 x3)) + 4))) 70 1 ∧ (sth h21 60 (g1 79 ((5 * (g1 86 x3)) + 3)) (g1 79 ((5 * (g1 86 x3)) + 4))) 82 k = 0 ∧ mBar (sth h21 60 (g1 79 ((5 * (g1 86 x3)) + 3)) (g1 79 ((5 * (g1 86 x3)) + 4))) k) → ((iR (2000 + (g1 86 x3))) ∧ ((0 ≤ (g1 79 ((5 * (g1 86 x3)) + 3)) ∧ (g1 79 ((5 * (g1 86 x3)) + 3)) < 10) ∧ ((iR (x2 + 1)) ∧ (S_X9_wakeBy (g1 79 ((5 * (g1 86 x3)) + 3)) (sth (sth h21 60 (g1 79 ((5 * (g1 86 x3)) + 3)) (g1 79 ((5 * (g1 86 x3)) + 4))) 61 (g1 79 ((5 * (g1 86 x3)) + 3)) (2000 + (g1 86 x3))) (fun h22 => ((iR (x3 + 1)) ∧ (∃ m : Nat, m < n1 ∧ I1 m (x2 + 1) (x3 + 1) h22)))))))) ∧ ((∃ k : Int, 0 ≤ k ∧ k < (sth h21 60 (g1 79 ((5 * (g1 86 x3)) + 3)) (g1 79 ((5 * (g1 86 x3)) + 4))) 70 1 ∧ (sth h21 60 (g1 79 ((5 * (g1 86 x3)) + 3)) (g1 79 ((5 * (g1 86 x3)) + 4))) 82 k = 0 ∧ mBar (sth h21 60 (g1 79 ((5 * (g1 86 x3)) + 3)) (g1 79 ((5 * (g1 86 x3)) + 4))) k) → ((0 ≤ (g1 79 ((5 * (g1 86 x3)) + 3)) ∧ (g1 79 ((5 * (g1 86 x3)) + 3)) < 10) ∧ ((iR ((h21 55 35) + 1)) ∧ ((iR (x3 + 1)) ∧ (∃ m : Nat, m < n1 ∧ I1 m x2 (x3 + 1) (sth (sth (sth h21 60 (g1 79 ((5 * (g1 86 x3)) + 3)) (g1 79 ((5 * (g1 86 x3)) + 4))) 60 (g1 79 ((5 * (g1 86 x3)) + 3)) (g1 60 (g1 79 ((5 * (g1 86 x3)) + 3)))) 55 35 ((h21 55 35) + 1))))))))))))))))))))))))) :
    Ev w Y_X9_fire 0 [some (vR 55), some (vI c0), none, none, none, none, none, none] [] h (rV K) := by
  have L1 : ∀ (n1 : Nat) (x2 : Int) (x3 : Int) (g1 : HP), I1 n1 x2 x3 g1 → Ev w Y_X9_fire 4 [some (vR 55), none, some (vI x2), some (vI x3), none, none, none, none] [] g1 (rV K) := by
    intro n1
    induction n1 using Nat.strongRecOn with
    | ind n1 ih1 =>
      intro x2 x3 g1 H
      have H := H1 n1 x2 x3 g1 H
      refine e_iload_n (pc := 4) dX9_fire_4 rfl rfl ?_
      refine e_aload_n (pc := 5) dX9_fire_5 rfl rfl ?_
      refine e_getI (q := 55) (ci := 9) (k := 47) (kz := 47) (C := RX9) (T := TX9) (N := 52) (x := (g1 55 47)) (pc := 6) dX9_fire_6 rfl rfl rfl ev_in9 rfl ul_4_229 ⟨rfl, by decide⟩ rfl ?_
      have J1 : (((g1 55 47) ≤ x3) ∨ (30 ≤ x2)) → Ev w Y_X9_fire 138 [some (vR 55), none, some (vI x2), some (vI x3), none, none, none, none] [] g1 (rV K) := by
        intro hp
        have H := H.1 hp
        refine e_aload_n (pc := 138) dX9_fire_138 rfl rfl ?_
        refine e_iconst (pc := 139) dX9_fire_139 ⟨by decide, by decide⟩ ?_
        refine e_put (q := 55) (ci := 9) (k := 47) (kz := 47) (C := RX9) (T := TX9) (N := 52) (ty := .int) (pc := 140) dX9_fire_140 rfl rfl rfl ev_in9 tyX9 tyX9_ok nmX9 rfl ul_4_229 ⟨rfl, by decide⟩ rfl (tyX9_ok 47 (by decide)) (Or.inl rfl) ?_
        exact e_ret (pc := 143) (v := none) dX9_fire_143 rfl trivial ⟨rfl, H⟩
      have J2 : ¬ (((g1 55 47) ≤ x3) ∨ (30 ≤ x2)) → Ev w Y_X9_fire 18 [some (vR 55), none, some (vI x2), some (vI x3), none, none, none, none] [] g1 (rV K) := by
        intro hp
        have H := H.2 hp
        refine e_aload_n (pc := 18) dX9_fire_18 rfl rfl ?_
        refine e_getR (q := 55) (ci := 9) (k := 48) (y := 86) (C := RX9) (T := TX9) (N := 52) (pc := 19) dX9_fire_19 rfl rfl ev_in9 rfl ul_4_230 ⟨rfl, rfl⟩ rfl ?_
        refine e_iload_n (pc := 22) dX9_fire_22 rfl rfl ?_
        refine e_iald (q := 86) (x := (g1 86 x3)) (pc := 23) dX9_fire_23 rfl H.1 rfl ?_
        have H := H.2
        refine e_istore (lv' := [some (vR 55), none, some (vI x2), some (vI x3), some (vI (g1 86 x3)), none, none, none]) (pc := 24) dX9_fire_24 rfl rfl ?_
        refine e_aload_n (pc := 26) dX9_fire_26 rfl rfl ?_
        refine e_getR (q := 55) (ci := 9) (k := 34) (y := 79) (C := RX9) (T := TX9) (N := 52) (pc := 27) dX9_fire_27 rfl rfl ev_in9 rfl ul_4_216 ⟨rfl, rfl⟩ rfl ?_
        refine e_iconst (pc := 30) dX9_fire_30 ⟨by decide, by decide⟩ ?_
        refine e_iload (pc := 31) dX9_fire_31 rfl ?_
        refine e_imul (pc := 33) dX9_fire_33 H.1 ?_
        have H := H.2
        refine e_iconst (pc := 34) dX9_fire_34 ⟨by decide, by decide⟩ ?_
        refine e_iadd (pc := 35) dX9_fire_35 H.1 ?_
        have H := H.2
        refine e_iald (q := 79) (x := (g1 79 ((5 * (g1 86 x3)) + 3))) (pc := 36) dX9_fire_36 rfl H.1 rfl ?_
        have H := H.2
        refine e_istore (lv' := [some (vR 55), none, some (vI x2), some (vI x3), some (vI (g1 86 x3)), some (vI (g1 79 ((5 * (g1 86 x3)) + 3))), none, none]) (pc := 37) dX9_fire_37 rfl rfl ?_
        refine e_aload_n (pc := 39) dX9_fire_39 rfl rfl ?_
        refine e_getR (q := 55) (ci := 9) (k := 34) (y := 79) (C := RX9) (T := TX9) (N := 52) (pc := 40) dX9_fire_40 rfl rfl ev_in9 rfl ul_4_216 ⟨rfl, rfl⟩ rfl ?_
        refine e_iconst (pc := 43) dX9_fire_43 ⟨by decide, by decide⟩ ?_
        refine e_iload (pc := 44) dX9_fire_44 rfl ?_
        refine e_imul (pc := 46) dX9_fire_46 H.1 ?_
        have H := H.2
        refine e_iconst (pc := 47) dX9_fire_47 ⟨by decide, by decide⟩ ?_
        refine e_iadd (pc := 48) dX9_fire_48 H.1 ?_
        have H := H.2
        refine e_iald (q := 79) (x := (g1 79 ((5 * (g1 86 x3)) + 4))) (pc := 49) dX9_fire_49 rfl H.1 rfl ?_
        have H := H.2
        refine e_istore (lv' := [some (vR 55), none, some (vI x2), some (vI x3), some (vI (g1 86 x3)), some (vI (g1 79 ((5 * (g1 86 x3)) + 3))), some (vI (g1 79 ((5 * (g1 86 x3)) + 4))), none]) (pc := 50) dX9_fire_50 rfl rfl ?_
        refine e_aload_n (pc := 52) dX9_fire_52 rfl rfl ?_
        refine e_getR (q := 55) (ci := 9) (k := 5) (y := 60) (C := RX9) (T := TX9) (N := 52) (pc := 53) dX9_fire_53 rfl rfl ev_in9 rfl ul_4_187 ⟨rfl, rfl⟩ rfl ?_
        refine e_iload (pc := 56) dX9_fire_56 rfl ?_
        refine e_iald (q := 60) (x := (g1 60 (g1 79 ((5 * (g1 86 x3)) + 3)))) (pc := 58) dX9_fire_58 rfl H.1 rfl ?_
        have H := H.2
        refine e_istore (lv' := [some (vR 55), none, some (vI x2), some (vI x3), some (vI (g1 86 x3)), some (vI (g1 79 ((5 * (g1 86 x3)) + 3))), some (vI (g1 79 ((5 * (g1 86 x3)) + 4))), some (vI (g1 60 (g1 79 ((5 * (g1 86 x3)) + 3))))]) (pc := 59) dX9_fire_59 rfl rfl ?_
        refine e_iload (pc := 61) dX9_fire_61 rfl ?_
        refine e_iload (pc := 63) dX9_fire_63 rfl ?_
        refine e_icmp_eq (pc := 65) (tgt := 132) dX9_fire_65 (by decide) (fun c1 => ?_) (fun c1 => ?_)
        · have H := H.1 c1
          refine e_iinc (lv' := [some (vR 55), none, some (vI x2), some (vI (x3 + 1)), some (vI (g1 86 x3)), some (vI (g1 79 ((5 * (g1 86 x3)) + 3))), some (vI (g1 79 ((5 * (g1 86 x3)) + 4))), some (vI (g1 60 (g1 79 ((5 * (g1 86 x3)) + 3))))]) (pc := 132) dX9_fire_132 rfl H.1 rfl rfl ?_
          have H := H.2
          refine e_goto (pc := 135) (tgt := 4) dX9_fire_135 (by decide) ?_
          refine e_mask [true, false, true, true, false, false, false, false] rfl ?_
          obtain ⟨m, hm, H⟩ := H
          exact ih1 m hm _ _ _ H
        · have H := H.2 c1
          refine e_aload_n (pc := 68) dX9_fire_68 rfl rfl ?_
          refine e_invV (pc := 69) (Y' := Y_X9_layBars) (as := []) (st := []) (lv0 := [some (vR 55), none]) (q := 55) (ci := 9) (T := TX9) (N := 52) dX9_fire_69 m_X9_layBars ul_6_15 ⟨ul_6_17, us_X9_layBars⟩ ⟨rfl, rfl⟩ rfl rfl rfl rfl rfl rfl rfl (c_X9_layBars w g1 _ H) ?_
          rintro _ h21 ⟨rfl, H⟩
          show Ev w Y_X9_fire 72 [some (vR 55), none, some (vI x2), some (vI x3), some (vI (g1 86 x3)), some (vI (g1 79 ((5 * (g1 86 x3)) + 3))), some (vI (g1 79 ((5 * (g1 86 x3)) + 4))), some (vI (g1 60 (g1 79 ((5 * (g1 86 x3)) + 3))))] [] h21 (rV K)
          refine e_aload_n (pc := 72) dX9_fire_72 rfl rfl ?_
          refine e_getR (q := 55) (ci := 9) (k := 5) (y := 60) (C := RX9) (T := TX9) (N := 52) (pc := 73) dX9_fire_73 rfl rfl ev_in9 rfl ul_4_187 ⟨rfl, rfl⟩ rfl ?_
          refine e_iload (pc := 76) dX9_fire_76 rfl ?_
          refine e_iload (pc := 78) dX9_fire_78 rfl ?_
          refine e_iast (q := 60) (pc := 80) dX9_fire_80 rfl H.1 ?_
          have H := H.2
          refine e_aload_n (pc := 81) dX9_fire_81 rfl rfl ?_
          refine e_invV (pc := 82) (Y' := Y_X9_newBar) (as := []) (st := []) (lv0 := [some (vR 55), none]) (q := 55) (ci := 9) (T := TX9) (N := 52) dX9_fire_82 m_X9_newBar ul_6_19 ⟨ul_6_21, us_X9_newBar⟩ ⟨rfl, rfl⟩ rfl rfl rfl rfl rfl rfl rfl (c_X9_newBar w (sth h21 60 (g1 79 ((5 * (g1 86 x3)) + 3)) (g1 79 ((5 * (g1 86 x3)) + 4))) H.1) ?_
          rintro _ hz ⟨_, rfl, rfl, hh⟩
          rw [hh]
          show Ev w Y_X9_fire 85 [some (vR 55), none, some (vI x2), some (vI x3), some (vI (g1 86 x3)), some (vI (g1 79 ((5 * (g1 86 x3)) + 3))), some (vI (g1 79 ((5 * (g1 86 x3)) + 4))), some (vI (g1 60 (g1 79 ((5 * (g1 86 x3)) + 3))))] [vI (b2i (∃ k : Int, 0 ≤ k ∧ k < (sth h21 60 (g1 79 ((5 * (g1 86 x3)) + 3)) (g1 79 ((5 * (g1 86 x3)) + 4))) 70 1 ∧ (sth h21 60 (g1 79 ((5 * (g1 86 x3)) + 3)) (g1 79 ((5 * (g1 86 x3)) + 4))) 82 k = 0 ∧ mBar (sth h21 60 (g1 79 ((5 * (g1 86 x3)) + 3)) (g1 79 ((5 * (g1 86 x3)) + 4))) k))] (sth h21 60 (g1 79 ((5 * (g1 86 x3)) + 3)) (g1 79 ((5 * (g1 86 x3)) + 4))) (rV K)
          have H := H.2
          refine e_ifb_eq (pc := 85) (tgt := 110) dX9_fire_85 (by decide) (fun c2 => ?_) (fun c2 => ?_)
          · have H := H.1 c2
            refine e_aload_n (pc := 110) dX9_fire_110 rfl rfl ?_
            refine e_getR (q := 55) (ci := 9) (k := 6) (y := 61) (C := RX9) (T := TX9) (N := 52) (pc := 111) dX9_fire_111 rfl rfl ev_in9 rfl ul_4_188 ⟨rfl, rfl⟩ rfl ?_
            refine e_iload (pc := 114) dX9_fire_114 rfl ?_
            refine e_sipush (pc := 116) dX9_fire_116 ⟨by decide, by decide⟩ (by decide) ?_
            refine e_iload (pc := 119) dX9_fire_119 rfl ?_
            refine e_iadd (pc := 121) dX9_fire_121 H.1 ?_
            have H := H.2
            refine e_iast (q := 61) (pc := 122) dX9_fire_122 rfl H.1 ?_
            have H := H.2
            refine e_iinc (lv' := [some (vR 55), none, some (vI (x2 + 1)), some (vI x3), some (vI (g1 86 x3)), some (vI (g1 79 ((5 * (g1 86 x3)) + 3))), some (vI (g1 79 ((5 * (g1 86 x3)) + 4))), some (vI (g1 60 (g1 79 ((5 * (g1 86 x3)) + 3))))]) (pc := 123) dX9_fire_123 rfl H.1 rfl rfl ?_
            have H := H.2
            refine e_aload_n (pc := 126) dX9_fire_126 rfl rfl ?_
            refine e_iload (pc := 127) dX9_fire_127 rfl ?_
            refine e_invV (pc := 129) (Y' := Y_X9_wakeBy) (as := [vI (g1 79 ((5 * (g1 86 x3)) + 3))]) (st := []) (lv0 := [some (vR 55), some (vI (g1 79 ((5 * (g1 86 x3)) + 3))), none]) (q := 55) (ci := 9) (T := TX9) (N := 52) dX9_fire_129 m_X9_wakeBy ul_6_27 ⟨ul_6_29, us_X9_wakeBy⟩ ⟨rfl, rfl⟩ rfl rfl rfl rfl rfl rfl rfl (c_X9_wakeBy w (g1 79 ((5 * (g1 86 x3)) + 3)) (sth (sth h21 60 (g1 79 ((5 * (g1 86 x3)) + 3)) (g1 79 ((5 * (g1 86 x3)) + 4))) 61 (g1 79 ((5 * (g1 86 x3)) + 3)) (2000 + (g1 86 x3))) _ H) ?_
            rintro _ h22 ⟨rfl, H⟩
            show Ev w Y_X9_fire 132 [some (vR 55), none, some (vI (x2 + 1)), some (vI x3), some (vI (g1 86 x3)), some (vI (g1 79 ((5 * (g1 86 x3)) + 3))), some (vI (g1 79 ((5 * (g1 86 x3)) + 4))), some (vI (g1 60 (g1 79 ((5 * (g1 86 x3)) + 3))))] [] h22 (rV K)
            refine e_iinc (lv' := [some (vR 55), none, some (vI (x2 + 1)), some (vI (x3 + 1)), some (vI (g1 86 x3)), some (vI (g1 79 ((5 * (g1 86 x3)) + 3))), some (vI (g1 79 ((5 * (g1 86 x3)) + 4))), some (vI (g1 60 (g1 79 ((5 * (g1 86 x3)) + 3))))]) (pc := 132) dX9_fire_132 rfl H.1 rfl rfl ?_
            have H := H.2
            refine e_goto (pc := 135) (tgt := 4) dX9_fire_135 (by decide) ?_
            refine e_mask [true, false, true, true, false, false, false, false] rfl ?_
            obtain ⟨m, hm, H⟩ := H
            exact ih1 m hm _ _ _ H
          · have H := H.2 c2
            refine e_aload_n (pc := 88) dX9_fire_88 rfl rfl ?_
            refine e_getR (q := 55) (ci := 9) (k := 5) (y := 60) (C := RX9) (T := TX9) (N := 52) (pc := 89) dX9_fire_89 rfl rfl ev_in9 rfl ul_4_187 ⟨rfl, rfl⟩ rfl ?_
            refine e_iload (pc := 92) dX9_fire_92 rfl ?_
            refine e_iload (pc := 94) dX9_fire_94 rfl ?_
            refine e_iast (q := 60) (pc := 96) dX9_fire_96 rfl H.1 ?_
            have H := H.2
            refine e_aload_n (pc := 97) dX9_fire_97 rfl rfl ?_
            refine e_dup (pc := 98) dX9_fire_98 rfl ?_
            refine e_getI (q := 55) (ci := 9) (k := 35) (kz := 35) (C := RX9) (T := TX9) (N := 52) (x := (h21 55 35)) (pc := 99) dX9_fire_99 rfl rfl rfl ev_in9 rfl ul_4_217 ⟨rfl, by decide⟩ rfl ?_
            refine e_iconst (pc := 102) dX9_fire_102 ⟨by decide, by decide⟩ ?_
            refine e_iadd (pc := 103) dX9_fire_103 H.1 ?_
            have H := H.2
            refine e_put (q := 55) (ci := 9) (k := 35) (kz := 35) (C := RX9) (T := TX9) (N := 52) (ty := .int) (pc := 104) dX9_fire_104 rfl rfl rfl ev_in9 tyX9 tyX9_ok nmX9 rfl ul_4_217 ⟨rfl, by decide⟩ rfl (tyX9_ok 35 (by decide)) (Or.inl rfl) ?_
            refine e_goto (pc := 107) (tgt := 132) dX9_fire_107 (by decide) ?_
            refine e_iinc (lv' := [some (vR 55), none, some (vI x2), some (vI (x3 + 1)), some (vI (g1 86 x3)), some (vI (g1 79 ((5 * (g1 86 x3)) + 3))), some (vI (g1 79 ((5 * (g1 86 x3)) + 4))), some (vI (g1 60 (g1 79 ((5 * (g1 86 x3)) + 3))))]) (pc := 132) dX9_fire_132 rfl H.1 rfl rfl ?_
            have H := H.2
            refine e_goto (pc := 135) (tgt := 4) dX9_fire_135 (by decide) ?_
            refine e_mask [true, false, true, true, false, false, false, false] rfl ?_
            obtain ⟨m, hm, H⟩ := H
            exact ih1 m hm _ _ _ H
      refine e_icmp_ge (pc := 9) (tgt := 138) dX9_fire_9 (by decide) (fun c3 => ?_) (fun c3 => ?_)
      · exact J1 (Or.inl c3)
      · refine e_iload_n (pc := 12) dX9_fire_12 rfl rfl ?_
        refine e_bipush (pc := 13) dX9_fire_13 ⟨by decide, by decide⟩ (by decide) ?_
        refine e_icmp_ge (pc := 15) (tgt := 138) dX9_fire_15 (by decide) (fun c4 => ?_) (fun c4 => ?_)
        · exact J1 (Or.inr c4)
        · exact J2 (fun z => z.elim c3 c4)
  refine e_iload_n (pc := 0) dX9_fire_0 rfl rfl ?_
  refine e_istore_n (lv' := [some (vR 55), some (vI c0), some (vI c0), none, none, none, none, none]) (pc := 1) dX9_fire_1 rfl rfl rfl ?_
  refine e_iconst (pc := 2) dX9_fire_2 ⟨by decide, by decide⟩ ?_
  refine e_istore_n (lv' := [some (vR 55), some (vI c0), some (vI c0), some (vI 0), none, none, none, none]) (pc := 3) dX9_fire_3 rfl rfl rfl ?_
  refine e_mask [true, false, true, true, false, false, false, false] rfl ?_
  obtain ⟨m, H⟩ := H
  exact L1 m _ _ _ H
set_option maxRecDepth 100000 in
set_option maxHeartbeats 4000000 in
theorem c_X9_fire (w : WD) (c0 : Int) (h : HP) (K : HP → Prop)  (H : S_X9_fire c0 h K) : Ev w Y_X9_fire 0 [some (vR 55), some (vI c0), none, none, none, none, none, none] [] h (rV K) := by
  obtain ⟨L0, ⟨hH, hF, hS, hc0, hl0, hr0, hm0, hb0, hd0⟩, HK⟩ := H
  have h67 := hS.1
  refine v_X9_fire w c0 h K (fun n x2 x3 g => ∃ (k F : Nat) (L : List Int), x3 = (k : Int) ∧ n = (300 - x3).toNat ∧ F + k = 257 ∧ k ≤ L.length ∧ (c0 ≤ x2 ∧ x2 ≤ 30) ∧ (L.length : Int) ≤ 8 + 8 * x2 ∧ frM h g ∧ mHOK g ∧ g 55 47 = (L.length : Int) ∧ rwH (g 86) L ∧ (∀ s : Int, s ∈ L → 0 ≤ s ∧ s < h 55 33) ∧ (h 55 35 ≤ g 55 35 ∧ g 55 35 ≤ h 55 35 + (k : Int)) ∧ firM h 257 0 c0 (h 60) (h 61) (h 55 35) L0 = firM h F k x2 (g 60) (g 61) (g 55 35) L) ⟨300, 0, 257, L0, rfl, rfl, rfl, Nat.zero_le _, by omega, hb0, ⟨fun _ _ _ _ _ _ => rfl, fun _ _ _ => rfl⟩, hH, hl0, hr0, hm0, by omega, rfl⟩ ?_
  rintro n x2 x3 g ⟨k, F, L, rfl, rfl, hFk, hkL, hc, hlen, hfr, hHg, hl, hr, hm, hd, he⟩
  have gq := hfr.1
  rw [hl]
  refine ⟨fun z => ?_, fun z => ?_⟩
  · have e : firM h F k x2 (g 60) (g 61) (g 55 35) L = (g 60, g 61, g 55 35, L) := by
      unfold firM
      exact fir_stop (by rintro ⟨y1, y2⟩; rcases z with z | z <;> omega)
    rw [e] at he
    refine HK _ ⟨fun q a1 a2 a3 a4 a5 => by rw [sth_ne a5]; exact gq q a1 a2 a3 a4 a5, fun i a b => by rw [sth_eq, us_n b]; exact hfr.2 i a b⟩ (mHOK_c (by rw [sth_eq, us_n (by decide)]) (sth_ne (by decide)) (sth_ne (by decide)) (sth_ne (by decide)) (sth_ne (by decide)) (sth_ne (by decide)) hHg) (by rw [sth_eq, us_s]) ⟨(g 60, g 61, g 55 35, L), he.symm, sth_ne (by decide), sth_ne (by decide), by rw [sth_eq, us_n (by decide)]⟩
  · have hk : k < L.length ∧ x2 < 30 := ⟨Classical.byContradiction (fun y => z (Or.inl (by omega))), Classical.byContradiction (fun y => z (Or.inr (by omega)))⟩
    obtain ⟨F, rfl⟩ : ∃ j, F = j + 1 := ⟨F - 1, by omega⟩
    generalize hs : L.getD k 0 = s at *
    have hsm := hm s (by rw [← hs]; exact getD_mem hk.1)
    have hst := hS.2 s hsm.1 hsm.2
    have h10 := hH.1
    have e86 : g 86 (k : Int) = s := by rw [hr k hk.1, hs]
    have g79 : g 79 = h 79 := gq _ (by decide) (by decide) (by decide) (by decide) (by decide)
    have g70 : g 70 = h 70 := gq _ (by decide) (by decide) (by decide) (by decide) (by decide)
    have g71 : g 71 = h 71 := gq _ (by decide) (by decide) (by decide) (by decide) (by decide)
    have g62 : g 62 = h 62 := gq _ (by decide) (by decide) (by decide) (by decide) (by decide)
    have g56 : g 56 = h 56 := gq _ (by decide) (by decide) (by decide) (by decide) (by decide)
    have g0 : g 55 0 = h 55 0 := hfr.2 0 (by decide) (by decide)
    have g33 : g 55 33 = h 55 33 := hfr.2 33 (by decide) (by decide)
    have hfg : mfOK g := by unfold mfOK; rw [g70, g71]; exact hF
    rw [e86, g79]
    generalize ht : h 79 (5 * s + 3) = t at *
    generalize hv : h 79 (5 * s + 4) = v at *
    refine ⟨by omega, ⟨by omega, by omega⟩, ⟨by omega, by omega⟩, by omega, ⟨by omega, by omega⟩, ⟨by omega, by omega⟩, by omega, by omega, fun z1 => ?_, fun z1 => ⟨⟨hfg, hHg⟩, fun h1 f1 f2 => ?_⟩⟩
    · refine ⟨⟨by omega, by omega⟩, (300 - ((k + 1 : Nat) : Int)).toNat, by omega, k + 1, F, L, by omega, by omega, by omega, by omega, hc, hlen, hfr, hHg, rfl, hr, hm, by omega, ?_⟩
      rw [he]
      unfold firM
      exact fir_same hk hs (by rw [ht, hv]; exact z1)
    · have hne : ¬ g 60 (h 79 (5 * s + 3)) = h 79 (5 * s + 4) := by rw [ht, hv]; exact z1
      have a60 : sth h1 60 t v 60 = us (g 60) t v := by rw [sth_eq, f1 60 (by decide)]
      have aq : ∀ q, q ≠ 60 → q ≠ 82 → sth h1 60 t v q = g q := fun q a b => by rw [sth_ne a, f1 q b]
      have hnb : (∃ k : Int, 0 ≤ k ∧ k < sth h1 60 t v 70 1 ∧ sth h1 60 t v 82 k = 0 ∧ mBar (sth h1 60 t v) k) ↔ mNB h (g 60) (us (g 60) t v) := by
        unfold mNB
        have e82 : sth h1 60 t v 82 = h1 82 := sth_ne (by decide)
        have e70 : sth h1 60 t v 70 = h 70 := by rw [aq 70 (by decide) (by decide), g70]
        have q1 : ∀ j : Int, mBar (sth h1 60 t v) j ↔ mBrF h j (us (g 60) t v) := fun j => by
          rw [mBar_F (h := h) (by rw [aq 71 (by decide) (by decide), g71]) (by rw [aq 62 (by decide) (by decide), g62]) (by rw [aq 56 (by decide) (by decide), g56]), a60]
        have q2 : ∀ j : Int, mBar g j ↔ mBrF h j (g 60) := fun j => mBar_F g71 g62 g56
        rw [e82, e70]
        exact ⟨fun ⟨j, a, b, c, d⟩ => ⟨j, a, b, (q1 j).mp d, fun y => by rw [f2 j a (by rw [g70]; exact b), b2i_0] at c; exact c ((q2 j).mpr y)⟩, fun ⟨j, a, b, c, d⟩ => ⟨j, a, b, by rw [f2 j a (by rw [g70]; exact b), b2i_0]; exact fun y => d ((q2 j).mp y), (q1 j).mpr c⟩⟩
      show _ ∧ _
      rw [hnb]
      have hH2 : mHOK (sth h1 60 t v) := mHOK_60 (t := t) (v := v) hHg (by rw [aq 55 (by decide) (by decide)]) (aq _ (by decide) (by decide)) (aq _ (by decide) (by decide)) (aq _ (by decide) (by decide)) (aq _ (by decide) (by decide)) a60 (by omega) hst.2
      refine ⟨by omega, ⟨by unfold mfOK; rw [aq 70 (by decide) (by decide), aq 71 (by decide) (by decide)]; exact hfg, hH2⟩, fun z2 => ?_, fun z2 => ?_⟩
      · have b55 : sth (sth h1 60 t v) 61 t (2000 + s) 55 = g 55 := by rw [sth_ne (by decide)]; exact aq _ (by decide) (by decide)
        have b79 : sth (sth h1 60 t v) 61 t (2000 + s) 79 = h 79 := by rw [sth_ne (by decide), aq _ (by decide) (by decide)]; exact g79
        have b60 : sth (sth h1 60 t v) 61 t (2000 + s) 60 = us (g 60) t v := by rw [sth_ne (by decide)]; exact a60
        have b86 : sth (sth h1 60 t v) 61 t (2000 + s) 86 = g 86 := by rw [sth_ne (by decide)]; exact aq _ (by decide) (by decide)
        refine ⟨⟨by omega, by omega⟩, by omega, ⟨by omega, by omega⟩, L, ⟨by rw [b55, g33]; omega, by omega, by rw [b55]; exact hl, by rw [b86]; exact hr, by omega⟩, fun h2 p1 p2 p3 p4 => ?_⟩
        have ew : wkP (mwk (sth (sth h1 60 t v) 61 t (2000 + s)) t) (sth (sth h1 60 t v) 61 t (2000 + s) 55 33).toNat = wkM h t v := by
          unfold wkM
          rw [b55, g33]
          refine wkP_c (fun i _ _ => ?_)
          unfold mwk
          rw [b79, b60, us_s]
        rw [ew] at p3 p4
        have hwl : (wkM h t v).length ≤ 8 := by have := wkP_l (fun s => h 79 (5 * s) = 1 ∧ h 79 (5 * s + 1) = t ∧ h 79 (5 * s + 2) = v) (h 55 33).toNat; unfold wkM; omega
        have hla := List.length_append (as := L) (bs := wkM h t v)
        have m60 : h2 60 = us (g 60) t v := by rw [p1 60 (by decide) (by decide), b60]
        have m61 : h2 61 = us (g 61) t (2000 + s) := by rw [p1 61 (by decide) (by decide), sth_eq, aq 61 (by decide) (by decide)]
        have mq : ∀ q, q ≠ 60 → q ≠ 61 → q ≠ 82 → q ≠ 86 → q ≠ 55 → h2 q = g q := fun q a1 a2 a3 a4 a5 => by rw [p1 q a4 a5, sth_ne a2, aq q a1 a3]
        have m35 : h2 55 35 = g 55 35 := by rw [p2 35 (by decide), b55]
        refine ⟨⟨by omega, by omega⟩, (300 - ((k + 1 : Nat) : Int)).toNat, by omega, k + 1, F, L ++ wkM h t v, by omega, by omega, by omega, by omega, by omega, by omega, ⟨fun q a1 a2 a3 a4 a5 => by rw [mq q a1 a2 a3 a4 a5]; exact gq q a1 a2 a3 a4 a5, fun i a b => by rw [p2 i b, b55]; exact hfr.2 i a b⟩, mHOK_60 (t := t) (v := v) hHg (by rw [p2 0 (by decide), b55]) (mq _ (by decide) (by decide) (by decide) (by decide) (by decide)) (mq _ (by decide) (by decide) (by decide) (by decide) (by decide)) (mq _ (by decide) (by decide) (by decide) (by decide) (by decide)) (mq _ (by decide) (by decide) (by decide) (by decide) (by decide)) m60 (by omega) hst.2, p3, p4, ?_, by omega, ?_⟩
        · intro s' hs'
          rw [List.mem_append] at hs'
          rcases hs' with y | y
          · exact hm s' y
          · have := (wkP_m _ _ _ y).1; omega
        · have e := fir_go (TN := fun s => h 79 (5 * s + 3)) (IN := fun s => h 79 (5 * s + 4)) (wk := wkM h) (NB := mNB h) (F := F) (r := g 61) (hd := g 55 35) hk hs hne (by show ¬ mNB h (g 60) (us (g 60) (h 79 (5 * s + 3)) (h 79 (5 * s + 4))); rw [ht, hv]; exact z2)
          rw [he, m60, m61, m35]
          unfold firM
          rw [e]
          show fir _ _ _ _ _ _ _ (us (g 60) (h 79 (5 * s + 3)) (h 79 (5 * s + 4))) (us (g 61) (h 79 (5 * s + 3)) (2000 + s)) _ (L ++ wkM h (h 79 (5 * s + 3)) (h 79 (5 * s + 4))) = _
          rw [ht, hv]
      · have c55 : h1 55 = g 55 := f1 55 (by decide)
        have c60 : sth (sth (sth h1 60 t v) 60 t (g 60 t)) 55 35 (h1 55 35 + 1) 60 = g 60 := by rw [sth_ne (by decide), sth_eq, a60, us_back]
        have cq : ∀ q, q ≠ 60 → q ≠ 82 → q ≠ 55 → sth (sth (sth h1 60 t v) 60 t (g 60 t)) 55 35 (h1 55 35 + 1) q = g q := fun q a b c => by rw [sth_ne c, sth_ne a, aq q a b]
        have c5 : sth (sth (sth h1 60 t v) 60 t (g 60 t)) 55 35 (h1 55 35 + 1) 55 = us (g 55) 35 (g 55 35 + 1) := by rw [sth_eq, sth_ne (by decide), aq 55 (by decide) (by decide), c55]
        refine ⟨by omega, by rw [c55]; exact ⟨by omega, by omega⟩, ⟨by omega, by omega⟩, (300 - ((k + 1 : Nat) : Int)).toNat, by omega, k + 1, F, L, by omega, by omega, by omega, by omega, hc, hlen, ⟨fun q a1 a2 a3 a4 a5 => by rw [cq q a1 a3 a5]; exact gq q a1 a2 a3 a4 a5, fun i a b => by rw [c5, us_n a]; exact hfr.2 i a b⟩, mHOK_c (by rw [c5, us_n (by decide)]) (cq _ (by decide) (by decide) (by decide)) (cq _ (by decide) (by decide) (by decide)) (cq _ (by decide) (by decide) (by decide)) c60 (cq _ (by decide) (by decide) (by decide)) hHg, by rw [c5, us_n (by decide)]; exact hl, by rw [cq 86 (by decide) (by decide) (by decide)]; exact hr, hm, by rw [c5, us_s]; omega, ?_⟩
        have e := fir_bar (TN := fun s => h 79 (5 * s + 3)) (IN := fun s => h 79 (5 * s + 4)) (wk := wkM h) (NB := mNB h) (F := F) (r := g 61) (hd := g 55 35) hk hs hne (by show mNB h (g 60) (us (g 60) (h 79 (5 * s + 3)) (h 79 (5 * s + 4))); rw [ht, hv]; exact z2)
        rw [he, c60, cq 61 (by decide) (by decide) (by decide), c5, us_s]
        exact e
