/-! the reference: meant, outcomes, open, asked, answered -/
theorem cif_n {p : Prop} {a b : Int} : cif (¬ p) a b = cif p b a := by
  by_cases c : p
  · rw [cif_t c, cif_f (fun z => z c)]
  · rw [cif_f c, cif_t c]
theorem ior_0 {x : Int} (hx : 0 ≤ x ∧ x < 2147483648) : ior x 0 = x := by
  obtain ⟨a, rfl⟩ : ∃ a : Nat, x = (a : Int) := ⟨x.toNat, by omega⟩
  rw [show (0 : Int) = ((0 : Nat) : Int) from rfl, ior_n (by omega) (by decide), Nat.or_zero]
theorem cif_max {a b : Int} : cif (a ≤ b) b a = max b a := by
  by_cases c : a ≤ b
  · rw [cif_t c]; omega
  · rw [cif_f c]; omega
def mnP (h : HP) (a b c : Int) : Prop := (0 ≤ a ∧ a < 16) ∧ (0 ≤ b ∧ b < 16) ∧ c < 16 ∧ (0 ≤ h 55 21 ∧ h 55 21 < 6) ∧ (0 ≤ h 55 28 ∧ h 55 28 < 1024)
def mnQ (h : HP) (a b c t : Int) : Prop := t < h 55 0 ∧ ((¬ h 64 b = 3 ∧ h 57 t = h 65 b ∧ h 56 t = cif (0 ≤ c) (h 65 c) (h 62 (h 55 21))) ∨ (h 64 b = 3 ∧ mem (h 55 28) t)) ∧ h 65 a ≤ top (h 57 t)
noncomputable def mnS (h : HP) (a b c : Int) : Int := bset (mnQ h a b c) 10
theorem mnV {p0 p1 p2 p3 p4 : Prop} {x s : Int} : cif ((cif (¬ p0) (cif (¬ p1) 0 (cif (¬ p2) 0 1)) (b2i p3)) = 0) 0 (cif p4 0 s) = cif (((¬ p0 ∧ p1 ∧ p2) ∨ (p0 ∧ p3)) ∧ ¬ p4) s 0 := by
  by_cases c0 : p0
  · rw [cif_f (show ¬ ¬ p0 from fun z => z c0)]
    by_cases c3 : p3
    · rw [b2i_t c3, cif_f (show ¬ (1 : Int) = 0 by decide)]
      by_cases c4 : p4
      · rw [cif_t c4, cif_f (show ¬ (((¬ p0 ∧ p1 ∧ p2) ∨ (p0 ∧ p3)) ∧ ¬ p4) from fun z => z.2 c4)]
      · rw [cif_f c4, cif_t ⟨Or.inr ⟨c0, c3⟩, c4⟩]
    · rw [b2i_f c3, cif_t (show (0 : Int) = 0 from rfl), cif_f (show ¬ (((¬ p0 ∧ p1 ∧ p2) ∨ (p0 ∧ p3)) ∧ ¬ p4) from fun z => by rcases z.1 with y | y; exact y.1 c0; exact c3 y.2)]
  · rw [cif_t c0]
    by_cases c1 : p1
    · rw [cif_f (show ¬ ¬ p1 from fun z => z c1)]
      by_cases c2 : p2
      · rw [cif_f (show ¬ ¬ p2 from fun z => z c2), cif_f (show ¬ (1 : Int) = 0 by decide)]
        by_cases c4 : p4
        · rw [cif_t c4, cif_f (show ¬ (((¬ p0 ∧ p1 ∧ p2) ∨ (p0 ∧ p3)) ∧ ¬ p4) from fun z => z.2 c4)]
        · rw [cif_f c4, cif_t ⟨Or.inl ⟨c0, c1, c2⟩, c4⟩]
      · rw [cif_t c2, cif_t (show (0 : Int) = 0 from rfl), cif_f (show ¬ (((¬ p0 ∧ p1 ∧ p2) ∨ (p0 ∧ p3)) ∧ ¬ p4) from fun z => by rcases z.1 with y | y; exact c2 y.2.2; exact c0 y.1)]
    · rw [cif_t c1, cif_t (show (0 : Int) = 0 from rfl), cif_f (show ¬ (((¬ p0 ∧ p1 ∧ p2) ∨ (p0 ∧ p3)) ∧ ¬ p4) from fun z => by rcases z.1 with y | y; exact c1 y.2.1; exact c0 y.1)]
set_option maxRecDepth 100000 in
set_option maxHeartbeats 4000000 in
theorem v_X9_meaning (w : WD) (a : Int) (b : Int) (c : Int) (h : HP) (K : Int → HP → Prop) 
    (I1 : Nat → Int → Int → Int → HP → Prop)
    (H : ((((0 ≤ c → ((0 ≤ c ∧ c < 16) ∧ True)) ∧ (¬ 0 ≤ c → ((0 ≤ (h 55 21) ∧ (h 55 21) < 6) ∧ True)))) ∧ (∃ m : Nat, I1 m (cif (0 ≤ c) (h 65 c) (h 62 (h 55 21))) 0 0 h)))
    (H1 : ∀ (n1 : Nat) (x4 : Int) (x5 : Int) (x6 : Int) (g1 : HP), I1 n1 x4 x5 x6 g1 → (((g1 55 0) ≤ x6 → K x5 g1) ∧ (¬ (g1 55 0) ≤ x6 → ((0 ≤ b ∧ b < 16) ∧ ((((¬ (g1 64 b) = 3 → ((0 ≤ x6 ∧ x6 < 10) ∧ ((0 ≤ b ∧ b < 16) ∧ ((¬ (g1 57 x6) = (g1 65 b) → True) ∧ ((g1 57 x6) = (g1 65 b) → ((0 ≤ x6 ∧ x6 < 10) ∧ True)))))) ∧ ((g1 64 b) = 3 → ((inB (g1 55 28) x6) ∧ True)))) ∧ (((((cif (¬ (g1 64 b) = 3) (cif (¬ (g1 57 x6) = (g1 65 b)) 0 (cif (¬ (g1 56 x6) = x4) 0 1)) (b2i (mem (g1 55 28) x6))) = 0 → True) ∧ (¬ (cif (¬ (g1 64 b) = 3) (cif (¬ (g1 57 x6) = (g1 65 b)) 0 (cif (¬ (g1 56 x6) = x4) 0 1)) (b2i (mem (g1 55 28) x6))) = 0 → ((0 ≤ a ∧ a < 16) ∧ ((0 ≤ x6 ∧ x6 < 10) ∧ True))))) ∧ ((iR (x6 + 1)) ∧ (∃ m : Nat, m < n1 ∧ I1 m x4 (ior x5 (cif ((cif (¬ (g1 64 b) = 3) (cif (¬ (g1 57 x6) = (g1 65 b)) 0 (cif (¬ (g1 56 x6) = x4) 0 1)) (b2i (mem (g1 55 28) x6))) = 0) 0 (cif ((top (g1 57 x6)) < (g1 65 a)) 0 (ishl 1 x6)))) (x6 + 1) g1)))))))) :
    Ev w Y_X9_meaning 0 [some (vR 55), some (vI a), some (vI b), some (vI c), none, none, none, none] [] h (rI K) := by
  have L1 : ∀ (n1 : Nat) (x4 : Int) (x5 : Int) (x6 : Int) (g1 : HP), I1 n1 x4 x5 x6 g1 → Ev w Y_X9_meaning 30 [some (vR 55), some (vI a), some (vI b), none, some (vI x4), some (vI x5), some (vI x6), none] [] g1 (rI K) := by
    intro n1
    induction n1 using Nat.strongRecOn with
    | ind n1 ih1 =>
      intro x4 x5 x6 g1 H
      have H := H1 n1 x4 x5 x6 g1 H
      refine e_iload (pc := 30) dX9_meaning_30 rfl ?_
      refine e_aload_n (pc := 32) dX9_meaning_32 rfl rfl ?_
      refine e_getI (q := 55) (ci := 9) (k := 0) (kz := 0) (C := RX9) (T := TX9) (N := 52) (x := (g1 55 0)) (pc := 33) dX9_meaning_33 rfl rfl rfl ev_in9 rfl ul_4_182 ⟨rfl, by decide⟩ rfl ?_
      refine e_icmp_ge (pc := 36) (tgt := 139) dX9_meaning_36 (by decide) (fun c2 => ?_) (fun c2 => ?_)
      · have H := H.1 c2
        refine e_iload (pc := 139) dX9_meaning_139 rfl ?_
        exact e_ret (pc := 141) (v := some (vI x5)) dX9_meaning_141 rfl trivial ⟨_, rfl, H⟩
      · have H := H.2 c2
        refine e_aload_n (pc := 39) dX9_meaning_39 rfl rfl ?_
        refine e_getR (q := 55) (ci := 9) (k := 11) (y := 64) (C := RX9) (T := TX9) (N := 52) (pc := 40) dX9_meaning_40 rfl rfl ev_in9 rfl ul_4_193 ⟨rfl, rfl⟩ rfl ?_
        refine e_iload_n (pc := 43) dX9_meaning_43 rfl rfl ?_
        refine e_iald (q := 64) (x := (g1 64 b)) (pc := 44) dX9_meaning_44 rfl H.1 rfl ?_
        have H := H.2
        refine e_iconst (pc := 45) dX9_meaning_45 ⟨by decide, by decide⟩ ?_
        have J : Ev w Y_X9_meaning 94 [some (vR 55), some (vI a), some (vI b), none, some (vI x4), some (vI x5), some (vI x6), none] [vI (cif (¬ (g1 64 b) = 3) (cif (¬ (g1 57 x6) = (g1 65 b)) 0 (cif (¬ (g1 56 x6) = x4) 0 1)) (b2i (mem (g1 55 28) x6)))] g1 (rI K) := by
          have H := H.2
          refine e_istore (lv' := [some (vR 55), some (vI a), some (vI b), none, some (vI x4), some (vI x5), some (vI x6), some (vI (cif (¬ (g1 64 b) = 3) (cif (¬ (g1 57 x6) = (g1 65 b)) 0 (cif (¬ (g1 56 x6) = x4) 0 1)) (b2i (mem (g1 55 28) x6))))]) (pc := 94) dX9_meaning_94 rfl rfl ?_
          refine e_iload (pc := 96) dX9_meaning_96 rfl ?_
          refine e_iload (pc := 98) dX9_meaning_98 rfl ?_
          have J : Ev w Y_X9_meaning 130 [some (vR 55), some (vI a), some (vI b), none, some (vI x4), some (vI x5), some (vI x6), some (vI (cif (¬ (g1 64 b) = 3) (cif (¬ (g1 57 x6) = (g1 65 b)) 0 (cif (¬ (g1 56 x6) = x4) 0 1)) (b2i (mem (g1 55 28) x6))))] [vI (cif ((cif (¬ (g1 64 b) = 3) (cif (¬ (g1 57 x6) = (g1 65 b)) 0 (cif (¬ (g1 56 x6) = x4) 0 1)) (b2i (mem (g1 55 28) x6))) = 0) 0 (cif ((top (g1 57 x6)) < (g1 65 a)) 0 (ishl 1 x6))), vI x5] g1 (rI K) := by
            have H := H.2
            refine e_ior (pc := 130) dX9_meaning_130 ?_
            refine e_istore (lv' := [some (vR 55), some (vI a), some (vI b), none, some (vI x4), some (vI (ior x5 (cif ((cif (¬ (g1 64 b) = 3) (cif (¬ (g1 57 x6) = (g1 65 b)) 0 (cif (¬ (g1 56 x6) = x4) 0 1)) (b2i (mem (g1 55 28) x6))) = 0) 0 (cif ((top (g1 57 x6)) < (g1 65 a)) 0 (ishl 1 x6))))), some (vI x6), some (vI (cif (¬ (g1 64 b) = 3) (cif (¬ (g1 57 x6) = (g1 65 b)) 0 (cif (¬ (g1 56 x6) = x4) 0 1)) (b2i (mem (g1 55 28) x6))))]) (pc := 131) dX9_meaning_131 rfl rfl ?_
            refine e_iinc (lv' := [some (vR 55), some (vI a), some (vI b), none, some (vI x4), some (vI (ior x5 (cif ((cif (¬ (g1 64 b) = 3) (cif (¬ (g1 57 x6) = (g1 65 b)) 0 (cif (¬ (g1 56 x6) = x4) 0 1)) (b2i (mem (g1 55 28) x6))) = 0) 0 (cif ((top (g1 57 x6)) < (g1 65 a)) 0 (ishl 1 x6))))), some (vI (x6 + 1)), some (vI (cif (¬ (g1 64 b) = 3) (cif (¬ (g1 57 x6) = (g1 65 b)) 0 (cif (¬ (g1 56 x6) = x4) 0 1)) (b2i (mem (g1 55 28) x6))))]) (pc := 133) dX9_meaning_133 rfl H.1 rfl rfl ?_
            have H := H.2
            refine e_goto (pc := 136) (tgt := 30) dX9_meaning_136 (by decide) ?_
            refine e_mask [true, true, true, false, true, true, true, false] rfl ?_
            obtain ⟨m, hm, H⟩ := H
            exact ih1 m hm _ _ _ _ H
          have Ho := H.1
          refine e_if_eq (pc := 100) (tgt := 129) dX9_meaning_100 (by decide) (fun c3 => ?_) (fun c3 => ?_)
          · have Ho := Ho.1 c3
            refine e_iconst (pc := 129) dX9_meaning_129 ⟨by decide, by decide⟩ ?_
            exact e_top (cif_t c3) J
          · have Ho := Ho.2 c3
            refine e_aload_n (pc := 103) dX9_meaning_103 rfl rfl ?_
            refine e_getR (q := 55) (ci := 9) (k := 12) (y := 65) (C := RX9) (T := TX9) (N := 52) (pc := 104) dX9_meaning_104 rfl rfl ev_in9 rfl ul_4_194 ⟨rfl, rfl⟩ rfl ?_
            refine e_iload_n (pc := 107) dX9_meaning_107 rfl rfl ?_
            refine e_iald (q := 65) (x := (g1 65 a)) (pc := 108) dX9_meaning_108 rfl Ho.1 rfl ?_
            have Ho := Ho.2
            refine e_aload_n (pc := 109) dX9_meaning_109 rfl rfl ?_
            refine e_getR (q := 55) (ci := 9) (k := 2) (y := 57) (C := RX9) (T := TX9) (N := 52) (pc := 110) dX9_meaning_110 rfl rfl ev_in9 rfl ul_4_184 ⟨rfl, rfl⟩ rfl ?_
            refine e_iload (pc := 113) dX9_meaning_113 rfl ?_
            refine e_iald (q := 57) (x := (g1 57 x6)) (pc := 115) dX9_meaning_115 rfl Ho.1 rfl ?_
            have Ho := Ho.2
            refine e_invS (pc := 116) (Y' := Y_X9_greatest) (as := [vI (g1 57 x6)]) (st := [vI (g1 65 a), vI x5]) (lv0 := [some (vI (g1 57 x6))]) dX9_meaning_116 m_X9_greatest ul_5_224 ul_5_225 ⟨rfl, rfl⟩ rfl rfl rfl rfl rfl (c_X9_greatest w (g1 57 x6) g1) ?_
            rintro _ hz ⟨_, rfl, rfl, hh⟩
            rw [hh]
            show Ev w Y_X9_meaning 119 [some (vR 55), some (vI a), some (vI b), none, some (vI x4), some (vI x5), some (vI x6), some (vI (cif (¬ (g1 64 b) = 3) (cif (¬ (g1 57 x6) = (g1 65 b)) 0 (cif (¬ (g1 56 x6) = x4) 0 1)) (b2i (mem (g1 55 28) x6))))] [vI (top (g1 57 x6)), vI (g1 65 a), vI x5] g1 (rI K)
            refine e_icmp_gt (pc := 119) (tgt := 129) dX9_meaning_119 (by decide) (fun c4 => ?_) (fun c4 => ?_)
            · refine e_iconst (pc := 129) dX9_meaning_129 ⟨by decide, by decide⟩ ?_
              exact e_top ((cif_f c3).trans (cif_t c4)) J
            · refine e_iconst (pc := 122) dX9_meaning_122 ⟨by decide, by decide⟩ ?_
              refine e_iload (pc := 123) dX9_meaning_123 rfl ?_
              refine e_ishl (pc := 125) dX9_meaning_125 ?_
              refine e_goto (pc := 126) (tgt := 130) dX9_meaning_126 (by decide) ?_
              exact e_top ((cif_f c3).trans (cif_f c4)) J
        have Ho := H.1
        refine e_icmp_ne (pc := 46) (tgt := 61) dX9_meaning_46 (by decide) (fun c5 => ?_) (fun c5 => ?_)
        · have Ho := Ho.1 c5
          refine e_aload_n (pc := 61) dX9_meaning_61 rfl rfl ?_
          refine e_getR (q := 55) (ci := 9) (k := 2) (y := 57) (C := RX9) (T := TX9) (N := 52) (pc := 62) dX9_meaning_62 rfl rfl ev_in9 rfl ul_4_184 ⟨rfl, rfl⟩ rfl ?_
          refine e_iload (pc := 65) dX9_meaning_65 rfl ?_
          refine e_iald (q := 57) (x := (g1 57 x6)) (pc := 67) dX9_meaning_67 rfl Ho.1 rfl ?_
          have Ho := Ho.2
          refine e_aload_n (pc := 68) dX9_meaning_68 rfl rfl ?_
          refine e_getR (q := 55) (ci := 9) (k := 12) (y := 65) (C := RX9) (T := TX9) (N := 52) (pc := 69) dX9_meaning_69 rfl rfl ev_in9 rfl ul_4_194 ⟨rfl, rfl⟩ rfl ?_
          refine e_iload_n (pc := 72) dX9_meaning_72 rfl rfl ?_
          refine e_iald (q := 65) (x := (g1 65 b)) (pc := 73) dX9_meaning_73 rfl Ho.1 rfl ?_
          have Ho := Ho.2
          refine e_icmp_ne (pc := 74) (tgt := 93) dX9_meaning_74 (by decide) (fun c6 => ?_) (fun c6 => ?_)
          · have Ho := Ho.1 c6
            refine e_iconst (pc := 93) dX9_meaning_93 ⟨by decide, by decide⟩ ?_
            exact e_top ((cif_t c5).trans (cif_t c6)) J
          · have Ho := Ho.2 c6
            refine e_aload_n (pc := 77) dX9_meaning_77 rfl rfl ?_
            refine e_getR (q := 55) (ci := 9) (k := 1) (y := 56) (C := RX9) (T := TX9) (N := 52) (pc := 78) dX9_meaning_78 rfl rfl ev_in9 rfl ul_4_183 ⟨rfl, rfl⟩ rfl ?_
            refine e_iload (pc := 81) dX9_meaning_81 rfl ?_
            refine e_iald (q := 56) (x := (g1 56 x6)) (pc := 83) dX9_meaning_83 rfl Ho.1 rfl ?_
            have Ho := Ho.2
            refine e_iload (pc := 84) dX9_meaning_84 rfl ?_
            refine e_icmp_ne (pc := 86) (tgt := 93) dX9_meaning_86 (by decide) (fun c7 => ?_) (fun c7 => ?_)
            · refine e_iconst (pc := 93) dX9_meaning_93 ⟨by decide, by decide⟩ ?_
              exact e_top ((cif_t c5).trans ((cif_f (fun z => z c6)).trans (cif_t c7))) J
            · refine e_iconst (pc := 89) dX9_meaning_89 ⟨by decide, by decide⟩ ?_
              refine e_goto (pc := 90) (tgt := 94) dX9_meaning_90 (by decide) ?_
              exact e_top ((cif_t c5).trans ((cif_f (fun z => z c6)).trans (cif_f (fun z => z c7)))) J
        · have Ho := Ho.2 c5
          refine e_aload_n (pc := 49) dX9_meaning_49 rfl rfl ?_
          refine e_getI (q := 55) (ci := 9) (k := 28) (kz := 28) (C := RX9) (T := TX9) (N := 52) (x := (g1 55 28)) (pc := 50) dX9_meaning_50 rfl rfl rfl ev_in9 rfl ul_4_210 ⟨rfl, by decide⟩ rfl ?_
          refine e_iload (pc := 53) dX9_meaning_53 rfl ?_
          refine e_invS (pc := 55) (Y' := Y_X9_has) (as := [vI (g1 55 28), vI x6]) (st := []) (lv0 := [some (vI (g1 55 28)), some (vI x6)]) dX9_meaning_55 m_X9_has ul_5_221 ul_5_222 ⟨rfl, rfl⟩ rfl rfl rfl rfl rfl (c_X9_has w (g1 55 28) x6 g1 Ho.1) ?_
          rintro _ hz ⟨_, rfl, rfl, hh⟩
          rw [hh]
          show Ev w Y_X9_meaning 58 [some (vR 55), some (vI a), some (vI b), none, some (vI x4), some (vI x5), some (vI x6), none] [vI (b2i (mem (g1 55 28) x6))] g1 (rI K)
          have Ho := Ho.2
          refine e_goto (pc := 58) (tgt := 94) dX9_meaning_58 (by decide) ?_
          exact e_top (cif_f (fun z => z c5)) J
  refine e_iload_n (pc := 0) dX9_meaning_0 rfl rfl ?_
  have J : Ev w Y_X9_meaning 22 [some (vR 55), some (vI a), some (vI b), some (vI c), none, none, none, none] [vI (cif (0 ≤ c) (h 65 c) (h 62 (h 55 21)))] h (rI K) := by
    have H := H.2
    refine e_istore (lv' := [some (vR 55), some (vI a), some (vI b), some (vI c), some (vI (cif (0 ≤ c) (h 65 c) (h 62 (h 55 21)))), none, none, none]) (pc := 22) dX9_meaning_22 rfl rfl ?_
    refine e_iconst (pc := 24) dX9_meaning_24 ⟨by decide, by decide⟩ ?_
    refine e_istore (lv' := [some (vR 55), some (vI a), some (vI b), some (vI c), some (vI (cif (0 ≤ c) (h 65 c) (h 62 (h 55 21)))), some (vI 0), none, none]) (pc := 25) dX9_meaning_25 rfl rfl ?_
    refine e_iconst (pc := 27) dX9_meaning_27 ⟨by decide, by decide⟩ ?_
    refine e_istore (lv' := [some (vR 55), some (vI a), some (vI b), some (vI c), some (vI (cif (0 ≤ c) (h 65 c) (h 62 (h 55 21)))), some (vI 0), some (vI 0), none]) (pc := 28) dX9_meaning_28 rfl rfl ?_
    refine e_mask [true, true, true, false, true, true, true, false] rfl ?_
    obtain ⟨m, H⟩ := H
    exact L1 m _ _ _ _ H
  have Ho := H.1
  refine e_if_ge (pc := 1) (tgt := 16) dX9_meaning_1 (by decide) (fun c1 => ?_) (fun c1 => ?_)
  · have Ho := Ho.1 c1
    refine e_aload_n (pc := 16) dX9_meaning_16 rfl rfl ?_
    refine e_getR (q := 55) (ci := 9) (k := 12) (y := 65) (C := RX9) (T := TX9) (N := 52) (pc := 17) dX9_meaning_17 rfl rfl ev_in9 rfl ul_4_194 ⟨rfl, rfl⟩ rfl ?_
    refine e_iload_n (pc := 20) dX9_meaning_20 rfl rfl ?_
    refine e_iald (q := 65) (x := (h 65 c)) (pc := 21) dX9_meaning_21 rfl Ho.1 rfl ?_
    have Ho := Ho.2
    exact e_top (cif_t c1) J
  · have Ho := Ho.2 c1
    refine e_aload_n (pc := 4) dX9_meaning_4 rfl rfl ?_
    refine e_getR (q := 55) (ci := 9) (k := 7) (y := 62) (C := RX9) (T := TX9) (N := 52) (pc := 5) dX9_meaning_5 rfl rfl ev_in9 rfl ul_4_189 ⟨rfl, rfl⟩ rfl ?_
    refine e_aload_n (pc := 8) dX9_meaning_8 rfl rfl ?_
    refine e_getI (q := 55) (ci := 9) (k := 21) (kz := 21) (C := RX9) (T := TX9) (N := 52) (x := (h 55 21)) (pc := 9) dX9_meaning_9 rfl rfl rfl ev_in9 rfl ul_4_203 ⟨rfl, by decide⟩ rfl ?_
    refine e_iald (q := 62) (x := (h 62 (h 55 21))) (pc := 12) dX9_meaning_12 rfl Ho.1 rfl ?_
    have Ho := Ho.2
    refine e_goto (pc := 13) (tgt := 22) dX9_meaning_13 (by decide) ?_
    exact e_top (cif_f c1) J
set_option maxRecDepth 100000 in
set_option maxHeartbeats 4000000 in
theorem c_X9_meaning (w : WD) (a : Int) (b : Int) (c : Int) (h : HP) (H : mHOK h ∧ mnP h a b c) : Ev w Y_X9_meaning 0 [some (vR 55), some (vI a), some (vI b), some (vI c), none, none, none, none] [] h (rI (fun r h' => r = (mnS h a b c) ∧ h' = h)) := by
  obtain ⟨hH, ha, hb, hc, h21, h28⟩ := H
  have h10 := hH.1
  refine v_X9_meaning w a b c h _ (fun n x4 x5 x6 g => g = h ∧ x4 = cif (0 ≤ c) (h 65 c) (h 62 (h 55 21)) ∧ (0 ≤ x6 ∧ x6 ≤ h 55 0) ∧ n = (10 - x6).toNat ∧ x5 = bset (mnQ h a b c) x6.toNat) ⟨⟨fun _ => ⟨by omega, trivial⟩, fun _ => ⟨by omega, trivial⟩⟩, 10, rfl, rfl, by omega, rfl, rfl⟩ ?_
  rintro n x4 x5 x6 g ⟨rfl, rfl, h0, rfl, rfl⟩
  refine ⟨fun z => ⟨(bset_past (by omega) (fun i p q y => by have := y.1; omega)).symm, rfl⟩, fun z => ⟨hb, ⟨fun _ => ⟨by omega, hb, fun _ => trivial, fun _ => ⟨by omega, trivial⟩⟩, fun _ => ⟨⟨by omega, by omega⟩, trivial⟩⟩, ⟨fun _ => trivial, fun _ => ⟨ha, by omega, trivial⟩⟩, ⟨by omega, by omega⟩, (10 - (x6 + 1)).toNat, by omega, rfl, rfl, by omega, rfl, ?_⟩⟩
  rw [mnV (x := 0)]
  by_cases q : mnQ g a b c x6
  · rw [cif_t ⟨q.2.1, by have := q.2.2; omega⟩]
    exact bset_next h0.1 (by omega) q
  · rw [cif_f (fun y => q ⟨by omega, y.1, by have := y.2; omega⟩), ior_0 (bset_R (by omega))]
    exact bset_skip h0.1 q
def mEOK (h : HP) : Prop := (0 ≤ h 55 23 ∧ h 55 23 ≤ 12) ∧ (0 ≤ h 55 21 ∧ h 55 21 ≤ 5) ∧ (∀ i : Int, 0 ≤ i → i < 12 → (0 ≤ h 74 i ∧ h 74 i < 1024) ∧ (h 75 i = 0 ∨ h 75 i = 1)) ∧ ∀ i : Int, 0 ≤ i → i < h 55 23 → 0 ≤ h 73 (3 * i) ∧ h 73 (3 * i) < h 55 10 ∧ h 64 (h 73 (3 * i)) = 0
noncomputable def ouF (h : HP) (i t : Int) : Int := cif (mem (h 74 i) t) (h 65 (h 73 (3 * i))) (h 60 t)
noncomputable def oucM (h : HP) (i : Int) : Int := pack (ouF h i) (h 55 0).toNat
theorem ouF_3 {h : HP} {i : Int} (hH : mHOK h) (hV : mVOK h) (hE : mEOK h) (hi : 0 ≤ i ∧ i < h 55 23) {k : Nat} (hk : (k : Int) ≤ 10) : in3 (ouF h i) k := fun t a b => by
  have hw := hE.2.2.2 i hi.1 hi.2
  have hn := hV.2.1 _ hw.1 hw.2.1
  have hs := (hH.2.1 t a (by omega)).2.2.2
  unfold ouF
  by_cases c : mem (h 74 i) t
  · rw [cif_t c]; exact ⟨hn.2.1.1, hn.2.2.1 hw.2.2⟩
  · rw [cif_f c]; exact hs
set_option maxRecDepth 100000 in
set_option maxHeartbeats 4000000 in
theorem v_X9_outcome (w : WD) (i : Int) (h : HP) (K : Int → HP → Prop) 
    (I1 : Nat → Int → Int → HP → Prop)
    (H : (∃ m : Nat, I1 m 0 0 h))
    (H1 : ∀ (n1 : Nat) (x2 : Int) (x3 : Int) (g1 : HP), I1 n1 x2 x3 g1 → (((g1 55 0) ≤ x3 → K x2 g1) ∧ (¬ (g1 55 0) ≤ x3 → ((0 ≤ i ∧ i < 12) ∧ ((inB (g1 74 i) x3) ∧ ((((¬ (mem (g1 74 i) x3) → ((0 ≤ x3 ∧ x3 < 10) ∧ True)) ∧ ((mem (g1 74 i) x3) → ((iR (3 * i)) ∧ ((0 ≤ (3 * i) ∧ (3 * i) < 36) ∧ ((0 ≤ (g1 73 (3 * i)) ∧ (g1 73 (3 * i)) < 16) ∧ True)))))) ∧ ((iR (2 * x3)) ∧ ((iR (x3 + 1)) ∧ (∃ m : Nat, m < n1 ∧ I1 m (ior x2 (ishl (cif (¬ (mem (g1 74 i) x3)) (g1 60 x3) (g1 65 (g1 73 (3 * i)))) (2 * x3))) (x3 + 1) g1))))))))) :
    Ev w Y_X9_outcome 0 [some (vR 55), some (vI i), none, none] [] h (rI K) := by
  have L1 : ∀ (n1 : Nat) (x2 : Int) (x3 : Int) (g1 : HP), I1 n1 x2 x3 g1 → Ev w Y_X9_outcome 4 [some (vR 55), some (vI i), some (vI x2), some (vI x3)] [] g1 (rI K) := by
    intro n1
    induction n1 using Nat.strongRecOn with
    | ind n1 ih1 =>
      intro x2 x3 g1 H
      have H := H1 n1 x2 x3 g1 H
      refine e_iload_n (pc := 4) dX9_outcome_4 rfl rfl ?_
      refine e_aload_n (pc := 5) dX9_outcome_5 rfl rfl ?_
      refine e_getI (q := 55) (ci := 9) (k := 0) (kz := 0) (C := RX9) (T := TX9) (N := 52) (x := (g1 55 0)) (pc := 6) dX9_outcome_6 rfl rfl rfl ev_in9 rfl ul_4_182 ⟨rfl, by decide⟩ rfl ?_
      refine e_icmp_ge (pc := 9) (tgt := 60) dX9_outcome_9 (by decide) (fun c1 => ?_) (fun c1 => ?_)
      · have H := H.1 c1
        refine e_iload_n (pc := 60) dX9_outcome_60 rfl rfl ?_
        exact e_ret (pc := 61) (v := some (vI x2)) dX9_outcome_61 rfl trivial ⟨_, rfl, H⟩
      · have H := H.2 c1
        refine e_iload_n (pc := 12) dX9_outcome_12 rfl rfl ?_
        refine e_aload_n (pc := 13) dX9_outcome_13 rfl rfl ?_
        refine e_getR (q := 55) (ci := 9) (k := 26) (y := 74) (C := RX9) (T := TX9) (N := 52) (pc := 14) dX9_outcome_14 rfl rfl ev_in9 rfl ul_4_208 ⟨rfl, rfl⟩ rfl ?_
        refine e_iload_n (pc := 17) dX9_outcome_17 rfl rfl ?_
        refine e_iald (q := 74) (x := (g1 74 i)) (pc := 18) dX9_outcome_18 rfl H.1 rfl ?_
        have H := H.2
        refine e_iload_n (pc := 19) dX9_outcome_19 rfl rfl ?_
        refine e_invS (pc := 20) (Y' := Y_X9_has) (as := [vI (g1 74 i), vI x3]) (st := [vI x2]) (lv0 := [some (vI (g1 74 i)), some (vI x3)]) dX9_outcome_20 m_X9_has ul_5_221 ul_5_222 ⟨rfl, rfl⟩ rfl rfl rfl rfl rfl (c_X9_has w (g1 74 i) x3 g1 H.1) ?_
        rintro _ hz ⟨_, rfl, rfl, hh⟩
        rw [hh]
        show Ev w Y_X9_outcome 23 [some (vR 55), some (vI i), some (vI x2), some (vI x3)] [vI (b2i (mem (g1 74 i) x3)), vI x2] g1 (rI K)
        have H := H.2
        have J : Ev w Y_X9_outcome 48 [some (vR 55), some (vI i), some (vI x2), some (vI x3)] [vI (cif (¬ (mem (g1 74 i) x3)) (g1 60 x3) (g1 65 (g1 73 (3 * i)))), vI x2] g1 (rI K) := by
          have H := H.2
          refine e_iconst (pc := 48) dX9_outcome_48 ⟨by decide, by decide⟩ ?_
          refine e_iload_n (pc := 49) dX9_outcome_49 rfl rfl ?_
          refine e_imul (pc := 50) dX9_outcome_50 H.1 ?_
          have H := H.2
          refine e_ishl (pc := 51) dX9_outcome_51 ?_
          refine e_ior (pc := 52) dX9_outcome_52 ?_
          refine e_istore_n (lv' := [some (vR 55), some (vI i), some (vI (ior x2 (ishl (cif (¬ (mem (g1 74 i) x3)) (g1 60 x3) (g1 65 (g1 73 (3 * i)))) (2 * x3)))), some (vI x3)]) (pc := 53) dX9_outcome_53 rfl rfl rfl ?_
          refine e_iinc (lv' := [some (vR 55), some (vI i), some (vI (ior x2 (ishl (cif (¬ (mem (g1 74 i) x3)) (g1 60 x3) (g1 65 (g1 73 (3 * i)))) (2 * x3)))), some (vI (x3 + 1))]) (pc := 54) dX9_outcome_54 rfl H.1 rfl rfl ?_
          have H := H.2
          refine e_goto (pc := 57) (tgt := 4) dX9_outcome_57 (by decide) ?_
          obtain ⟨m, hm, H⟩ := H
          exact ih1 m hm _ _ _ H
        have Ho := H.1
        refine e_ifb_eq (pc := 23) (tgt := 42) dX9_outcome_23 (by decide) (fun c2 => ?_) (fun c2 => ?_)
        · have Ho := Ho.1 c2
          refine e_aload_n (pc := 42) dX9_outcome_42 rfl rfl ?_
          refine e_getR (q := 55) (ci := 9) (k := 5) (y := 60) (C := RX9) (T := TX9) (N := 52) (pc := 43) dX9_outcome_43 rfl rfl ev_in9 rfl ul_4_187 ⟨rfl, rfl⟩ rfl ?_
          refine e_iload_n (pc := 46) dX9_outcome_46 rfl rfl ?_
          refine e_iald (q := 60) (x := (g1 60 x3)) (pc := 47) dX9_outcome_47 rfl Ho.1 rfl ?_
          have Ho := Ho.2
          exact e_top (cif_t c2) J
        · have Ho := Ho.2 c2
          refine e_aload_n (pc := 26) dX9_outcome_26 rfl rfl ?_
          refine e_getR (q := 55) (ci := 9) (k := 12) (y := 65) (C := RX9) (T := TX9) (N := 52) (pc := 27) dX9_outcome_27 rfl rfl ev_in9 rfl ul_4_194 ⟨rfl, rfl⟩ rfl ?_
          refine e_aload_n (pc := 30) dX9_outcome_30 rfl rfl ?_
          refine e_getR (q := 55) (ci := 9) (k := 25) (y := 73) (C := RX9) (T := TX9) (N := 52) (pc := 31) dX9_outcome_31 rfl rfl ev_in9 rfl ul_4_207 ⟨rfl, rfl⟩ rfl ?_
          refine e_iconst (pc := 34) dX9_outcome_34 ⟨by decide, by decide⟩ ?_
          refine e_iload_n (pc := 35) dX9_outcome_35 rfl rfl ?_
          refine e_imul (pc := 36) dX9_outcome_36 Ho.1 ?_
          have Ho := Ho.2
          refine e_iald (q := 73) (x := (g1 73 (3 * i))) (pc := 37) dX9_outcome_37 rfl Ho.1 rfl ?_
          have Ho := Ho.2
          refine e_iald (q := 65) (x := (g1 65 (g1 73 (3 * i)))) (pc := 38) dX9_outcome_38 rfl Ho.1 rfl ?_
          have Ho := Ho.2
          refine e_goto (pc := 39) (tgt := 48) dX9_outcome_39 (by decide) ?_
          exact e_top (cif_f (fun z => z c2)) J
  refine e_iconst (pc := 0) dX9_outcome_0 ⟨by decide, by decide⟩ ?_
  refine e_istore_n (lv' := [some (vR 55), some (vI i), some (vI 0), none]) (pc := 1) dX9_outcome_1 rfl rfl rfl ?_
  refine e_iconst (pc := 2) dX9_outcome_2 ⟨by decide, by decide⟩ ?_
  refine e_istore_n (lv' := [some (vR 55), some (vI i), some (vI 0), some (vI 0)]) (pc := 3) dX9_outcome_3 rfl rfl rfl ?_
  obtain ⟨m, H⟩ := H
  exact L1 m _ _ _ H
set_option maxRecDepth 100000 in
set_option maxHeartbeats 4000000 in
theorem c_X9_outcome (w : WD) (i : Int) (h : HP) (H : mHOK h ∧ mVOK h ∧ mEOK h ∧ 0 ≤ i ∧ i < h 55 23) : Ev w Y_X9_outcome 0 [some (vR 55), some (vI i), none, none] [] h (rI (fun r h' => r = (oucM h i) ∧ h' = h)) := by
  obtain ⟨hH, hV, hE, hi⟩ := H
  have h10 := hH.1
  have h23 := hE.1
  have h16 := hV.1
  have hw := hE.2.2.2 i hi.1 hi.2
  refine v_X9_outcome w i h _ (fun n x2 x3 g => g = h ∧ ∃ k : Nat, x3 = (k : Int) ∧ (k : Int) ≤ h 55 0 ∧ n = (10 - x3).toNat ∧ x2 = pack (ouF h i) k) ⟨10, rfl, 0, rfl, by omega, rfl, rfl⟩ ?_
  rintro n x2 x3 g ⟨rfl, k, rfl, hk, rfl, rfl⟩
  have hm := (hE.2.2.1 i hi.1 (by omega)).1
  have h3 := ouF_3 hH hV hE hi (k := k + 1) 
  refine ⟨fun z => ⟨by unfold oucM; rw [show k = (g 55 0).toNat by omega], rfl⟩, fun z => ⟨by omega, ⟨by omega, by omega⟩, ⟨fun _ => ⟨by omega, trivial⟩, fun _ => ⟨⟨by omega, by omega⟩, by omega, by omega, trivial⟩⟩, ⟨by omega, by omega⟩, ⟨by omega, by omega⟩, (10 - ((k + 1 : Nat) : Int)).toNat, by omega, rfl, k + 1, by omega, by omega, by omega, ?_⟩⟩
  have h3 := ouF_3 hH hV hE hi (k := k + 1) (by omega) (k : Int) (by omega) (by omega)
  rw [cif_n, pack_s h3.1]
  exact pack_or (ouF_3 hH hV hE hi (by omega)) (by omega) h3
def ulM (h : HP) (i : Int) : Prop := h 75 i = 1 ∧ ∀ k : Int, 0 ≤ k → k < i → ¬ (h 75 k = 1 ∧ oucM h k = oucM h i)
noncomputable def unM (h : HP) : Int := cnt (ulM h) (h 55 23).toNat
def ulK (h : HP) (i j : Int) : Prop := h 75 i = 1 ∧ ∀ k : Int, 0 ≤ k → k < j → ¬ (h 75 k = 1 ∧ oucM h k = oucM h i)
set_option maxRecDepth 100000 in
set_option maxHeartbeats 4000000 in
theorem v_X9_unlikeMany (w : WD)  (h : HP) (K : Int → HP → Prop) 
    (I1 : Nat → Int → Int → HP → Prop)
    (I2 : Nat → Nat → Int → Int → Int → Int → HP → Prop)
    (H : (∃ m : Nat, I1 m 0 0 h))
    (H1 : ∀ (n1 : Nat) (x1 : Int) (x2 : Int) (g1 : HP), I1 n1 x1 x2 g1 → (((g1 55 23) ≤ x2 → K x1 g1) ∧ (¬ (g1 55 23) ≤ x2 → ((0 ≤ x2 ∧ x2 < 12) ∧ (∃ m : Nat, I2 n1 m x1 x2 (g1 75 x2) 0 g1)))))
    (H2 : ∀ (n1 : Nat) (n2 : Nat) (x1 : Int) (x2 : Int) (x3 : Int) (x4 : Int) (g2 : HP), I2 n1 n2 x1 x2 x3 x4 g2 → ((x2 ≤ x4 → ((iR (x1 + (b2i (¬ x3 = 0)))) ∧ ((iR (x2 + 1)) ∧ (∃ m : Nat, m < n1 ∧ I1 m (x1 + (b2i (¬ x3 = 0))) (x2 + 1) g2)))) ∧ (¬ x2 ≤ x4 → ((((x3 = 0 → True) ∧ (¬ x3 = 0 → ((0 ≤ x4 ∧ x4 < 12) ∧ (((g2 75 x4) = 0 → True) ∧ (¬ (g2 75 x4) = 0 → ((mHOK g2 ∧ mVOK g2 ∧ mEOK g2 ∧ 0 ≤ x4 ∧ x4 < g2 55 23) ∧ ((mHOK g2 ∧ mVOK g2 ∧ mEOK g2 ∧ 0 ≤ x2 ∧ x2 < g2 55 23) ∧ True)))))))) ∧ ((iR (x4 + 1)) ∧ (∃ m : Nat, m < n2 ∧ I2 n1 m x1 x2 (b2i ((¬ x3 = 0) ∧ (((g2 75 x4) = 0) ∨ (¬ (oucM g2 x4) = (oucM g2 x2))))) (x4 + 1) g2)))))) :
    Ev w Y_X9_unlikeMany 0 [some (vR 55), none, none, none, none] [] h (rI K) := by
  have L1 : ∀ (n1 : Nat) (x1 : Int) (x2 : Int) (g1 : HP), I1 n1 x1 x2 g1 → Ev w Y_X9_unlikeMany 4 [some (vR 55), some (vI x1), some (vI x2), none, none] [] g1 (rI K) := by
    intro n1
    induction n1 using Nat.strongRecOn with
    | ind n1 ih1 =>
      have L2 : ∀ (n2 : Nat) (x1 : Int) (x2 : Int) (x3 : Int) (x4 : Int) (g2 : HP), I2 n1 n2 x1 x2 x3 x4 g2 → Ev w Y_X9_unlikeMany 22 [some (vR 55), some (vI x1), some (vI x2), some (vI x3), some (vI x4)] [] g2 (rI K) := by
        intro n2
        induction n2 using Nat.strongRecOn with
        | ind n2 ih2 =>
          intro x1 x2 x3 x4 g2 H
          have H := H2 n1 n2 x1 x2 x3 x4 g2 H
          refine e_iload (pc := 22) dX9_unlikeMany_22 rfl ?_
          refine e_iload_n (pc := 24) dX9_unlikeMany_24 rfl rfl ?_
          refine e_icmp_ge (pc := 25) (tgt := 68) dX9_unlikeMany_25 (by decide) (fun c2 => ?_) (fun c2 => ?_)
          · have H := H.1 c2
            refine e_iload_n (pc := 68) dX9_unlikeMany_68 rfl rfl ?_
            refine e_iload_n (pc := 69) dX9_unlikeMany_69 rfl rfl ?_
            have J : Ev w Y_X9_unlikeMany 78 [some (vR 55), some (vI x1), some (vI x2), some (vI x3), some (vI x4)] [vI (b2i (¬ x3 = 0)), vI x1] g2 (rI K) := by
              refine e_iadd (pc := 78) dX9_unlikeMany_78 H.1 ?_
              have H := H.2
              refine e_istore_n (lv' := [some (vR 55), some (vI (x1 + (b2i (¬ x3 = 0)))), some (vI x2), some (vI x3), some (vI x4)]) (pc := 79) dX9_unlikeMany_79 rfl rfl rfl ?_
              refine e_iinc (lv' := [some (vR 55), some (vI (x1 + (b2i (¬ x3 = 0)))), some (vI (x2 + 1)), some (vI x3), some (vI x4)]) (pc := 80) dX9_unlikeMany_80 rfl H.1 rfl rfl ?_
              have H := H.2
              refine e_goto (pc := 83) (tgt := 4) dX9_unlikeMany_83 (by decide) ?_
              refine e_mask [true, true, true, false, false] rfl ?_
              obtain ⟨m, hm, H⟩ := H
              exact ih1 m hm _ _ _ H
            refine e_if_eq (pc := 70) (tgt := 77) dX9_unlikeMany_70 (by decide) (fun c3 => ?_) (fun c3 => ?_)
            · refine e_iconst (pc := 77) dX9_unlikeMany_77 ⟨by decide, by decide⟩ ?_
              exact e_top (b2i_f (fun z => z c3)) J
            · refine e_iconst (pc := 73) dX9_unlikeMany_73 ⟨by decide, by decide⟩ ?_
              refine e_goto (pc := 74) (tgt := 78) dX9_unlikeMany_74 (by decide) ?_
              exact e_top (b2i_t c3) J
          · have H := H.2 c2
            refine e_iload_n (pc := 28) dX9_unlikeMany_28 rfl rfl ?_
            have J : Ev w Y_X9_unlikeMany 61 [some (vR 55), some (vI x1), some (vI x2), some (vI x3), some (vI x4)] [vI (b2i ((¬ x3 = 0) ∧ (((g2 75 x4) = 0) ∨ (¬ (oucM g2 x4) = (oucM g2 x2)))))] g2 (rI K) := by
              have H := H.2
              refine e_istore_n (lv' := [some (vR 55), some (vI x1), some (vI x2), some (vI (b2i ((¬ x3 = 0) ∧ (((g2 75 x4) = 0) ∨ (¬ (oucM g2 x4) = (oucM g2 x2)))))), some (vI x4)]) (pc := 61) dX9_unlikeMany_61 rfl rfl rfl ?_
              refine e_iinc (lv' := [some (vR 55), some (vI x1), some (vI x2), some (vI (b2i ((¬ x3 = 0) ∧ (((g2 75 x4) = 0) ∨ (¬ (oucM g2 x4) = (oucM g2 x2)))))), some (vI (x4 + 1))]) (pc := 62) dX9_unlikeMany_62 rfl H.1 rfl rfl ?_
              have H := H.2
              refine e_goto (pc := 65) (tgt := 22) dX9_unlikeMany_65 (by decide) ?_
              obtain ⟨m, hm, H⟩ := H
              exact ih2 m hm _ _ _ _ _ H
            have Ho := H.1
            refine e_if_eq (pc := 29) (tgt := 60) dX9_unlikeMany_29 (by decide) (fun c4 => ?_) (fun c4 => ?_)
            · have Ho := Ho.1 c4
              refine e_iconst (pc := 60) dX9_unlikeMany_60 ⟨by decide, by decide⟩ ?_
              exact e_top (b2i_f (fun z => (fun z => z c4) z.1)) J
            · have Ho := Ho.2 c4
              refine e_aload_n (pc := 32) dX9_unlikeMany_32 rfl rfl ?_
              refine e_getR (q := 55) (ci := 9) (k := 27) (y := 75) (C := RX9) (T := TX9) (N := 52) (pc := 33) dX9_unlikeMany_33 rfl rfl ev_in9 rfl ul_4_209 ⟨rfl, rfl⟩ rfl ?_
              refine e_iload (pc := 36) dX9_unlikeMany_36 rfl ?_
              refine e_zald (q := 75) (x := (g2 75 x4)) (pc := 38) dX9_unlikeMany_38 rfl Ho.1 rfl ?_
              have Ho := Ho.2
              refine e_if_eq (pc := 39) (tgt := 56) dX9_unlikeMany_39 (by decide) (fun c5 => ?_) (fun c5 => ?_)
              · have Ho := Ho.1 c5
                refine e_iconst (pc := 56) dX9_unlikeMany_56 ⟨by decide, by decide⟩ ?_
                refine e_goto (pc := 57) (tgt := 61) dX9_unlikeMany_57 (by decide) ?_
                exact e_top (b2i_t ⟨c4, (Or.inl c5)⟩) J
              · have Ho := Ho.2 c5
                refine e_aload_n (pc := 42) dX9_unlikeMany_42 rfl rfl ?_
                refine e_iload (pc := 43) dX9_unlikeMany_43 rfl ?_
                refine e_invV (pc := 45) (Y' := Y_X9_outcome) (as := [vI x4]) (st := []) (lv0 := [some (vR 55), some (vI x4), none, none]) (q := 55) (ci := 9) (T := TX9) (N := 52) dX9_unlikeMany_45 m_X9_outcome ul_5_239 ⟨ul_6_1, us_X9_outcome⟩ ⟨rfl, rfl⟩ rfl rfl rfl rfl rfl rfl rfl (c_X9_outcome w x4 g2 Ho.1) ?_
                rintro _ hz ⟨_, rfl, rfl, hh⟩
                rw [hh]
                show Ev w Y_X9_unlikeMany 48 [some (vR 55), some (vI x1), some (vI x2), some (vI x3), some (vI x4)] [vI (oucM g2 x4)] g2 (rI K)
                have Ho := Ho.2
                refine e_aload_n (pc := 48) dX9_unlikeMany_48 rfl rfl ?_
                refine e_iload_n (pc := 49) dX9_unlikeMany_49 rfl rfl ?_
                refine e_invV (pc := 50) (Y' := Y_X9_outcome) (as := [vI x2]) (st := [vI (oucM g2 x4)]) (lv0 := [some (vR 55), some (vI x2), none, none]) (q := 55) (ci := 9) (T := TX9) (N := 52) dX9_unlikeMany_50 m_X9_outcome ul_5_239 ⟨ul_6_1, us_X9_outcome⟩ ⟨rfl, rfl⟩ rfl rfl rfl rfl rfl rfl rfl (c_X9_outcome w x2 g2 Ho.1) ?_
                rintro _ hz ⟨_, rfl, rfl, hh⟩
                rw [hh]
                show Ev w Y_X9_unlikeMany 53 [some (vR 55), some (vI x1), some (vI x2), some (vI x3), some (vI x4)] [vI (oucM g2 x2), vI (oucM g2 x4)] g2 (rI K)
                have Ho := Ho.2
                refine e_icmp_eq (pc := 53) (tgt := 60) dX9_unlikeMany_53 (by decide) (fun c6 => ?_) (fun c6 => ?_)
                · refine e_iconst (pc := 60) dX9_unlikeMany_60 ⟨by decide, by decide⟩ ?_
                  exact e_top (b2i_f (fun z => (fun z => z.elim c5 (fun z => z c6)) z.2)) J
                · refine e_iconst (pc := 56) dX9_unlikeMany_56 ⟨by decide, by decide⟩ ?_
                  refine e_goto (pc := 57) (tgt := 61) dX9_unlikeMany_57 (by decide) ?_
                  exact e_top (b2i_t ⟨c4, (Or.inr c6)⟩) J
      intro x1 x2 g1 H
      have H := H1 n1 x1 x2 g1 H
      refine e_iload_n (pc := 4) dX9_unlikeMany_4 rfl rfl ?_
      refine e_aload_n (pc := 5) dX9_unlikeMany_5 rfl rfl ?_
      refine e_getI (q := 55) (ci := 9) (k := 23) (kz := 23) (C := RX9) (T := TX9) (N := 52) (x := (g1 55 23)) (pc := 6) dX9_unlikeMany_6 rfl rfl rfl ev_in9 rfl ul_4_205 ⟨rfl, by decide⟩ rfl ?_
      refine e_icmp_ge (pc := 9) (tgt := 86) dX9_unlikeMany_9 (by decide) (fun c1 => ?_) (fun c1 => ?_)
      · have H := H.1 c1
        refine e_iload_n (pc := 86) dX9_unlikeMany_86 rfl rfl ?_
        exact e_ret (pc := 87) (v := some (vI x1)) dX9_unlikeMany_87 rfl trivial ⟨_, rfl, H⟩
      · have H := H.2 c1
        refine e_aload_n (pc := 12) dX9_unlikeMany_12 rfl rfl ?_
        refine e_getR (q := 55) (ci := 9) (k := 27) (y := 75) (C := RX9) (T := TX9) (N := 52) (pc := 13) dX9_unlikeMany_13 rfl rfl ev_in9 rfl ul_4_209 ⟨rfl, rfl⟩ rfl ?_
        refine e_iload_n (pc := 16) dX9_unlikeMany_16 rfl rfl ?_
        refine e_zald (q := 75) (x := (g1 75 x2)) (pc := 17) dX9_unlikeMany_17 rfl H.1 rfl ?_
        have H := H.2
        refine e_istore_n (lv' := [some (vR 55), some (vI x1), some (vI x2), some (vI (g1 75 x2)), none]) (pc := 18) dX9_unlikeMany_18 rfl rfl rfl ?_
        refine e_iconst (pc := 19) dX9_unlikeMany_19 ⟨by decide, by decide⟩ ?_
        refine e_istore (lv' := [some (vR 55), some (vI x1), some (vI x2), some (vI (g1 75 x2)), some (vI 0)]) (pc := 20) dX9_unlikeMany_20 rfl rfl ?_
        obtain ⟨m, H⟩ := H
        exact L2 m _ _ _ _ _ H
  refine e_iconst (pc := 0) dX9_unlikeMany_0 ⟨by decide, by decide⟩ ?_
  refine e_istore_n (lv' := [some (vR 55), some (vI 0), none, none, none]) (pc := 1) dX9_unlikeMany_1 rfl rfl rfl ?_
  refine e_iconst (pc := 2) dX9_unlikeMany_2 ⟨by decide, by decide⟩ ?_
  refine e_istore_n (lv' := [some (vR 55), some (vI 0), some (vI 0), none, none]) (pc := 3) dX9_unlikeMany_3 rfl rfl rfl ?_
  obtain ⟨m, H⟩ := H
  exact L1 m _ _ _ H
set_option maxRecDepth 100000 in
set_option maxHeartbeats 4000000 in
theorem c_X9_unlikeMany (w : WD)  (h : HP) (H : mHOK h ∧ mVOK h ∧ mEOK h) : Ev w Y_X9_unlikeMany 0 [some (vR 55), none, none, none, none] [] h (rI (fun r h' => r = (unM h) ∧ h' = h)) := by
  obtain ⟨hH, hV, hE⟩ := H
  have h23 := hE.1
  refine v_X9_unlikeMany w h _ (fun n x1 x2 g => g = h ∧ (0 ≤ x2 ∧ x2 ≤ h 55 23) ∧ n = (12 - x2).toNat ∧ x1 = cnt (ulM h) x2.toNat)
    (fun n1 n2 x1 x2 x3 x4 g => g = h ∧ (0 ≤ x2 ∧ x2 < h 55 23) ∧ n1 = (12 - x2).toNat ∧ x1 = cnt (ulM h) x2.toNat ∧ (0 ≤ x4 ∧ x4 ≤ x2) ∧ n2 = (12 - x4).toNat ∧ x3 = b2i (ulK h x2 x4)) ⟨12, rfl, by omega, rfl, rfl⟩ ?_ ?_
  · rintro n x1 x2 g ⟨rfl, h0, rfl, rfl⟩
    refine ⟨fun c => ⟨by unfold unM; rw [show x2 = g 55 23 by omega], rfl⟩, fun c => ⟨by omega, 12, rfl, by omega, rfl, rfl, by omega, rfl, ?_⟩⟩
    have h01 := (hE.2.2.1 x2 h0.1 (by omega)).2
    rcases h01 with u | u
    · rw [u, b2i_f (fun z => by have := z.1; omega)]
    · rw [u, b2i_t ⟨u, fun k a b => by omega⟩]
  · rintro n1 n2 x1 x2 x3 x4 g ⟨rfl, h0, rfl, rfl, h4, rfl, rfl⟩
    have hc := cnt_b (ulM g) x2.toNat
    have hs : cnt (ulM g) (x2 + 1).toNat = cnt (ulM g) x2.toNat + b2i (ulM g x2) := cnt_next h0.1
    have hb := b2i_01 (¬ b2i (ulK g x2 x4) = 0)
    refine ⟨fun c => ⟨⟨by omega, by omega⟩, ⟨by omega, by omega⟩, (12 - (x2 + 1)).toNat, by omega, rfl, by omega, rfl, ?_⟩, fun c => ⟨⟨fun _ => trivial, fun _ => ⟨by omega, fun _ => trivial, fun _ => ⟨⟨hH, hV, hE, by omega, by omega⟩, ⟨hH, hV, hE, by omega, by omega⟩, trivial⟩⟩⟩, ⟨by omega, by omega⟩, (12 - (x4 + 1)).toNat, by omega, rfl, h0, rfl, rfl, by omega, rfl, ?_⟩⟩
    · have e : x4 = x2 := by omega
      subst e
      rw [hs]
      have : b2i (¬ b2i (ulK g x4 x4) = 0) = b2i (ulM g x4) := b2i_c (by rw [b2i_0]; exact ⟨fun y => Classical.byContradiction y, fun y z => z y⟩)
      omega
    · refine b2i_c ?_
      rw [b2i_0]
      have h01 := (hE.2.2.1 x4 h4.1 (by omega)).2
      constructor
      · rintro ⟨y1, y2⟩
        have y := Classical.byContradiction y1
        refine ⟨y.1, fun k a b u => ?_⟩
        by_cases e : k = x4
        · subst e
          rcases y2 with z | z
          · omega
          · exact z u.2
        · exact y.2 k a (by omega) u
      · intro y
        refine ⟨fun z => z ⟨y.1, fun k a b => y.2 k a (by omega)⟩, ?_⟩
        rcases h01 with u | u
        · exact Or.inl u
        · exact Or.inr (fun z => y.2 x4 h4.1 (by omega) ⟨u, z⟩)
noncomputable def grM (h : HP) (pt : Int) : Nat → Int
  | 0 => 0
  | k + 1 => max (grM h pt k) (cnt (fun j => h 75 (k : Int) = 1 ∧ h 75 j = 1 ∧ h 73 (3 * (k : Int) + pt) = h 73 (3 * j + pt)) (h 55 23).toNat)
def askB (a b c : Int) (x1 x2 x3 : Int) : Prop := (x3 = 0 ∧ x1 = -4) ∨ (x3 = 1 ∧ x1 = 0 ∧ x2 = a) ∨ (x3 = 2 ∧ ((x1 = 1 ∧ x2 = b ∧ b < a) ∨ (x1 = 0 ∧ x2 = a ∧ ¬ b < a))) ∨ (x3 = 3 ∧ x1 = pta a b c)
theorem askB_b {a b c x1 x2 x3 : Int} (h : askB a b c x1 x2 x3) : 0 ≤ x3 ∧ x3 ≤ 3 := by
  rcases h with y | y | y | y
  · omega
  · omega
  · omega
  · have := y.1; omega
noncomputable def askM (h : HP) : Int := cif (h 55 20 = 0) (-2) (cif (2 ≤ unM h) (pta (grM h 0 (h 55 23).toNat) (grM h 1 (h 55 23).toNat) (grM h 2 (h 55 23).toNat)) (-4))
set_option maxRecDepth 100000 in
set_option maxHeartbeats 4000000 in
theorem v_X9_ask (w : WD)  (h : HP) (K : Int → HP → Prop) 
    (I1 : Nat → Int → Int → Int → HP → Prop)
    (I2 : Nat → Nat → Int → Int → Int → Int → Int → HP → Prop)
    (I3 : Nat → Nat → Nat → Int → Int → Int → Int → Int → Int → Int → HP → Prop)
    (H : ((¬ (h 55 20) = 0 → ((mHOK h ∧ mVOK h ∧ mEOK h) ∧ ((2 ≤ (unM h) → (∃ m : Nat, I1 m (-4) 0 0 h)) ∧ (¬ 2 ≤ (unM h) → K (-4) h)))) ∧ ((h 55 20) = 0 → K (-2) h)))
    (H1 : ∀ (n1 : Nat) (x1 : Int) (x2 : Int) (x3 : Int) (g1 : HP), I1 n1 x1 x2 x3 g1 → ((3 ≤ x3 → K x1 g1) ∧ (¬ 3 ≤ x3 → (∃ m : Nat, I2 n1 m x1 x2 x3 0 0 g1))))
    (H2 : ∀ (n1 : Nat) (n2 : Nat) (x1 : Int) (x2 : Int) (x3 : Int) (x4 : Int) (x5 : Int) (g2 : HP), I2 n1 n2 x1 x2 x3 x4 x5 g2 → (((g2 55 23) ≤ x5 → ((((x1 = (-4)) ∨ (¬ x2 ≤ x4)) → ((iR (x3 + 1)) ∧ (∃ m : Nat, m < n1 ∧ I1 m x3 x4 (x3 + 1) g2))) ∧ (¬ ((x1 = (-4)) ∨ (¬ x2 ≤ x4)) → ((iR (x3 + 1)) ∧ (∃ m : Nat, m < n1 ∧ I1 m x1 x2 (x3 + 1) g2))))) ∧ (¬ (g2 55 23) ≤ x5 → (∃ m : Nat, I3 n1 n2 m x1 x2 x3 x4 x5 0 0 g2))))
    (H3 : ∀ (n1 : Nat) (n2 : Nat) (n3 : Nat) (x1 : Int) (x2 : Int) (x3 : Int) (x4 : Int) (x5 : Int) (x6 : Int) (x7 : Int) (g3 : HP), I3 n1 n2 n3 x1 x2 x3 x4 x5 x6 x7 g3 → (((g3 55 23) ≤ x7 → ((iR (x5 + 1)) ∧ (∃ m : Nat, m < n2 ∧ I2 n1 m x1 x2 x3 (cif (x6 ≤ x4) x4 x6) (x5 + 1) g3))) ∧ (¬ (g3 55 23) ≤ x7 → ((0 ≤ x5 ∧ x5 < 12) ∧ (((((g3 75 x5) = 0 → True) ∧ (¬ (g3 75 x5) = 0 → ((0 ≤ x7 ∧ x7 < 12) ∧ (((g3 75 x7) = 0 → True) ∧ (¬ (g3 75 x7) = 0 → ((iR (3 * x5)) ∧ ((iR ((3 * x5) + x3)) ∧ ((0 ≤ ((3 * x5) + x3) ∧ ((3 * x5) + x3) < 36) ∧ ((iR (3 * x7)) ∧ ((iR ((3 * x7) + x3)) ∧ ((0 ≤ ((3 * x7) + x3) ∧ ((3 * x7) + x3) < 36) ∧ True)))))))))))) ∧ ((iR (x6 + (b2i ((¬ (g3 75 x5) = 0) ∧ ((¬ (g3 75 x7) = 0) ∧ ((g3 73 ((3 * x5) + x3)) = (g3 73 ((3 * x7) + x3)))))))) ∧ ((iR (x7 + 1)) ∧ (∃ m : Nat, m < n3 ∧ I3 n1 n2 m x1 x2 x3 x4 x5 (x6 + (b2i ((¬ (g3 75 x5) = 0) ∧ ((¬ (g3 75 x7) = 0) ∧ ((g3 73 ((3 * x5) + x3)) = (g3 73 ((3 * x7) + x3))))))) (x7 + 1) g3)))))))) :
    Ev w Y_X9_ask 0 [some (vR 55), none, none, none, none, none, none, none] [] h (rI K) := by
  have L1 : ∀ (n1 : Nat) (x1 : Int) (x2 : Int) (x3 : Int) (g1 : HP), I1 n1 x1 x2 x3 g1 → Ev w Y_X9_ask 28 [some (vR 55), some (vI x1), some (vI x2), some (vI x3), none, none, none, none] [] g1 (rI K) := by
    intro n1
    induction n1 using Nat.strongRecOn with
    | ind n1 ih1 =>
      have L2 : ∀ (n2 : Nat) (x1 : Int) (x2 : Int) (x3 : Int) (x4 : Int) (x5 : Int) (g2 : HP), I2 n1 n2 x1 x2 x3 x4 x5 g2 → Ev w Y_X9_ask 39 [some (vR 55), some (vI x1), some (vI x2), some (vI x3), some (vI x4), some (vI x5), none, none] [] g2 (rI K) := by
        intro n2
        induction n2 using Nat.strongRecOn with
        | ind n2 ih2 =>
          have L3 : ∀ (n3 : Nat) (x1 : Int) (x2 : Int) (x3 : Int) (x4 : Int) (x5 : Int) (x6 : Int) (x7 : Int) (g3 : HP), I3 n1 n2 n3 x1 x2 x3 x4 x5 x6 x7 g3 → Ev w Y_X9_ask 54 [some (vR 55), some (vI x1), some (vI x2), some (vI x3), some (vI x4), some (vI x5), some (vI x6), some (vI x7)] [] g3 (rI K) := by
            intro n3
            induction n3 using Nat.strongRecOn with
            | ind n3 ih3 =>
              intro x1 x2 x3 x4 x5 x6 x7 g3 H
              have H := H3 n1 n2 n3 x1 x2 x3 x4 x5 x6 x7 g3 H
              refine e_iload (pc := 54) dX9_ask_54 rfl ?_
              refine e_aload_n (pc := 56) dX9_ask_56 rfl rfl ?_
              refine e_getI (q := 55) (ci := 9) (k := 23) (kz := 23) (C := RX9) (T := TX9) (N := 52) (x := (g3 55 23)) (pc := 57) dX9_ask_57 rfl rfl rfl ev_in9 rfl ul_4_205 ⟨rfl, by decide⟩ rfl ?_
              refine e_icmp_ge (pc := 60) (tgt := 124) dX9_ask_60 (by decide) (fun c7 => ?_) (fun c7 => ?_)
              · have H := H.1 c7
                refine e_iload (pc := 124) dX9_ask_124 rfl ?_
                refine e_iload (pc := 126) dX9_ask_126 rfl ?_
                have J : Ev w Y_X9_ask 138 [some (vR 55), some (vI x1), some (vI x2), some (vI x3), some (vI x4), some (vI x5), some (vI x6), some (vI x7)] [vI (cif (x6 ≤ x4) x4 x6)] g3 (rI K) := by
                  refine e_istore (lv' := [some (vR 55), some (vI x1), some (vI x2), some (vI x3), some (vI (cif (x6 ≤ x4) x4 x6)), some (vI x5), some (vI x6), some (vI x7)]) (pc := 138) dX9_ask_138 rfl rfl ?_
                  refine e_iinc (lv' := [some (vR 55), some (vI x1), some (vI x2), some (vI x3), some (vI (cif (x6 ≤ x4) x4 x6)), some (vI (x5 + 1)), some (vI x6), some (vI x7)]) (pc := 140) dX9_ask_140 rfl H.1 rfl rfl ?_
                  have H := H.2
                  refine e_goto (pc := 143) (tgt := 39) dX9_ask_143 (by decide) ?_
                  refine e_mask [true, true, true, true, true, true, false, false] rfl ?_
                  obtain ⟨m, hm, H⟩ := H
                  exact ih2 m hm _ _ _ _ _ _ H
                refine e_icmp_le (pc := 128) (tgt := 136) dX9_ask_128 (by decide) (fun c8 => ?_) (fun c8 => ?_)
                · refine e_iload (pc := 136) dX9_ask_136 rfl ?_
                  exact e_top (cif_t c8) J
                · refine e_iload (pc := 131) dX9_ask_131 rfl ?_
                  refine e_goto (pc := 133) (tgt := 138) dX9_ask_133 (by decide) ?_
                  exact e_top (cif_f c8) J
              · have H := H.2 c7
                refine e_iload (pc := 63) dX9_ask_63 rfl ?_
                refine e_aload_n (pc := 65) dX9_ask_65 rfl rfl ?_
                refine e_getR (q := 55) (ci := 9) (k := 27) (y := 75) (C := RX9) (T := TX9) (N := 52) (pc := 66) dX9_ask_66 rfl rfl ev_in9 rfl ul_4_209 ⟨rfl, rfl⟩ rfl ?_
                refine e_iload (pc := 69) dX9_ask_69 rfl ?_
                refine e_zald (q := 75) (x := (g3 75 x5)) (pc := 71) dX9_ask_71 rfl H.1 rfl ?_
                have H := H.2
                have J : Ev w Y_X9_ask 115 [some (vR 55), some (vI x1), some (vI x2), some (vI x3), some (vI x4), some (vI x5), some (vI x6), some (vI x7)] [vI (b2i ((¬ (g3 75 x5) = 0) ∧ ((¬ (g3 75 x7) = 0) ∧ ((g3 73 ((3 * x5) + x3)) = (g3 73 ((3 * x7) + x3)))))), vI x6] g3 (rI K) := by
                  have H := H.2
                  refine e_iadd (pc := 115) dX9_ask_115 H.1 ?_
                  have H := H.2
                  refine e_istore (lv' := [some (vR 55), some (vI x1), some (vI x2), some (vI x3), some (vI x4), some (vI x5), some (vI (x6 + (b2i ((¬ (g3 75 x5) = 0) ∧ ((¬ (g3 75 x7) = 0) ∧ ((g3 73 ((3 * x5) + x3)) = (g3 73 ((3 * x7) + x3)))))))), some (vI x7)]) (pc := 116) dX9_ask_116 rfl rfl ?_
                  refine e_iinc (lv' := [some (vR 55), some (vI x1), some (vI x2), some (vI x3), some (vI x4), some (vI x5), some (vI (x6 + (b2i ((¬ (g3 75 x5) = 0) ∧ ((¬ (g3 75 x7) = 0) ∧ ((g3 73 ((3 * x5) + x3)) = (g3 73 ((3 * x7) + x3)))))))), some (vI (x7 + 1))]) (pc := 118) dX9_ask_118 rfl H.1 rfl rfl ?_
                  have H := H.2
                  refine e_goto (pc := 121) (tgt := 54) dX9_ask_121 (by decide) ?_
                  obtain ⟨m, hm, H⟩ := H
                  exact ih3 m hm _ _ _ _ _ _ _ _ H
                have Ho := H.1
                refine e_if_eq (pc := 72) (tgt := 114) dX9_ask_72 (by decide) (fun c9 => ?_) (fun c9 => ?_)
                · have Ho := Ho.1 c9
                  refine e_iconst (pc := 114) dX9_ask_114 ⟨by decide, by decide⟩ ?_
                  exact e_top (b2i_f (fun z => (fun z => z c9) z.1)) J
                · have Ho := Ho.2 c9
                  refine e_aload_n (pc := 75) dX9_ask_75 rfl rfl ?_
                  refine e_getR (q := 55) (ci := 9) (k := 27) (y := 75) (C := RX9) (T := TX9) (N := 52) (pc := 76) dX9_ask_76 rfl rfl ev_in9 rfl ul_4_209 ⟨rfl, rfl⟩ rfl ?_
                  refine e_iload (pc := 79) dX9_ask_79 rfl ?_
                  refine e_zald (q := 75) (x := (g3 75 x7)) (pc := 81) dX9_ask_81 rfl Ho.1 rfl ?_
                  have Ho := Ho.2
                  refine e_if_eq (pc := 82) (tgt := 114) dX9_ask_82 (by decide) (fun c10 => ?_) (fun c10 => ?_)
                  · have Ho := Ho.1 c10
                    refine e_iconst (pc := 114) dX9_ask_114 ⟨by decide, by decide⟩ ?_
                    exact e_top (b2i_f (fun z => (fun z => (fun z => z c10) z.1) z.2)) J
                  · have Ho := Ho.2 c10
                    refine e_aload_n (pc := 85) dX9_ask_85 rfl rfl ?_
                    refine e_getR (q := 55) (ci := 9) (k := 25) (y := 73) (C := RX9) (T := TX9) (N := 52) (pc := 86) dX9_ask_86 rfl rfl ev_in9 rfl ul_4_207 ⟨rfl, rfl⟩ rfl ?_
                    refine e_iconst (pc := 89) dX9_ask_89 ⟨by decide, by decide⟩ ?_
                    refine e_iload (pc := 90) dX9_ask_90 rfl ?_
                    refine e_imul (pc := 92) dX9_ask_92 Ho.1 ?_
                    have Ho := Ho.2
                    refine e_iload_n (pc := 93) dX9_ask_93 rfl rfl ?_
                    refine e_iadd (pc := 94) dX9_ask_94 Ho.1 ?_
                    have Ho := Ho.2
                    refine e_iald (q := 73) (x := (g3 73 ((3 * x5) + x3))) (pc := 95) dX9_ask_95 rfl Ho.1 rfl ?_
                    have Ho := Ho.2
                    refine e_aload_n (pc := 96) dX9_ask_96 rfl rfl ?_
                    refine e_getR (q := 55) (ci := 9) (k := 25) (y := 73) (C := RX9) (T := TX9) (N := 52) (pc := 97) dX9_ask_97 rfl rfl ev_in9 rfl ul_4_207 ⟨rfl, rfl⟩ rfl ?_
                    refine e_iconst (pc := 100) dX9_ask_100 ⟨by decide, by decide⟩ ?_
                    refine e_iload (pc := 101) dX9_ask_101 rfl ?_
                    refine e_imul (pc := 103) dX9_ask_103 Ho.1 ?_
                    have Ho := Ho.2
                    refine e_iload_n (pc := 104) dX9_ask_104 rfl rfl ?_
                    refine e_iadd (pc := 105) dX9_ask_105 Ho.1 ?_
                    have Ho := Ho.2
                    refine e_iald (q := 73) (x := (g3 73 ((3 * x7) + x3))) (pc := 106) dX9_ask_106 rfl Ho.1 rfl ?_
                    have Ho := Ho.2
                    refine e_icmp_ne (pc := 107) (tgt := 114) dX9_ask_107 (by decide) (fun c11 => ?_) (fun c11 => ?_)
                    · refine e_iconst (pc := 114) dX9_ask_114 ⟨by decide, by decide⟩ ?_
                      exact e_top (b2i_f (fun z => (fun z => c11 z.2) z.2)) J
                    · refine e_iconst (pc := 110) dX9_ask_110 ⟨by decide, by decide⟩ ?_
                      refine e_goto (pc := 111) (tgt := 115) dX9_ask_111 (by decide) ?_
                      exact e_top (b2i_t ⟨c9, ⟨c10, c11⟩⟩) J
          intro x1 x2 x3 x4 x5 g2 H
          have H := H2 n1 n2 x1 x2 x3 x4 x5 g2 H
          refine e_iload (pc := 39) dX9_ask_39 rfl ?_
          refine e_aload_n (pc := 41) dX9_ask_41 rfl rfl ?_
          refine e_getI (q := 55) (ci := 9) (k := 23) (kz := 23) (C := RX9) (T := TX9) (N := 52) (x := (g2 55 23)) (pc := 42) dX9_ask_42 rfl rfl rfl ev_in9 rfl ul_4_205 ⟨rfl, by decide⟩ rfl ?_
          refine e_icmp_ge (pc := 45) (tgt := 146) dX9_ask_45 (by decide) (fun c4 => ?_) (fun c4 => ?_)
          · have H := H.1 c4
            refine e_iload_n (pc := 146) dX9_ask_146 rfl rfl ?_
            refine e_bipush (pc := 147) dX9_ask_147 ⟨by decide, by decide⟩ (by decide) ?_
            have J1 : ((x1 = (-4)) ∨ (¬ x2 ≤ x4)) → Ev w Y_X9_ask 158 [some (vR 55), some (vI x1), some (vI x2), some (vI x3), some (vI x4), some (vI x5), none, none] [] g2 (rI K) := by
              intro hp
              have H := H.1 hp
              refine e_iload_n (pc := 158) dX9_ask_158 rfl rfl ?_
              refine e_istore_n (lv' := [some (vR 55), some (vI x3), some (vI x2), some (vI x3), some (vI x4), some (vI x5), none, none]) (pc := 159) dX9_ask_159 rfl rfl rfl ?_
              refine e_iload (pc := 160) dX9_ask_160 rfl ?_
              refine e_istore_n (lv' := [some (vR 55), some (vI x3), some (vI x4), some (vI x3), some (vI x4), some (vI x5), none, none]) (pc := 162) dX9_ask_162 rfl rfl rfl ?_
              refine e_iinc (lv' := [some (vR 55), some (vI x3), some (vI x4), some (vI (x3 + 1)), some (vI x4), some (vI x5), none, none]) (pc := 163) dX9_ask_163 rfl H.1 rfl rfl ?_
              have H := H.2
              refine e_goto (pc := 166) (tgt := 28) dX9_ask_166 (by decide) ?_
              refine e_mask [true, true, true, true, false, false, false, false] rfl ?_
              obtain ⟨m, hm, H⟩ := H
              exact ih1 m hm _ _ _ _ H
            have J2 : ¬ ((x1 = (-4)) ∨ (¬ x2 ≤ x4)) → Ev w Y_X9_ask 163 [some (vR 55), some (vI x1), some (vI x2), some (vI x3), some (vI x4), some (vI x5), none, none] [] g2 (rI K) := by
              intro hp
              have H := H.2 hp
              refine e_iinc (lv' := [some (vR 55), some (vI x1), some (vI x2), some (vI (x3 + 1)), some (vI x4), some (vI x5), none, none]) (pc := 163) dX9_ask_163 rfl H.1 rfl rfl ?_
              have H := H.2
              refine e_goto (pc := 166) (tgt := 28) dX9_ask_166 (by decide) ?_
              refine e_mask [true, true, true, true, false, false, false, false] rfl ?_
              obtain ⟨m, hm, H⟩ := H
              exact ih1 m hm _ _ _ _ H
            refine e_icmp_eq (pc := 149) (tgt := 158) dX9_ask_149 (by decide) (fun c5 => ?_) (fun c5 => ?_)
            · exact J1 (Or.inl c5)
            · refine e_iload (pc := 152) dX9_ask_152 rfl ?_
              refine e_iload_n (pc := 154) dX9_ask_154 rfl rfl ?_
              refine e_icmp_ge (pc := 155) (tgt := 163) dX9_ask_155 (by decide) (fun c6 => ?_) (fun c6 => ?_)
              · exact J2 (fun z => z.elim c5 (fun z => z c6))
              · exact J1 (Or.inr c6)
          · have H := H.2 c4
            refine e_iconst (pc := 48) dX9_ask_48 ⟨by decide, by decide⟩ ?_
            refine e_istore (lv' := [some (vR 55), some (vI x1), some (vI x2), some (vI x3), some (vI x4), some (vI x5), some (vI 0), none]) (pc := 49) dX9_ask_49 rfl rfl ?_
            refine e_iconst (pc := 51) dX9_ask_51 ⟨by decide, by decide⟩ ?_
            refine e_istore (lv' := [some (vR 55), some (vI x1), some (vI x2), some (vI x3), some (vI x4), some (vI x5), some (vI 0), some (vI 0)]) (pc := 52) dX9_ask_52 rfl rfl ?_
            obtain ⟨m, H⟩ := H
            exact L3 m _ _ _ _ _ _ _ _ H
      intro x1 x2 x3 g1 H
      have H := H1 n1 x1 x2 x3 g1 H
      refine e_iload_n (pc := 28) dX9_ask_28 rfl rfl ?_
      refine e_iconst (pc := 29) dX9_ask_29 ⟨by decide, by decide⟩ ?_
      refine e_icmp_ge (pc := 30) (tgt := 169) dX9_ask_30 (by decide) (fun c3 => ?_) (fun c3 => ?_)
      · have H := H.1 c3
        refine e_iload_n (pc := 169) dX9_ask_169 rfl rfl ?_
        exact e_ret (pc := 170) (v := some (vI x1)) dX9_ask_170 rfl trivial ⟨_, rfl, H⟩
      · have H := H.2 c3
        refine e_iconst (pc := 33) dX9_ask_33 ⟨by decide, by decide⟩ ?_
        refine e_istore (lv' := [some (vR 55), some (vI x1), some (vI x2), some (vI x3), some (vI 0), none, none, none]) (pc := 34) dX9_ask_34 rfl rfl ?_
        refine e_iconst (pc := 36) dX9_ask_36 ⟨by decide, by decide⟩ ?_
        refine e_istore (lv' := [some (vR 55), some (vI x1), some (vI x2), some (vI x3), some (vI 0), some (vI 0), none, none]) (pc := 37) dX9_ask_37 rfl rfl ?_
        obtain ⟨m, H⟩ := H
        exact L2 m _ _ _ _ _ _ H
  refine e_aload_n (pc := 0) dX9_ask_0 rfl rfl ?_
  refine e_getI (q := 55) (ci := 9) (k := 20) (kz := 20) (C := RX9) (T := TX9) (N := 52) (x := (h 55 20)) (pc := 1) dX9_ask_1 rfl rfl rfl ev_in9 rfl ul_4_202 ⟨rfl, by decide⟩ rfl ?_
  refine e_if_ne (pc := 4) (tgt := 10) dX9_ask_4 (by decide) (fun c1 => ?_) (fun c1 => ?_)
  · have H := H.1 c1
    refine e_aload_n (pc := 10) dX9_ask_10 rfl rfl ?_
    refine e_invV (pc := 11) (Y' := Y_X9_unlikeMany) (as := []) (st := []) (lv0 := [some (vR 55), none, none, none, none]) (q := 55) (ci := 9) (T := TX9) (N := 52) dX9_ask_11 m_X9_unlikeMany ul_5_235 ⟨ul_5_237, us_X9_unlikeMany⟩ ⟨rfl, rfl⟩ rfl rfl rfl rfl rfl rfl rfl (c_X9_unlikeMany w h H.1) ?_
    rintro _ hz ⟨_, rfl, rfl, hh⟩
    rw [hh]
    show Ev w Y_X9_ask 14 [some (vR 55), none, none, none, none, none, none, none] [vI (unM h)] h (rI K)
    have H := H.2
    refine e_iconst (pc := 14) dX9_ask_14 ⟨by decide, by decide⟩ ?_
    refine e_icmp_ge (pc := 15) (tgt := 21) dX9_ask_15 (by decide) (fun c2 => ?_) (fun c2 => ?_)
    · have H := H.1 c2
      refine e_bipush (pc := 21) dX9_ask_21 ⟨by decide, by decide⟩ (by decide) ?_
      refine e_istore_n (lv' := [some (vR 55), some (vI (-4)), none, none, none, none, none, none]) (pc := 23) dX9_ask_23 rfl rfl rfl ?_
      refine e_iconst (pc := 24) dX9_ask_24 ⟨by decide, by decide⟩ ?_
      refine e_istore_n (lv' := [some (vR 55), some (vI (-4)), some (vI 0), none, none, none, none, none]) (pc := 25) dX9_ask_25 rfl rfl rfl ?_
      refine e_iconst (pc := 26) dX9_ask_26 ⟨by decide, by decide⟩ ?_
      refine e_istore_n (lv' := [some (vR 55), some (vI (-4)), some (vI 0), some (vI 0), none, none, none, none]) (pc := 27) dX9_ask_27 rfl rfl rfl ?_
      obtain ⟨m, H⟩ := H
      exact L1 m _ _ _ _ H
    · have H := H.2 c2
      refine e_bipush (pc := 18) dX9_ask_18 ⟨by decide, by decide⟩ (by decide) ?_
      exact e_ret (pc := 20) (v := some (vI (-4))) dX9_ask_20 rfl trivial ⟨_, rfl, H⟩
  · have H := H.2 c1
    refine e_bipush (pc := 7) dX9_ask_7 ⟨by decide, by decide⟩ (by decide) ?_
    exact e_ret (pc := 9) (v := some (vI (-2))) dX9_ask_9 rfl trivial ⟨_, rfl, H⟩
set_option maxRecDepth 100000 in
set_option maxHeartbeats 4000000 in
theorem c_X9_ask (w : WD)  (h : HP) (H : mHOK h ∧ mVOK h ∧ mEOK h) : Ev w Y_X9_ask 0 [some (vR 55), none, none, none, none, none, none, none] [] h (rI (fun r h' => r = (askM h) ∧ h' = h)) := by
  have hE := H.2.2
  have h23 := hE.1
  refine v_X9_ask w h _ (fun n1 x1 x2 x3 g => g = h ∧ (¬ h 55 20 = 0 ∧ 2 ≤ unM h) ∧ n1 = (3 - x3).toNat ∧ askB (grM h 0 (h 55 23).toNat) (grM h 1 (h 55 23).toNat) (grM h 2 (h 55 23).toNat) x1 x2 x3)
    (fun n1 n2 x1 x2 x3 x4 x5 g => g = h ∧ (¬ h 55 20 = 0 ∧ 2 ≤ unM h) ∧ n1 = (3 - x3).toNat ∧ x3 < 3 ∧ askB (grM h 0 (h 55 23).toNat) (grM h 1 (h 55 23).toNat) (grM h 2 (h 55 23).toNat) x1 x2 x3 ∧ ∃ k : Nat, x5 = (k : Int) ∧ (k : Int) ≤ h 55 23 ∧ n2 = (12 - x5).toNat ∧ x4 = grM h x3 k)
    (fun n1 n2 n3 x1 x2 x3 x4 x5 x6 x7 g => g = h ∧ (¬ h 55 20 = 0 ∧ 2 ≤ unM h) ∧ n1 = (3 - x3).toNat ∧ x3 < 3 ∧ askB (grM h 0 (h 55 23).toNat) (grM h 1 (h 55 23).toNat) (grM h 2 (h 55 23).toNat) x1 x2 x3 ∧ ∃ k : Nat, x5 = (k : Int) ∧ (k : Int) < h 55 23 ∧ n2 = (12 - x5).toNat ∧ x4 = grM h x3 k ∧ (0 ≤ x7 ∧ x7 ≤ h 55 23) ∧ n3 = (12 - x7).toNat ∧ x6 = cnt (fun j => h 75 (k : Int) = 1 ∧ h 75 j = 1 ∧ h 73 (3 * (k : Int) + x3) = h 73 (3 * j + x3)) x7.toNat) ⟨fun c => ⟨H, fun z => ⟨3, rfl, ⟨c, z⟩, rfl, Or.inl ⟨rfl, rfl⟩⟩, fun z => ⟨?_, rfl⟩⟩, fun c => ⟨?_, rfl⟩⟩ ?_ ?_ ?_
  · unfold askM; rw [cif_f c, cif_f z]
  · unfold askM; rw [cif_t c]
  · rintro n1 x1 x2 x3 g ⟨rfl, hz, rfl, hB⟩
    have hb := askB_b hB
    refine ⟨fun c => ⟨?_, rfl⟩, fun c => ⟨12, rfl, hz, rfl, by omega, hB, 0, rfl, by omega, rfl, rfl⟩⟩
    unfold askM
    rw [cif_f hz.1, cif_t hz.2]
    rcases hB with y | y | y | y
    · omega
    · omega
    · omega
    · exact y.2
  · rintro n1 n2 x1 x2 x3 x4 x5 g ⟨rfl, hz, rfl, h3, hB, k, rfl, hk, rfl, rfl⟩
    have hb := askB_b hB
    refine ⟨fun c => ?_, fun c => ⟨12, rfl, hz, rfl, h3, hB, k, rfl, by omega, rfl, rfl, by omega, rfl, rfl⟩⟩
    rw [show k = (g 55 23).toNat by omega]
    refine ⟨fun y => ⟨⟨by omega, by omega⟩, (3 - (x3 + 1)).toNat, by omega, rfl, hz, rfl, ?_⟩, fun y => ⟨⟨by omega, by omega⟩, (3 - (x3 + 1)).toNat, by omega, rfl, hz, rfl, ?_⟩⟩
    · rcases hB with ⟨rfl, rfl⟩ | ⟨rfl, rfl, rfl⟩ | ⟨rfl, ⟨rfl, rfl, u⟩ | ⟨rfl, rfl, u⟩⟩ | ⟨rfl, u⟩
      · exact Or.inr (Or.inl ⟨rfl, rfl, rfl⟩)
      · exact Or.inr (Or.inr (Or.inl ⟨rfl, Or.inl ⟨rfl, rfl, by omega⟩⟩))
      · exact Or.inr (Or.inr (Or.inr ⟨rfl, by unfold pta; rw [cif_t u, cif_t (by omega)]⟩))
      · exact Or.inr (Or.inr (Or.inr ⟨rfl, by unfold pta; rw [cif_f u, cif_t (by omega)]⟩))
      · omega
    · rcases hB with ⟨rfl, rfl⟩ | ⟨rfl, rfl, rfl⟩ | ⟨rfl, ⟨rfl, rfl, u⟩ | ⟨rfl, rfl, u⟩⟩ | ⟨rfl, u⟩
      · exact absurd (Or.inl rfl) y
      · exact Or.inr (Or.inr (Or.inl ⟨rfl, Or.inr ⟨rfl, rfl, by omega⟩⟩))
      · exact Or.inr (Or.inr (Or.inr ⟨rfl, by unfold pta; rw [cif_t u, cif_f (by omega)]⟩))
      · exact Or.inr (Or.inr (Or.inr ⟨rfl, by unfold pta; rw [cif_f u, cif_f (by omega)]⟩))
      · omega
  · rintro n1 n2 n3 x1 x2 x3 x4 x5 x6 x7 g ⟨rfl, hz, rfl, h3, hB, k, rfl, hk, rfl, rfl, h7, rfl, rfl⟩
    have hb := askB_b hB
    have hc := cnt_b (fun j => g 75 (k : Int) = 1 ∧ g 75 j = 1 ∧ g 73 (3 * (k : Int) + x3) = g 73 (3 * j + x3)) x7.toNat
    have hs : cnt (fun j => g 75 (k : Int) = 1 ∧ g 75 j = 1 ∧ g 73 (3 * (k : Int) + x3) = g 73 (3 * j + x3)) (x7 + 1).toNat = cnt (fun j => g 75 (k : Int) = 1 ∧ g 75 j = 1 ∧ g 73 (3 * (k : Int) + x3) = g 73 (3 * j + x3)) x7.toNat + b2i (g 75 (k : Int) = 1 ∧ g 75 x7 = 1 ∧ g 73 (3 * (k : Int) + x3) = g 73 (3 * x7 + x3)) := cnt_next h7.1
    refine ⟨fun c => ⟨⟨by omega, by omega⟩, (12 - ((k + 1 : Nat) : Int)).toNat, by omega, rfl, hz, rfl, h3, hB, k + 1, by omega, by omega, by omega, ?_⟩, fun c => ?_⟩
    · rw [cif_max, show x7 = g 55 23 by omega]
      rfl
    · have k01 := (hE.2.2.1 (k : Int) (by omega) (by omega)).2
      have x01 := (hE.2.2.1 x7 h7.1 (by omega)).2
      have hv : b2i (¬ g 75 (k : Int) = 0 ∧ ¬ g 75 x7 = 0 ∧ g 73 (3 * (k : Int) + x3) = g 73 (3 * x7 + x3)) = b2i (g 75 (k : Int) = 1 ∧ g 75 x7 = 1 ∧ g 73 (3 * (k : Int) + x3) = g 73 (3 * x7 + x3)) := b2i_c ⟨fun y => ⟨by omega, by omega, y.2.2⟩, fun y => ⟨by omega, by omega, y.2.2⟩⟩
      have v01 := b2i_01 (g 75 (k : Int) = 1 ∧ g 75 x7 = 1 ∧ g 73 (3 * (k : Int) + x3) = g 73 (3 * x7 + x3))
      rw [hv]
      exact ⟨by omega, ⟨fun _ => trivial, fun _ => ⟨by omega, fun _ => trivial, fun _ => ⟨⟨by omega, by omega⟩, ⟨by omega, by omega⟩, by omega, ⟨by omega, by omega⟩, ⟨by omega, by omega⟩, by omega, trivial⟩⟩⟩, ⟨by omega, by omega⟩, ⟨by omega, by omega⟩, (12 - (x7 + 1)).toNat, by omega, rfl, hz, rfl, h3, hB, k, rfl, hk, rfl, rfl, by omega, rfl, hs.symm⟩
