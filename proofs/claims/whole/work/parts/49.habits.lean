/-! habits of both sides -/
def hsL (L : List LE) (day hr t v : Int) : Prop := ∃ e : LE, e ∈ L ∧ e.2 = (day, hr, t, v)
theorem hsL_s {L : List LE} {k : Nat} (hk : k < L.length) (day hr t v : Int) : hsL (L.take (k + 1)) day hr t v ↔ hsL (L.take k) day hr t v ∨ (L.getD k d0).2 = (day, hr, t, v) := by
  unfold hsL
  rw [List.take_succ_eq_append_getElem hk, List.getD_eq_getElem?_getD, List.getElem?_eq_getElem hk]
  constructor
  · rintro ⟨e, he, e2⟩
    rw [List.mem_append, List.mem_singleton] at he
    rcases he with he | he
    · exact Or.inl ⟨e, he, e2⟩
    · subst he; exact Or.inr e2
  · rintro (⟨e, he, e2⟩ | e2)
    · exact ⟨e, List.mem_append_left _ he, e2⟩
    · exact ⟨_, List.mem_append_right _ (List.mem_singleton.mpr rfl), e2⟩
def lgOK (L : List LE) (N : Int) : Prop := ∀ e : LE, e ∈ L → (0 ≤ e.2.1 ∧ e.2.1 ≤ 100000000) ∧ (0 ≤ e.2.2.1 ∧ e.2.2.1 < 24) ∧ (0 ≤ e.2.2.2.1 ∧ e.2.2.2.1 < N) ∧ (0 ≤ e.2.2.2.2 ∧ e.2.2.2.2 ≤ 3)
theorem gD_mem {L : List LE} {k : Nat} (h : k < L.length) : L.getD k d0 ∈ L := by
  rw [List.getD_eq_getElem?_getD, List.getElem?_eq_getElem h]
  exact List.getElem_mem h
def tld (k : Int) : Int := 10 * (k / 4) + k % 4
def S_X1_gatherDays (td d : Int) (h : HP) (K : HP → Prop) : Prop := ∃ L : List LE, (lgC h L ∧ lgOK L 10 ∧ (0 ≤ td ∧ td ≤ 100000000) ∧ (1 ≤ d ∧ d ≤ 14)) ∧ ∀ h' : HP, (∀ q, q ≠ 53 → h' q = h q) → (∀ c : Int, 0 ≤ c → c < 960 → h' 53 c = bset (fun a => a < d ∧ hsL L (td - a) (c / 40) (c / 4 % 10) (c % 4)) 31) → K h'
set_option maxRecDepth 100000 in
set_option maxHeartbeats 4000000 in
theorem v_X1_gatherDays (w : WD) (td : Int) (d : Int) (h : HP) (K : HP → Prop) 
    (I1 : Nat → Int → HP → Prop)
    (H : (S_J7_fill_53178 53 0 h (fun h21 => (∃ m : Nat, I1 m 0 h21))))
    (H1 : ∀ (n1 : Nat) (x3 : Int) (g1 : HP), I1 n1 x3 g1 → (((g1 8 6) ≤ x3 → K g1) ∧ (¬ (g1 8 6) ≤ x3 → ((0 ≤ x3 ∧ x3 < 60) ∧ ((iR (td - (g1 49 x3))) ∧ (((((td - (g1 49 x3)) < 0) ∨ (d ≤ (td - (g1 49 x3)))) → ((iR (x3 + 1)) ∧ (∃ m : Nat, m < n1 ∧ I1 m (x3 + 1) g1))) ∧ (¬ (((td - (g1 49 x3)) < 0) ∨ (d ≤ (td - (g1 49 x3)))) → ((0 ≤ x3 ∧ x3 < 60) ∧ ((iR ((g1 50 x3) * 10)) ∧ ((0 ≤ x3 ∧ x3 < 60) ∧ ((iR (((g1 50 x3) * 10) + (g1 51 x3))) ∧ ((iR ((((g1 50 x3) * 10) + (g1 51 x3)) * 4)) ∧ ((0 ≤ x3 ∧ x3 < 60) ∧ ((iR (((((g1 50 x3) * 10) + (g1 51 x3)) * 4) + (g1 52 x3))) ∧ ((0 ≤ (((((g1 50 x3) * 10) + (g1 51 x3)) * 4) + (g1 52 x3)) ∧ (((((g1 50 x3) * 10) + (g1 51 x3)) * 4) + (g1 52 x3)) < 960) ∧ ((0 ≤ (((((g1 50 x3) * 10) + (g1 51 x3)) * 4) + (g1 52 x3)) ∧ (((((g1 50 x3) * 10) + (g1 51 x3)) * 4) + (g1 52 x3)) < 960) ∧ ((iR (x3 + 1)) ∧ (∃ m : Nat, m < n1 ∧ I1 m (x3 + 1) (sth g1 53 (((((g1 50 x3) * 10) + (g1 51 x3)) * 4) + (g1 52 x3)) (ior (g1 53 (((((g1 50 x3) * 10) + (g1 51 x3)) * 4) + (g1 52 x3))) (ishl 1 (td - (g1 49 x3))))))))))))))))))))))) :
    Ev w Y_X1_gatherDays 0 [some (vR 8), some (vI td), some (vI d), none, none] [] h (rV K) := by
  have L1 : ∀ (n1 : Nat) (x3 : Int) (g1 : HP), I1 n1 x3 g1 → Ev w Y_X1_gatherDays 10 [some (vR 8), some (vI td), some (vI d), some (vI x3), none] [] g1 (rV K) := by
    intro n1
    induction n1 using Nat.strongRecOn with
    | ind n1 ih1 =>
      intro x3 g1 H
      have H := H1 n1 x3 g1 H
      refine e_iload_n (pc := 10) dX1_gatherDays_10 rfl rfl ?_
      refine e_aload_n (pc := 11) dX1_gatherDays_11 rfl rfl ?_
      refine e_getI (q := 8) (ci := 1) (k := 6) (kz := 6) (C := RX1) (T := TX1) (N := 8) (x := (g1 8 6)) (pc := 12) dX1_gatherDays_12 rfl rfl rfl ev_in1 rfl ul_2_77 ⟨rfl, by decide⟩ rfl ?_
      refine e_icmp_ge (pc := 15) (tgt := 82) dX1_gatherDays_15 (by decide) (fun c1 => ?_) (fun c1 => ?_)
      · have H := H.1 c1
        exact e_ret (pc := 82) (v := none) dX1_gatherDays_82 rfl trivial ⟨rfl, H⟩
      · have H := H.2 c1
        refine e_iload_n (pc := 18) dX1_gatherDays_18 rfl rfl ?_
        refine e_aload_n (pc := 19) dX1_gatherDays_19 rfl rfl ?_
        refine e_getR (q := 8) (ci := 1) (k := 1) (y := 49) (C := RX1) (T := TX1) (N := 8) (pc := 20) dX1_gatherDays_20 rfl rfl ev_in1 rfl ul_2_72 ⟨rfl, rfl⟩ rfl ?_
        refine e_iload_n (pc := 23) dX1_gatherDays_23 rfl rfl ?_
        refine e_iald (q := 49) (x := (g1 49 x3)) (pc := 24) dX1_gatherDays_24 rfl H.1 rfl ?_
        have H := H.2
        refine e_isub (pc := 25) dX1_gatherDays_25 H.1 ?_
        have H := H.2
        refine e_istore (lv' := [some (vR 8), some (vI td), some (vI d), some (vI x3), some (vI (td - (g1 49 x3)))]) (pc := 26) dX1_gatherDays_26 rfl rfl ?_
        refine e_iload (pc := 28) dX1_gatherDays_28 rfl ?_
        have J1 : (((td - (g1 49 x3)) < 0) ∨ (d ≤ (td - (g1 49 x3)))) → Ev w Y_X1_gatherDays 76 [some (vR 8), some (vI td), some (vI d), some (vI x3), some (vI (td - (g1 49 x3)))] [] g1 (rV K) := by
          intro hp
          have H := H.1 hp
          refine e_iinc (lv' := [some (vR 8), some (vI td), some (vI d), some (vI (x3 + 1)), some (vI (td - (g1 49 x3)))]) (pc := 76) dX1_gatherDays_76 rfl H.1 rfl rfl ?_
          have H := H.2
          refine e_goto (pc := 79) (tgt := 10) dX1_gatherDays_79 (by decide) ?_
          refine e_mask [true, true, true, true, false] rfl ?_
          obtain ⟨m, hm, H⟩ := H
          exact ih1 m hm _ _ H
        have J2 : ¬ (((td - (g1 49 x3)) < 0) ∨ (d ≤ (td - (g1 49 x3)))) → Ev w Y_X1_gatherDays 39 [some (vR 8), some (vI td), some (vI d), some (vI x3), some (vI (td - (g1 49 x3)))] [] g1 (rV K) := by
          intro hp
          have H := H.2 hp
          refine e_aload_n (pc := 39) dX1_gatherDays_39 rfl rfl ?_
          refine e_getR (q := 8) (ci := 1) (k := 5) (y := 53) (C := RX1) (T := TX1) (N := 8) (pc := 40) dX1_gatherDays_40 rfl rfl ev_in1 rfl ul_2_76 ⟨rfl, rfl⟩ rfl ?_
          refine e_aload_n (pc := 43) dX1_gatherDays_43 rfl rfl ?_
          refine e_getR (q := 8) (ci := 1) (k := 2) (y := 50) (C := RX1) (T := TX1) (N := 8) (pc := 44) dX1_gatherDays_44 rfl rfl ev_in1 rfl ul_2_73 ⟨rfl, rfl⟩ rfl ?_
          refine e_iload_n (pc := 47) dX1_gatherDays_47 rfl rfl ?_
          refine e_iald (q := 50) (x := (g1 50 x3)) (pc := 48) dX1_gatherDays_48 rfl H.1 rfl ?_
          have H := H.2
          refine e_bipush (pc := 49) dX1_gatherDays_49 ⟨by decide, by decide⟩ (by decide) ?_
          refine e_imul (pc := 51) dX1_gatherDays_51 H.1 ?_
          have H := H.2
          refine e_aload_n (pc := 52) dX1_gatherDays_52 rfl rfl ?_
          refine e_getR (q := 8) (ci := 1) (k := 3) (y := 51) (C := RX1) (T := TX1) (N := 8) (pc := 53) dX1_gatherDays_53 rfl rfl ev_in1 rfl ul_2_74 ⟨rfl, rfl⟩ rfl ?_
          refine e_iload_n (pc := 56) dX1_gatherDays_56 rfl rfl ?_
          refine e_iald (q := 51) (x := (g1 51 x3)) (pc := 57) dX1_gatherDays_57 rfl H.1 rfl ?_
          have H := H.2
          refine e_iadd (pc := 58) dX1_gatherDays_58 H.1 ?_
          have H := H.2
          refine e_iconst (pc := 59) dX1_gatherDays_59 ⟨by decide, by decide⟩ ?_
          refine e_imul (pc := 60) dX1_gatherDays_60 H.1 ?_
          have H := H.2
          refine e_aload_n (pc := 61) dX1_gatherDays_61 rfl rfl ?_
          refine e_getR (q := 8) (ci := 1) (k := 4) (y := 52) (C := RX1) (T := TX1) (N := 8) (pc := 62) dX1_gatherDays_62 rfl rfl ev_in1 rfl ul_2_75 ⟨rfl, rfl⟩ rfl ?_
          refine e_iload_n (pc := 65) dX1_gatherDays_65 rfl rfl ?_
          refine e_iald (q := 52) (x := (g1 52 x3)) (pc := 66) dX1_gatherDays_66 rfl H.1 rfl ?_
          have H := H.2
          refine e_iadd (pc := 67) dX1_gatherDays_67 H.1 ?_
          have H := H.2
          refine e_dup2 (pc := 68) dX1_gatherDays_68 rfl rfl ?_
          refine e_iald (q := 53) (x := (g1 53 (((((g1 50 x3) * 10) + (g1 51 x3)) * 4) + (g1 52 x3)))) (pc := 69) dX1_gatherDays_69 rfl H.1 rfl ?_
          have H := H.2
          refine e_iconst (pc := 70) dX1_gatherDays_70 ⟨by decide, by decide⟩ ?_
          refine e_iload (pc := 71) dX1_gatherDays_71 rfl ?_
          refine e_ishl (pc := 73) dX1_gatherDays_73 ?_
          refine e_ior (pc := 74) dX1_gatherDays_74 ?_
          refine e_iast (q := 53) (pc := 75) dX1_gatherDays_75 rfl H.1 ?_
          have H := H.2
          refine e_iinc (lv' := [some (vR 8), some (vI td), some (vI d), some (vI (x3 + 1)), some (vI (td - (g1 49 x3)))]) (pc := 76) dX1_gatherDays_76 rfl H.1 rfl rfl ?_
          have H := H.2
          refine e_goto (pc := 79) (tgt := 10) dX1_gatherDays_79 (by decide) ?_
          refine e_mask [true, true, true, true, false] rfl ?_
          obtain ⟨m, hm, H⟩ := H
          exact ih1 m hm _ _ H
        refine e_if_lt (pc := 30) (tgt := 76) dX1_gatherDays_30 (by decide) (fun c2 => ?_) (fun c2 => ?_)
        · exact J1 (Or.inl c2)
        · refine e_iload (pc := 33) dX1_gatherDays_33 rfl ?_
          refine e_iload_n (pc := 35) dX1_gatherDays_35 rfl rfl ?_
          refine e_icmp_ge (pc := 36) (tgt := 76) dX1_gatherDays_36 (by decide) (fun c3 => ?_) (fun c3 => ?_)
          · exact J1 (Or.inr c3)
          · exact J2 (fun z => z.elim c2 c3)
  refine e_aload_n (pc := 0) dX1_gatherDays_0 rfl rfl ?_
  refine e_getR (q := 8) (ci := 1) (k := 5) (y := 53) (C := RX1) (T := TX1) (N := 8) (pc := 1) dX1_gatherDays_1 rfl rfl ev_in1 rfl ul_2_76 ⟨rfl, rfl⟩ rfl ?_
  refine e_iconst (pc := 4) dX1_gatherDays_4 ⟨by decide, by decide⟩ ?_
  refine e_invS (pc := 5) (Y' := Y_J7_fill_53178) (as := [vR 53, vI 0]) (st := []) (lv0 := [some (vR 53), some (vI 0), none, none]) dX1_gatherDays_5 m_J7_fill_53178 ul_4_135 ul_1_31 ⟨rfl, rfl⟩ rfl rfl rfl rfl rfl (c_J7_fill_53178 w 53 0 h _ rfl H) ?_
  rintro _ h21 ⟨rfl, H⟩
  show Ev w Y_X1_gatherDays 8 [some (vR 8), some (vI td), some (vI d), none, none] [] h21 (rV K)
  refine e_iconst (pc := 8) dX1_gatherDays_8 ⟨by decide, by decide⟩ ?_
  refine e_istore_n (lv' := [some (vR 8), some (vI td), some (vI d), some (vI 0), none]) (pc := 9) dX1_gatherDays_9 rfl rfl rfl ?_
  obtain ⟨m, H⟩ := H
  exact L1 m _ _ H
set_option maxRecDepth 100000 in
set_option maxHeartbeats 4000000 in
theorem c_X1_gatherDays (w : WD) (td : Int) (d : Int) (h : HP) (K : HP → Prop)  (H : S_X1_gatherDays td d h K) : Ev w Y_X1_gatherDays 0 [some (vR 8), some (vI td), some (vI d), none, none] [] h (rV K) := by
  obtain ⟨L, ⟨hL, hO, htd, hd⟩, HK⟩ := H
  refine v_X1_gatherDays w td d h K (fun n x3 g => ∃ k : Nat, x3 = (k : Int) ∧ k ≤ L.length ∧ n = 60 - k ∧ (∀ q, q ≠ 53 → g q = h q) ∧ ∀ c : Int, 0 ≤ c → c < 960 → (0 ≤ g 53 c ∧ g 53 c < 2147483648) ∧ ∀ a : Int, 0 ≤ a → (mem (g 53 c) a ↔ (a < d ∧ hsL (L.take k) (td - a) (c / 40) (c / 4 % 10) (c % 4)))) (fun h1 p1 p2 => ⟨60, 0, rfl, Nat.zero_le _, rfl, p1, fun c a b => ?_⟩) ?_
  · rw [p2 960 rfl c a b]
    refine ⟨by omega, fun a ha => ⟨fun y => ?_, fun y => ?_⟩⟩
    · unfold mem at y; simp at y
    · obtain ⟨e, he, _⟩ := y.2
      simp at he
  · rintro n x3 g ⟨k, rfl, hk, rfl, hg, hm⟩
    have g8 : g 8 = h 8 := hg 8 (by decide)
    have h1 := hL.1
    have h2 := hL.2.1
    rw [g8]
    refine ⟨fun cc => HK g hg (fun c a b => ?_), fun c => ?_⟩
    · have e : k = L.length := by omega
      subst e
      rw [List.take_length] at hm
      have hmc := hm c a b
      rw [set_bset (x := g 53 c) (n := 31) ⟨hmc.1.1, by omega⟩]
      exact bset_c (fun i i0 _ => hmc.2 i i0)
    · have hk2 : k < L.length := by omega
      have he := hL.2.2 k hk2
      have ho := hO _ (gD_mem hk2)
      rw [← he] at ho
      have e49 : g 49 = h 49 := hg _ (by decide)
      have e50 : g 50 = h 50 := hg _ (by decide)
      have e51 : g 51 = h 51 := hg _ (by decide)
      have e52 : g 52 = h 52 := hg _ (by decide)
      rw [e49, e50, e51, e52]
      have o1 : (0 ≤ h 49 (k : Int) ∧ h 49 (k : Int) ≤ 100000000) ∧ (0 ≤ h 50 (k : Int) ∧ h 50 (k : Int) < 24) ∧ (0 ≤ h 51 (k : Int) ∧ h 51 (k : Int) < 10) ∧ (0 ≤ h 52 (k : Int) ∧ h 52 (k : Int) ≤ 3) := ho
      have hst := fun day hr t v => hsL_s (L := L) hk2 day hr t v
      have hq : ∀ day hr t v : Int, (L.getD k d0).2 = (day, hr, t, v) ↔ (h 49 (k : Int) = day ∧ h 50 (k : Int) = hr ∧ h 51 (k : Int) = t ∧ h 52 (k : Int) = v) := fun day hr t v => by
        rw [← he]
        unfold leC
        simp only [Prod.mk.injEq]
      generalize h 49 (k : Int) = dy at *
      generalize h 50 (k : Int) = hr at *
      generalize h 51 (k : Int) = tg at *
      generalize h 52 (k : Int) = vv at *
      refine ⟨by omega, ⟨by omega, by omega⟩, fun z => ⟨⟨by omega, by omega⟩, 60 - (k + 1), by omega, k + 1, by omega, by omega, rfl, hg, fun c a b => ⟨(hm c a b).1, fun i i0 => ?_⟩⟩, fun z => ⟨by omega, ⟨by omega, by omega⟩, by omega, ⟨by omega, by omega⟩, ⟨by omega, by omega⟩, by omega, ⟨by omega, by omega⟩, by omega, by omega, ⟨by omega, by omega⟩, 60 - (k + 1), by omega, k + 1, by omega, by omega, rfl, fun q a => by rw [sth_ne a]; exact hg q a, fun c a b => ?_⟩⟩
      · rw [(hm c a b).2 i i0, hst, hq]
        constructor
        · exact fun y => ⟨y.1, Or.inl y.2⟩
        · rintro ⟨y1, y | y⟩
          · exact ⟨y1, y⟩
          · omega
      · rw [sth_eq]
        have hmc := hm c a b
        by_cases e : c = ((hr * 10 + tg) * 4 + vv)
        · rw [← e, us_s]
          have hmo := mem_or (x := g 53 c) (t := td - dy) hmc.1 (by omega)
          refine ⟨hmo.1, fun i i0 => ?_⟩
          rw [hmo.2 i i0, hmc.2 i i0, hst, hq]
          constructor
          · rintro (y | y)
            · exact ⟨y.1, Or.inl y.2⟩
            · exact ⟨by omega, Or.inr ⟨by omega, by omega, by omega, by omega⟩⟩
          · rintro ⟨y1, y | y⟩
            · exact Or.inl ⟨y1, y⟩
            · exact Or.inr (by omega)
        · rw [us_n e]
          refine ⟨hmc.1, fun i i0 => ?_⟩
          rw [hmc.2 i i0, hst, hq]
          constructor
          · exact fun y => ⟨y.1, Or.inl y.2⟩
          · rintro ⟨y1, y | y⟩
            · exact ⟨y1, y⟩
            · exfalso; omega
set_option maxRecDepth 100000 in
set_option maxHeartbeats 4000000 in
theorem v_X1_howMany (w : WD) (m : Int) (h : HP) (K : Int → HP → Prop) 
    (I1 : Nat → Int → Int → HP → Prop)
    (H : (∃ m : Nat, I1 m 0 0 h))
    (H1 : ∀ (n1 : Nat) (x2 : Int) (x3 : Int) (g1 : HP), I1 n1 x2 x3 g1 → ((960 ≤ x3 → K x2 g1) ∧ (¬ 960 ≤ x3 → ((0 ≤ x3 ∧ x3 < 960) ∧ ((0 ≤ (g1 53 x3) ∧ (g1 53 x3) < 65536) ∧ (((cnt (mem (g1 53 x3)) 16) < m → ((iR (x3 + 1)) ∧ (∃ m : Nat, m < n1 ∧ I1 m x2 (x3 + 1) g1))) ∧ (¬ (cnt (mem (g1 53 x3)) 16) < m → ((iR (x2 + 1)) ∧ ((iR (x3 + 1)) ∧ (∃ m : Nat, m < n1 ∧ I1 m (x2 + 1) (x3 + 1) g1)))))))))) :
    Ev w Y_X1_howMany 0 [some (vR 8), some (vI m), none, none] [] h (rI K) := by
  have L1 : ∀ (n1 : Nat) (x2 : Int) (x3 : Int) (g1 : HP), I1 n1 x2 x3 g1 → Ev w Y_X1_howMany 4 [some (vR 8), some (vI m), some (vI x2), some (vI x3)] [] g1 (rI K) := by
    intro n1
    induction n1 using Nat.strongRecOn with
    | ind n1 ih1 =>
      intro x2 x3 g1 H
      have H := H1 n1 x2 x3 g1 H
      refine e_iload_n (pc := 4) dX1_howMany_4 rfl rfl ?_
      refine e_aload_n (pc := 5) dX1_howMany_5 rfl rfl ?_
      refine e_getR (q := 8) (ci := 1) (k := 5) (y := 53) (C := RX1) (T := TX1) (N := 8) (pc := 6) dX1_howMany_6 rfl rfl ev_in1 rfl ul_2_76 ⟨rfl, rfl⟩ rfl ?_
      refine e_alen (q := 53) (n := 960) (pc := 9) dX1_howMany_9 rfl ⟨by decide, by decide⟩ ?_
      refine e_icmp_ge (pc := 10) (tgt := 35) dX1_howMany_10 (by decide) (fun c1 => ?_) (fun c1 => ?_)
      · have H := H.1 c1
        refine e_iload_n (pc := 35) dX1_howMany_35 rfl rfl ?_
        exact e_ret (pc := 36) (v := some (vI x2)) dX1_howMany_36 rfl trivial ⟨_, rfl, H⟩
      · have H := H.2 c1
        refine e_aload_n (pc := 13) dX1_howMany_13 rfl rfl ?_
        refine e_getR (q := 8) (ci := 1) (k := 5) (y := 53) (C := RX1) (T := TX1) (N := 8) (pc := 14) dX1_howMany_14 rfl rfl ev_in1 rfl ul_2_76 ⟨rfl, rfl⟩ rfl ?_
        refine e_iload_n (pc := 17) dX1_howMany_17 rfl rfl ?_
        refine e_iald (q := 53) (x := (g1 53 x3)) (pc := 18) dX1_howMany_18 rfl H.1 rfl ?_
        have H := H.2
        refine e_invS (pc := 19) (Y' := Y_J6_bitCount_0f7a4) (as := [vI (g1 53 x3)]) (st := []) (lv0 := [some (vI (g1 53 x3))]) dX1_howMany_19 m_J6_bitCount_0f7a4 ul_4_140 ul_4_15 ⟨rfl, rfl⟩ rfl rfl rfl rfl rfl (c_J6_bitCount_0f7a4 w (g1 53 x3) g1 H.1) ?_
        rintro _ hz ⟨_, rfl, rfl, hh⟩
        rw [hh]
        show Ev w Y_X1_howMany 22 [some (vR 8), some (vI m), some (vI x2), some (vI x3)] [vI (cnt (mem (g1 53 x3)) 16)] g1 (rI K)
        have H := H.2
        refine e_iload_n (pc := 22) dX1_howMany_22 rfl rfl ?_
        refine e_icmp_lt (pc := 23) (tgt := 29) dX1_howMany_23 (by decide) (fun c2 => ?_) (fun c2 => ?_)
        · have H := H.1 c2
          refine e_iinc (lv' := [some (vR 8), some (vI m), some (vI x2), some (vI (x3 + 1))]) (pc := 29) dX1_howMany_29 rfl H.1 rfl rfl ?_
          have H := H.2
          refine e_goto (pc := 32) (tgt := 4) dX1_howMany_32 (by decide) ?_
          obtain ⟨m, hm, H⟩ := H
          exact ih1 m hm _ _ _ H
        · have H := H.2 c2
          refine e_iinc (lv' := [some (vR 8), some (vI m), some (vI (x2 + 1)), some (vI x3)]) (pc := 26) dX1_howMany_26 rfl H.1 rfl rfl ?_
          have H := H.2
          refine e_iinc (lv' := [some (vR 8), some (vI m), some (vI (x2 + 1)), some (vI (x3 + 1))]) (pc := 29) dX1_howMany_29 rfl H.1 rfl rfl ?_
          have H := H.2
          refine e_goto (pc := 32) (tgt := 4) dX1_howMany_32 (by decide) ?_
          obtain ⟨m, hm, H⟩ := H
          exact ih1 m hm _ _ _ H
  refine e_iconst (pc := 0) dX1_howMany_0 ⟨by decide, by decide⟩ ?_
  refine e_istore_n (lv' := [some (vR 8), some (vI m), some (vI 0), none]) (pc := 1) dX1_howMany_1 rfl rfl rfl ?_
  refine e_iconst (pc := 2) dX1_howMany_2 ⟨by decide, by decide⟩ ?_
  refine e_istore_n (lv' := [some (vR 8), some (vI m), some (vI 0), some (vI 0)]) (pc := 3) dX1_howMany_3 rfl rfl rfl ?_
  obtain ⟨m, H⟩ := H
  exact L1 m _ _ _ H
set_option maxRecDepth 100000 in
set_option maxHeartbeats 4000000 in
theorem c_X1_howMany (w : WD) (m : Int) (h : HP) (H : ∀ k : Int, 0 ≤ k → k < 960 → 0 ≤ h 53 k ∧ h 53 k < 65536) : Ev w Y_X1_howMany 0 [some (vR 8), some (vI m), none, none] [] h (rI (fun r h' => r = ((wkP (fun k => m ≤ cnt (mem (h 53 k)) 16) 960).length : Int) ∧ h' = h)) := by
  refine v_X1_howMany w m h _ (fun n x2 x3 g => g = h ∧ ∃ k : Nat, x3 = (k : Int) ∧ k ≤ 960 ∧ n = 960 - k ∧ x2 = ((wkP (fun k => m ≤ cnt (mem (h 53 k)) 16) k).length : Int)) ⟨960, rfl, 0, rfl, by omega, rfl, rfl⟩ ?_
  rintro n x2 x3 g ⟨rfl, k, rfl, hk, rfl, rfl⟩
  have hl := wkP_l (fun k => m ≤ cnt (mem (g 53 k)) 16) k
  refine ⟨fun c => ⟨by rw [show k = 960 by omega], rfl⟩, fun c => ⟨by omega, H _ (by omega) (by omega), fun z => ⟨⟨by omega, by omega⟩, 960 - (k + 1), by omega, rfl, k + 1, by omega, by omega, rfl, ?_⟩, fun z => ⟨⟨by omega, by omega⟩, ⟨by omega, by omega⟩, 960 - (k + 1), by omega, rfl, k + 1, by omega, by omega, rfl, ?_⟩⟩⟩
  · rw [wkP_f (by omega)]
  · rw [wkP_t (by omega), List.length_append, List.length_singleton]; omega
set_option maxRecDepth 100000 in
set_option maxHeartbeats 4000000 in
theorem v_X1_toldAs (w : WD) (k : Int) (h : HP) (K : Int → HP → Prop) 
    (H : ((0 ≤ k) ∧ ((0 ≤ k) ∧ ((0 ≤ (k / 4)) ∧ ((0 ≤ k) ∧ ((0 ≤ (k / 4)) ∧ ((iR (100 * ((k / 4) / 10))) ∧ ((iR (10 * ((k / 4) % 10))) ∧ ((iR ((100 * ((k / 4) / 10)) + (10 * ((k / 4) % 10)))) ∧ ((iR (((100 * ((k / 4) / 10)) + (10 * ((k / 4) % 10))) + (k % 4))) ∧ K (((100 * ((k / 4) / 10)) + (10 * ((k / 4) % 10))) + (k % 4)) h)))))))))) :
    Ev w Y_X1_toldAs 0 [some (vI k), none, none] [] h (rI K) := by
  refine e_iload_n (pc := 0) dX1_toldAs_0 rfl rfl ?_
  refine e_iconst (pc := 1) dX1_toldAs_1 ⟨by decide, by decide⟩ ?_
  refine e_irem (pc := 2) dX1_toldAs_2 ⟨H.1, by decide⟩ ?_
  have H := H.2
  refine e_istore_n (lv' := [some (vI k), some (vI (k % 4)), none]) (pc := 3) dX1_toldAs_3 rfl rfl rfl ?_
  refine e_iload_n (pc := 4) dX1_toldAs_4 rfl rfl ?_
  refine e_iconst (pc := 5) dX1_toldAs_5 ⟨by decide, by decide⟩ ?_
  refine e_idiv (pc := 6) dX1_toldAs_6 ⟨H.1, by decide⟩ ?_
  have H := H.2
  refine e_bipush (pc := 7) dX1_toldAs_7 ⟨by decide, by decide⟩ (by decide) ?_
  refine e_irem (pc := 9) dX1_toldAs_9 ⟨H.1, by decide⟩ ?_
  have H := H.2
  refine e_istore_n (lv' := [some (vI k), some (vI (k % 4)), some (vI ((k / 4) % 10))]) (pc := 10) dX1_toldAs_10 rfl rfl rfl ?_
  refine e_bipush (pc := 11) dX1_toldAs_11 ⟨by decide, by decide⟩ (by decide) ?_
  refine e_iload_n (pc := 13) dX1_toldAs_13 rfl rfl ?_
  refine e_iconst (pc := 14) dX1_toldAs_14 ⟨by decide, by decide⟩ ?_
  refine e_idiv (pc := 15) dX1_toldAs_15 ⟨H.1, by decide⟩ ?_
  have H := H.2
  refine e_bipush (pc := 16) dX1_toldAs_16 ⟨by decide, by decide⟩ (by decide) ?_
  refine e_idiv (pc := 18) dX1_toldAs_18 ⟨H.1, by decide⟩ ?_
  have H := H.2
  refine e_imul (pc := 19) dX1_toldAs_19 H.1 ?_
  have H := H.2
  refine e_bipush (pc := 20) dX1_toldAs_20 ⟨by decide, by decide⟩ (by decide) ?_
  refine e_iload_n (pc := 22) dX1_toldAs_22 rfl rfl ?_
  refine e_imul (pc := 23) dX1_toldAs_23 H.1 ?_
  have H := H.2
  refine e_iadd (pc := 24) dX1_toldAs_24 H.1 ?_
  have H := H.2
  refine e_iload_n (pc := 25) dX1_toldAs_25 rfl rfl ?_
  refine e_iadd (pc := 26) dX1_toldAs_26 H.1 ?_
  have H := H.2
  exact e_ret (pc := 27) (v := some (vI (((100 * ((k / 4) / 10)) + (10 * ((k / 4) % 10))) + (k % 4)))) dX1_toldAs_27 rfl trivial ⟨_, rfl, H⟩
set_option maxRecDepth 100000 in
set_option maxHeartbeats 4000000 in
theorem c_X1_toldAs (w : WD) (k : Int) (h : HP) (H : 0 ≤ k ∧ k < 960) : Ev w Y_X1_toldAs 0 [some (vI k), none, none] [] h (rI (fun r h' => r = (tld k) ∧ h' = h)) := by
  refine v_X1_toldAs w k h _ ⟨by omega, by omega, by omega, by omega, by omega, ⟨by omega, by omega⟩, ⟨by omega, by omega⟩, ⟨by omega, by omega⟩, ⟨by omega, by omega⟩, ?_, rfl⟩
  unfold tld
  omega
/-- the i-th of a list, or none -/
def nthL (L : List Int) (i : Int) : Int := if 0 ≤ i ∧ i < (L.length : Int) then L.getD i.toNat 0 else -4
theorem wkP_pre {p : Int → Prop} : ∀ {m n : Nat}, m ≤ n → ∃ R : List Int, wkP p n = wkP p m ++ R
  | m, 0, h => ⟨[], by rw [Nat.le_zero.mp h]; rfl⟩
  | m, n + 1, h => by
    by_cases e : m = n + 1
    · exact ⟨[], by rw [e, List.append_nil]⟩
    · obtain ⟨R, hR⟩ := wkP_pre (p := p) (m := m) (n := n) (by omega)
      by_cases c : p (n : Int)
      · exact ⟨R ++ [(n : Int)], by rw [wkP_t c, hR, List.append_assoc]⟩
      · exact ⟨R, by rw [wkP_f c, hR]⟩
theorem wkP_nth {p : Int → Prop} {k n : Nat} (hp : p (k : Int)) (hk : k < n) : (wkP p k).length < (wkP p n).length ∧ (wkP p n).getD (wkP p k).length 0 = (k : Int) := by
  obtain ⟨R, hR⟩ := wkP_pre (p := p) (m := k + 1) (n := n) (by omega)
  rw [hR, wkP_t hp]
  refine ⟨by simp only [List.length_append, List.length_singleton]; omega, ?_⟩
  rw [List.append_assoc, List.getD_eq_getElem?_getD, List.getElem?_append_right (Nat.le_refl _), Nat.sub_self]
  rfl
set_option maxRecDepth 100000 in
set_option maxHeartbeats 4000000 in
theorem v_X1_habit (w : WD) (m : Int) (i : Int) (h : HP) (K : Int → HP → Prop) 
    (I1 : Nat → Int → Int → HP → Prop)
    (H : (∃ m : Nat, I1 m 0 0 h))
    (H1 : ∀ (n1 : Nat) (x3 : Int) (x4 : Int) (g1 : HP), I1 n1 x3 x4 g1 → ((960 ≤ x4 → K (-4) g1) ∧ (¬ 960 ≤ x4 → ((0 ≤ x4 ∧ x4 < 960) ∧ ((0 ≤ (g1 53 x4) ∧ (g1 53 x4) < 65536) ∧ (((cnt (mem (g1 53 x4)) 16) < m → ((iR (x4 + 1)) ∧ (∃ m : Nat, m < n1 ∧ I1 m x3 (x4 + 1) g1))) ∧ (¬ (cnt (mem (g1 53 x4)) 16) < m → ((¬ x3 = i → ((iR (x3 + 1)) ∧ ((iR (x4 + 1)) ∧ (∃ m : Nat, m < n1 ∧ I1 m (x3 + 1) (x4 + 1) g1)))) ∧ (x3 = i → ((0 ≤ x4 ∧ x4 < 960) ∧ K (tld x4) g1)))))))))) :
    Ev w Y_X1_habit 0 [some (vR 8), some (vI m), some (vI i), none, none] [] h (rI K) := by
  have L1 : ∀ (n1 : Nat) (x3 : Int) (x4 : Int) (g1 : HP), I1 n1 x3 x4 g1 → Ev w Y_X1_habit 5 [some (vR 8), some (vI m), some (vI i), some (vI x3), some (vI x4)] [] g1 (rI K) := by
    intro n1
    induction n1 using Nat.strongRecOn with
    | ind n1 ih1 =>
      intro x3 x4 g1 H
      have H := H1 n1 x3 x4 g1 H
      refine e_iload (pc := 5) dX1_habit_5 rfl ?_
      refine e_aload_n (pc := 7) dX1_habit_7 rfl rfl ?_
      refine e_getR (q := 8) (ci := 1) (k := 5) (y := 53) (C := RX1) (T := TX1) (N := 8) (pc := 8) dX1_habit_8 rfl rfl ev_in1 rfl ul_2_76 ⟨rfl, rfl⟩ rfl ?_
      refine e_alen (q := 53) (n := 960) (pc := 11) dX1_habit_11 rfl ⟨by decide, by decide⟩ ?_
      refine e_icmp_ge (pc := 12) (tgt := 49) dX1_habit_12 (by decide) (fun c1 => ?_) (fun c1 => ?_)
      · have H := H.1 c1
        refine e_bipush (pc := 49) dX1_habit_49 ⟨by decide, by decide⟩ (by decide) ?_
        exact e_ret (pc := 51) (v := some (vI (-4))) dX1_habit_51 rfl trivial ⟨_, rfl, H⟩
      · have H := H.2 c1
        refine e_aload_n (pc := 15) dX1_habit_15 rfl rfl ?_
        refine e_getR (q := 8) (ci := 1) (k := 5) (y := 53) (C := RX1) (T := TX1) (N := 8) (pc := 16) dX1_habit_16 rfl rfl ev_in1 rfl ul_2_76 ⟨rfl, rfl⟩ rfl ?_
        refine e_iload (pc := 19) dX1_habit_19 rfl ?_
        refine e_iald (q := 53) (x := (g1 53 x4)) (pc := 21) dX1_habit_21 rfl H.1 rfl ?_
        have H := H.2
        refine e_invS (pc := 22) (Y' := Y_J6_bitCount_0f7a4) (as := [vI (g1 53 x4)]) (st := []) (lv0 := [some (vI (g1 53 x4))]) dX1_habit_22 m_J6_bitCount_0f7a4 ul_4_140 ul_4_15 ⟨rfl, rfl⟩ rfl rfl rfl rfl rfl (c_J6_bitCount_0f7a4 w (g1 53 x4) g1 H.1) ?_
        rintro _ hz ⟨_, rfl, rfl, hh⟩
        rw [hh]
        show Ev w Y_X1_habit 25 [some (vR 8), some (vI m), some (vI i), some (vI x3), some (vI x4)] [vI (cnt (mem (g1 53 x4)) 16)] g1 (rI K)
        have H := H.2
        refine e_iload_n (pc := 25) dX1_habit_25 rfl rfl ?_
        refine e_icmp_lt (pc := 26) (tgt := 43) dX1_habit_26 (by decide) (fun c2 => ?_) (fun c2 => ?_)
        · have H := H.1 c2
          refine e_iinc (lv' := [some (vR 8), some (vI m), some (vI i), some (vI x3), some (vI (x4 + 1))]) (pc := 43) dX1_habit_43 rfl H.1 rfl rfl ?_
          have H := H.2
          refine e_goto (pc := 46) (tgt := 5) dX1_habit_46 (by decide) ?_
          obtain ⟨m, hm, H⟩ := H
          exact ih1 m hm _ _ _ H
        · have H := H.2 c2
          refine e_iload_n (pc := 29) dX1_habit_29 rfl rfl ?_
          refine e_iload_n (pc := 30) dX1_habit_30 rfl rfl ?_
          refine e_icmp_ne (pc := 31) (tgt := 40) dX1_habit_31 (by decide) (fun c3 => ?_) (fun c3 => ?_)
          · have H := H.1 c3
            refine e_iinc (lv' := [some (vR 8), some (vI m), some (vI i), some (vI (x3 + 1)), some (vI x4)]) (pc := 40) dX1_habit_40 rfl H.1 rfl rfl ?_
            have H := H.2
            refine e_iinc (lv' := [some (vR 8), some (vI m), some (vI i), some (vI (x3 + 1)), some (vI (x4 + 1))]) (pc := 43) dX1_habit_43 rfl H.1 rfl rfl ?_
            have H := H.2
            refine e_goto (pc := 46) (tgt := 5) dX1_habit_46 (by decide) ?_
            obtain ⟨m, hm, H⟩ := H
            exact ih1 m hm _ _ _ H
          · have H := H.2 c3
            refine e_iload (pc := 34) dX1_habit_34 rfl ?_
            refine e_invS (pc := 36) (Y' := Y_X1_toldAs) (as := [vI x4]) (st := []) (lv0 := [some (vI x4), none, none]) dX1_habit_36 m_X1_toldAs ul_4_145 ul_4_146 ⟨rfl, rfl⟩ rfl rfl rfl rfl rfl (c_X1_toldAs w x4 g1 H.1) ?_
            rintro _ hz ⟨_, rfl, rfl, hh⟩
            rw [hh]
            show Ev w Y_X1_habit 39 [some (vR 8), some (vI m), some (vI i), some (vI x3), some (vI x4)] [vI (tld x4)] g1 (rI K)
            have H := H.2
            exact e_ret (pc := 39) (v := some (vI (tld x4))) dX1_habit_39 rfl trivial ⟨_, rfl, H⟩
  refine e_iconst (pc := 0) dX1_habit_0 ⟨by decide, by decide⟩ ?_
  refine e_istore_n (lv' := [some (vR 8), some (vI m), some (vI i), some (vI 0), none]) (pc := 1) dX1_habit_1 rfl rfl rfl ?_
  refine e_iconst (pc := 2) dX1_habit_2 ⟨by decide, by decide⟩ ?_
  refine e_istore (lv' := [some (vR 8), some (vI m), some (vI i), some (vI 0), some (vI 0)]) (pc := 3) dX1_habit_3 rfl rfl ?_
  obtain ⟨m, H⟩ := H
  exact L1 m _ _ _ H
set_option maxRecDepth 100000 in
set_option maxHeartbeats 4000000 in
theorem c_X1_habit (w : WD) (m : Int) (i : Int) (h : HP) (H : (∀ k : Int, 0 ≤ k → k < 960 → 0 ≤ h 53 k ∧ h 53 k < 65536) ∧ 0 ≤ i) : Ev w Y_X1_habit 0 [some (vR 8), some (vI m), some (vI i), none, none] [] h (rI (fun r h' => r = (nthL ((wkP (fun k => m ≤ cnt (mem (h 53 k)) 16) 960).map tld) i) ∧ h' = h)) := by
  refine v_X1_habit w m i h _ (fun n x3 x4 g => g = h ∧ ∃ k : Nat, x4 = (k : Int) ∧ k ≤ 960 ∧ n = 960 - k ∧ x3 = ((wkP (fun k => m ≤ cnt (mem (h 53 k)) 16) k).length : Int) ∧ (0 ≤ i → x3 ≤ i)) ⟨960, rfl, 0, rfl, by omega, rfl, rfl, fun y => y⟩ ?_
  rintro n x3 x4 g ⟨rfl, k, rfl, hk, rfl, rfl, hi⟩
  have hl := wkP_l (fun k => m ≤ cnt (mem (g 53 k)) 16) k
  refine ⟨fun c => ⟨?_, rfl⟩, fun c => ⟨by omega, H.1 _ (by omega) (by omega), fun z => ⟨⟨by omega, by omega⟩, 960 - (k + 1), by omega, rfl, k + 1, by omega, by omega, rfl, ?_, hi⟩, fun z => ⟨fun y => ⟨⟨by omega, by omega⟩, ⟨by omega, by omega⟩, 960 - (k + 1), by omega, rfl, k + 1, by omega, by omega, rfl, ?_, fun u => ?_⟩, fun y => ⟨by omega, ?_, rfl⟩⟩⟩⟩
  · have e : k = 960 := by omega
    subst e
    unfold nthL
    rw [List.length_map, if_neg (by omega)]
  · rw [wkP_f (by omega)]
  · rw [wkP_t (by omega), List.length_append, List.length_singleton]; omega
  · have := hi u; omega
  · have hn := wkP_nth (p := fun k => m ≤ cnt (mem (g 53 k)) 16) (k := k) (n := 960) (by omega) (by omega)
    unfold nthL
    rw [List.length_map, if_pos (by omega), ← y, Int.toNat_natCast, List.getD_eq_getElem?_getD, List.getElem?_map]
    have e := hn.2
    rw [List.getD_eq_getElem?_getD] at e
    rw [List.getElem?_eq_getElem hn.1] at e ⊢
    simp only [Option.map_some, Option.getD_some] at e ⊢
    rw [e]
def hsM (h : HP) (day hr t v : Int) : Prop := ∃ k : Int, 0 ≤ k ∧ k < h 55 36 ∧ h 80 (5 * k + 1) = day ∧ h 80 (5 * k + 2) = hr ∧ h 80 (5 * k + 3) = t ∧ h 80 (5 * k + 4) = v
noncomputable def dyM (h : HP) (d hr t v : Int) : Int := cnt (fun i => hsM h (h 55 8 / 24 - d + 1 + i) hr t v) d.toNat
set_option maxRecDepth 100000 in
set_option maxHeartbeats 4000000 in
theorem v_X9_daysOf (w : WD) (d : Int) (hr : Int) (t : Int) (v : Int) (h : HP) (K : Int → HP → Prop) 
    (I1 : Nat → Int → Int → Int → HP → Prop)
    (I2 : Nat → Nat → Int → Int → Int → Int → Int → HP → Prop)
    (H : ((0 ≤ (h 55 8)) ∧ ((iR (((h 55 8) / 24) - d)) ∧ ((iR ((((h 55 8) / 24) - d) + 1)) ∧ (∃ m : Nat, I1 m ((h 55 8) / 24) 0 ((((h 55 8) / 24) - d) + 1) h)))))
    (H1 : ∀ (n1 : Nat) (x5 : Int) (x6 : Int) (x7 : Int) (g1 : HP), I1 n1 x5 x6 x7 g1 → ((x5 < x7 → K x6 g1) ∧ (¬ x5 < x7 → (∃ m : Nat, I2 n1 m x5 x6 x7 0 0 g1))))
    (H2 : ∀ (n1 : Nat) (n2 : Nat) (x5 : Int) (x6 : Int) (x7 : Int) (x8 : Int) (x9 : Int) (g2 : HP), I2 n1 n2 x5 x6 x7 x8 x9 g2 → ((iR (5 * (g2 55 36))) ∧ (((5 * (g2 55 36)) ≤ x9 → ((iR (x6 + (b2i (¬ x8 = 0)))) ∧ ((iR (x7 + 1)) ∧ (∃ m : Nat, m < n1 ∧ I1 m x5 (x6 + (b2i (¬ x8 = 0))) (x7 + 1) g2)))) ∧ (¬ (5 * (g2 55 36)) ≤ x9 → ((((¬ x8 = 0 → True) ∧ (x8 = 0 → ((iR (x9 + 1)) ∧ ((0 ≤ (x9 + 1) ∧ (x9 + 1) < 300) ∧ ((¬ (g2 80 (x9 + 1)) = x7 → True) ∧ ((g2 80 (x9 + 1)) = x7 → ((iR (x9 + 2)) ∧ ((0 ≤ (x9 + 2) ∧ (x9 + 2) < 300) ∧ ((¬ (g2 80 (x9 + 2)) = hr → True) ∧ ((g2 80 (x9 + 2)) = hr → ((iR (x9 + 3)) ∧ ((0 ≤ (x9 + 3) ∧ (x9 + 3) < 300) ∧ ((¬ (g2 80 (x9 + 3)) = t → True) ∧ ((g2 80 (x9 + 3)) = t → ((iR (x9 + 4)) ∧ ((0 ≤ (x9 + 4) ∧ (x9 + 4) < 300) ∧ True))))))))))))))))) ∧ ((iR (x9 + 5)) ∧ (∃ m : Nat, m < n2 ∧ I2 n1 m x5 x6 x7 (b2i ((¬ x8 = 0) ∨ (((g2 80 (x9 + 1)) = x7) ∧ (((g2 80 (x9 + 2)) = hr) ∧ (((g2 80 (x9 + 3)) = t) ∧ ((g2 80 (x9 + 4)) = v)))))) (x9 + 5) g2))))))) :
    Ev w Y_X9_daysOf 0 [some (vR 55), some (vI d), some (vI hr), some (vI t), some (vI v), none, none, none, none, none] [] h (rI K) := by
  have L1 : ∀ (n1 : Nat) (x5 : Int) (x6 : Int) (x7 : Int) (g1 : HP), I1 n1 x5 x6 x7 g1 → Ev w Y_X9_daysOf 20 [some (vR 55), none, some (vI hr), some (vI t), some (vI v), some (vI x5), some (vI x6), some (vI x7), none, none] [] g1 (rI K) := by
    intro n1
    induction n1 using Nat.strongRecOn with
    | ind n1 ih1 =>
      have L2 : ∀ (n2 : Nat) (x5 : Int) (x6 : Int) (x7 : Int) (x8 : Int) (x9 : Int) (g2 : HP), I2 n1 n2 x5 x6 x7 x8 x9 g2 → Ev w Y_X9_daysOf 33 [some (vR 55), none, some (vI hr), some (vI t), some (vI v), some (vI x5), some (vI x6), some (vI x7), some (vI x8), some (vI x9)] [] g2 (rI K) := by
        intro n2
        induction n2 using Nat.strongRecOn with
        | ind n2 ih2 =>
          intro x5 x6 x7 x8 x9 g2 H
          have H := H2 n1 n2 x5 x6 x7 x8 x9 g2 H
          refine e_iload (pc := 33) dX9_daysOf_33 rfl ?_
          refine e_iconst (pc := 35) dX9_daysOf_35 ⟨by decide, by decide⟩ ?_
          refine e_aload_n (pc := 36) dX9_daysOf_36 rfl rfl ?_
          refine e_getI (q := 55) (ci := 9) (k := 36) (kz := 36) (C := RX9) (T := TX9) (N := 52) (x := (g2 55 36)) (pc := 37) dX9_daysOf_37 rfl rfl rfl ev_in9 rfl ul_4_218 ⟨rfl, by decide⟩ rfl ?_
          refine e_imul (pc := 40) dX9_daysOf_40 H.1 ?_
          have H := H.2
          refine e_icmp_ge (pc := 41) (tgt := 116) dX9_daysOf_41 (by decide) (fun c2 => ?_) (fun c2 => ?_)
          · have H := H.1 c2
            refine e_iload (pc := 116) dX9_daysOf_116 rfl ?_
            refine e_iload (pc := 118) dX9_daysOf_118 rfl ?_
            have J : Ev w Y_X9_daysOf 128 [some (vR 55), none, some (vI hr), some (vI t), some (vI v), some (vI x5), some (vI x6), some (vI x7), some (vI x8), some (vI x9)] [vI (b2i (¬ x8 = 0)), vI x6] g2 (rI K) := by
              refine e_iadd (pc := 128) dX9_daysOf_128 H.1 ?_
              have H := H.2
              refine e_istore (lv' := [some (vR 55), none, some (vI hr), some (vI t), some (vI v), some (vI x5), some (vI (x6 + (b2i (¬ x8 = 0)))), some (vI x7), some (vI x8), some (vI x9)]) (pc := 129) dX9_daysOf_129 rfl rfl ?_
              refine e_iinc (lv' := [some (vR 55), none, some (vI hr), some (vI t), some (vI v), some (vI x5), some (vI (x6 + (b2i (¬ x8 = 0)))), some (vI (x7 + 1)), some (vI x8), some (vI x9)]) (pc := 131) dX9_daysOf_131 rfl H.1 rfl rfl ?_
              have H := H.2
              refine e_goto (pc := 134) (tgt := 20) dX9_daysOf_134 (by decide) ?_
              refine e_mask [true, false, true, true, true, true, true, true, false, false] rfl ?_
              obtain ⟨m, hm, H⟩ := H
              exact ih1 m hm _ _ _ _ H
            refine e_if_eq (pc := 120) (tgt := 127) dX9_daysOf_120 (by decide) (fun c3 => ?_) (fun c3 => ?_)
            · refine e_iconst (pc := 127) dX9_daysOf_127 ⟨by decide, by decide⟩ ?_
              exact e_top (b2i_f (fun z => z c3)) J
            · refine e_iconst (pc := 123) dX9_daysOf_123 ⟨by decide, by decide⟩ ?_
              refine e_goto (pc := 124) (tgt := 128) dX9_daysOf_124 (by decide) ?_
              exact e_top (b2i_t c3) J
          · have H := H.2 c2
            refine e_iload (pc := 44) dX9_daysOf_44 rfl ?_
            have J : Ev w Y_X9_daysOf 108 [some (vR 55), none, some (vI hr), some (vI t), some (vI v), some (vI x5), some (vI x6), some (vI x7), some (vI x8), some (vI x9)] [vI (b2i ((¬ x8 = 0) ∨ (((g2 80 (x9 + 1)) = x7) ∧ (((g2 80 (x9 + 2)) = hr) ∧ (((g2 80 (x9 + 3)) = t) ∧ ((g2 80 (x9 + 4)) = v))))))] g2 (rI K) := by
              have H := H.2
              refine e_istore (lv' := [some (vR 55), none, some (vI hr), some (vI t), some (vI v), some (vI x5), some (vI x6), some (vI x7), some (vI (b2i ((¬ x8 = 0) ∨ (((g2 80 (x9 + 1)) = x7) ∧ (((g2 80 (x9 + 2)) = hr) ∧ (((g2 80 (x9 + 3)) = t) ∧ ((g2 80 (x9 + 4)) = v))))))), some (vI x9)]) (pc := 108) dX9_daysOf_108 rfl rfl ?_
              refine e_iinc (lv' := [some (vR 55), none, some (vI hr), some (vI t), some (vI v), some (vI x5), some (vI x6), some (vI x7), some (vI (b2i ((¬ x8 = 0) ∨ (((g2 80 (x9 + 1)) = x7) ∧ (((g2 80 (x9 + 2)) = hr) ∧ (((g2 80 (x9 + 3)) = t) ∧ ((g2 80 (x9 + 4)) = v))))))), some (vI (x9 + 5))]) (pc := 110) dX9_daysOf_110 rfl H.1 rfl rfl ?_
              have H := H.2
              refine e_goto (pc := 113) (tgt := 33) dX9_daysOf_113 (by decide) ?_
              obtain ⟨m, hm, H⟩ := H
              exact ih2 m hm _ _ _ _ _ _ H
            have Ho := H.1
            refine e_if_ne (pc := 46) (tgt := 103) dX9_daysOf_46 (by decide) (fun c4 => ?_) (fun c4 => ?_)
            · have Ho := Ho.1 c4
              refine e_iconst (pc := 103) dX9_daysOf_103 ⟨by decide, by decide⟩ ?_
              refine e_goto (pc := 104) (tgt := 108) dX9_daysOf_104 (by decide) ?_
              exact e_top (b2i_t (Or.inl c4)) J
            · have Ho := Ho.2 c4
              refine e_aload_n (pc := 49) dX9_daysOf_49 rfl rfl ?_
              refine e_getR (q := 55) (ci := 9) (k := 37) (y := 80) (C := RX9) (T := TX9) (N := 52) (pc := 50) dX9_daysOf_50 rfl rfl ev_in9 rfl ul_4_219 ⟨rfl, rfl⟩ rfl ?_
              refine e_iload (pc := 53) dX9_daysOf_53 rfl ?_
              refine e_iconst (pc := 55) dX9_daysOf_55 ⟨by decide, by decide⟩ ?_
              refine e_iadd (pc := 56) dX9_daysOf_56 Ho.1 ?_
              have Ho := Ho.2
              refine e_iald (q := 80) (x := (g2 80 (x9 + 1))) (pc := 57) dX9_daysOf_57 rfl Ho.1 rfl ?_
              have Ho := Ho.2
              refine e_iload (pc := 58) dX9_daysOf_58 rfl ?_
              refine e_icmp_ne (pc := 60) (tgt := 107) dX9_daysOf_60 (by decide) (fun c5 => ?_) (fun c5 => ?_)
              · have Ho := Ho.1 c5
                refine e_iconst (pc := 107) dX9_daysOf_107 ⟨by decide, by decide⟩ ?_
                exact e_top (b2i_f (fun z => z.elim (fun z => z c4) (fun z => c5 z.1))) J
              · have Ho := Ho.2 c5
                refine e_aload_n (pc := 63) dX9_daysOf_63 rfl rfl ?_
                refine e_getR (q := 55) (ci := 9) (k := 37) (y := 80) (C := RX9) (T := TX9) (N := 52) (pc := 64) dX9_daysOf_64 rfl rfl ev_in9 rfl ul_4_219 ⟨rfl, rfl⟩ rfl ?_
                refine e_iload (pc := 67) dX9_daysOf_67 rfl ?_
                refine e_iconst (pc := 69) dX9_daysOf_69 ⟨by decide, by decide⟩ ?_
                refine e_iadd (pc := 70) dX9_daysOf_70 Ho.1 ?_
                have Ho := Ho.2
                refine e_iald (q := 80) (x := (g2 80 (x9 + 2))) (pc := 71) dX9_daysOf_71 rfl Ho.1 rfl ?_
                have Ho := Ho.2
                refine e_iload_n (pc := 72) dX9_daysOf_72 rfl rfl ?_
                refine e_icmp_ne (pc := 73) (tgt := 107) dX9_daysOf_73 (by decide) (fun c6 => ?_) (fun c6 => ?_)
                · have Ho := Ho.1 c6
                  refine e_iconst (pc := 107) dX9_daysOf_107 ⟨by decide, by decide⟩ ?_
                  exact e_top (b2i_f (fun z => z.elim (fun z => z c4) (fun z => (fun z => c6 z.1) z.2))) J
                · have Ho := Ho.2 c6
                  refine e_aload_n (pc := 76) dX9_daysOf_76 rfl rfl ?_
                  refine e_getR (q := 55) (ci := 9) (k := 37) (y := 80) (C := RX9) (T := TX9) (N := 52) (pc := 77) dX9_daysOf_77 rfl rfl ev_in9 rfl ul_4_219 ⟨rfl, rfl⟩ rfl ?_
                  refine e_iload (pc := 80) dX9_daysOf_80 rfl ?_
                  refine e_iconst (pc := 82) dX9_daysOf_82 ⟨by decide, by decide⟩ ?_
                  refine e_iadd (pc := 83) dX9_daysOf_83 Ho.1 ?_
                  have Ho := Ho.2
                  refine e_iald (q := 80) (x := (g2 80 (x9 + 3))) (pc := 84) dX9_daysOf_84 rfl Ho.1 rfl ?_
                  have Ho := Ho.2
                  refine e_iload_n (pc := 85) dX9_daysOf_85 rfl rfl ?_
                  refine e_icmp_ne (pc := 86) (tgt := 107) dX9_daysOf_86 (by decide) (fun c7 => ?_) (fun c7 => ?_)
                  · have Ho := Ho.1 c7
                    refine e_iconst (pc := 107) dX9_daysOf_107 ⟨by decide, by decide⟩ ?_
                    exact e_top (b2i_f (fun z => z.elim (fun z => z c4) (fun z => (fun z => (fun z => c7 z.1) z.2) z.2))) J
                  · have Ho := Ho.2 c7
                    refine e_aload_n (pc := 89) dX9_daysOf_89 rfl rfl ?_
                    refine e_getR (q := 55) (ci := 9) (k := 37) (y := 80) (C := RX9) (T := TX9) (N := 52) (pc := 90) dX9_daysOf_90 rfl rfl ev_in9 rfl ul_4_219 ⟨rfl, rfl⟩ rfl ?_
                    refine e_iload (pc := 93) dX9_daysOf_93 rfl ?_
                    refine e_iconst (pc := 95) dX9_daysOf_95 ⟨by decide, by decide⟩ ?_
                    refine e_iadd (pc := 96) dX9_daysOf_96 Ho.1 ?_
                    have Ho := Ho.2
                    refine e_iald (q := 80) (x := (g2 80 (x9 + 4))) (pc := 97) dX9_daysOf_97 rfl Ho.1 rfl ?_
                    have Ho := Ho.2
                    refine e_iload (pc := 98) dX9_daysOf_98 rfl ?_
                    refine e_icmp_ne (pc := 100) (tgt := 107) dX9_daysOf_100 (by decide) (fun c8 => ?_) (fun c8 => ?_)
                    · refine e_iconst (pc := 107) dX9_daysOf_107 ⟨by decide, by decide⟩ ?_
                      exact e_top (b2i_f (fun z => z.elim (fun z => z c4) (fun z => (fun z => (fun z => c8 z.2) z.2) z.2))) J
                    · refine e_iconst (pc := 103) dX9_daysOf_103 ⟨by decide, by decide⟩ ?_
                      refine e_goto (pc := 104) (tgt := 108) dX9_daysOf_104 (by decide) ?_
                      exact e_top (b2i_t (Or.inr ⟨c5, ⟨c6, ⟨c7, c8⟩⟩⟩)) J
      intro x5 x6 x7 g1 H
      have H := H1 n1 x5 x6 x7 g1 H
      refine e_iload (pc := 20) dX9_daysOf_20 rfl ?_
      refine e_iload (pc := 22) dX9_daysOf_22 rfl ?_
      refine e_icmp_gt (pc := 24) (tgt := 137) dX9_daysOf_24 (by decide) (fun c1 => ?_) (fun c1 => ?_)
      · have H := H.1 c1
        refine e_iload (pc := 137) dX9_daysOf_137 rfl ?_
        exact e_ret (pc := 139) (v := some (vI x6)) dX9_daysOf_139 rfl trivial ⟨_, rfl, H⟩
      · have H := H.2 c1
        refine e_iconst (pc := 27) dX9_daysOf_27 ⟨by decide, by decide⟩ ?_
        refine e_istore (lv' := [some (vR 55), none, some (vI hr), some (vI t), some (vI v), some (vI x5), some (vI x6), some (vI x7), some (vI 0), none]) (pc := 28) dX9_daysOf_28 rfl rfl ?_
        refine e_iconst (pc := 30) dX9_daysOf_30 ⟨by decide, by decide⟩ ?_
        refine e_istore (lv' := [some (vR 55), none, some (vI hr), some (vI t), some (vI v), some (vI x5), some (vI x6), some (vI x7), some (vI 0), some (vI 0)]) (pc := 31) dX9_daysOf_31 rfl rfl ?_
        obtain ⟨m, H⟩ := H
        exact L2 m _ _ _ _ _ _ H
  refine e_aload_n (pc := 0) dX9_daysOf_0 rfl rfl ?_
  refine e_getI (q := 55) (ci := 9) (k := 8) (kz := 8) (C := RX9) (T := TX9) (N := 52) (x := (h 55 8)) (pc := 1) dX9_daysOf_1 rfl rfl rfl ev_in9 rfl ul_4_190 ⟨rfl, by decide⟩ rfl ?_
  refine e_bipush (pc := 4) dX9_daysOf_4 ⟨by decide, by decide⟩ (by decide) ?_
  refine e_idiv (pc := 6) dX9_daysOf_6 ⟨H.1, by decide⟩ ?_
  have H := H.2
  refine e_istore (lv' := [some (vR 55), some (vI d), some (vI hr), some (vI t), some (vI v), some (vI ((h 55 8) / 24)), none, none, none, none]) (pc := 7) dX9_daysOf_7 rfl rfl ?_
  refine e_iconst (pc := 9) dX9_daysOf_9 ⟨by decide, by decide⟩ ?_
  refine e_istore (lv' := [some (vR 55), some (vI d), some (vI hr), some (vI t), some (vI v), some (vI ((h 55 8) / 24)), some (vI 0), none, none, none]) (pc := 10) dX9_daysOf_10 rfl rfl ?_
  refine e_iload (pc := 12) dX9_daysOf_12 rfl ?_
  refine e_iload_n (pc := 14) dX9_daysOf_14 rfl rfl ?_
  refine e_isub (pc := 15) dX9_daysOf_15 H.1 ?_
  have H := H.2
  refine e_iconst (pc := 16) dX9_daysOf_16 ⟨by decide, by decide⟩ ?_
  refine e_iadd (pc := 17) dX9_daysOf_17 H.1 ?_
  have H := H.2
  refine e_istore (lv' := [some (vR 55), some (vI d), some (vI hr), some (vI t), some (vI v), some (vI ((h 55 8) / 24)), some (vI 0), some (vI ((((h 55 8) / 24) - d) + 1)), none, none]) (pc := 18) dX9_daysOf_18 rfl rfl ?_
  refine e_mask [true, false, true, true, true, true, true, true, false, false] rfl ?_
  obtain ⟨m, H⟩ := H
  exact L1 m _ _ _ _ H
set_option maxRecDepth 100000 in
set_option maxHeartbeats 4000000 in
theorem c_X9_daysOf (w : WD) (d : Int) (hr : Int) (t : Int) (v : Int) (h : HP) (H : (0 ≤ h 55 8 ∧ h 55 8 ≤ 1000000000) ∧ (1 ≤ d ∧ d ≤ 14) ∧ (0 ≤ h 55 36 ∧ h 55 36 ≤ 60)) : Ev w Y_X9_daysOf 0 [some (vR 55), some (vI d), some (vI hr), some (vI t), some (vI v), none, none, none, none, none] [] h (rI (fun r h' => r = (dyM h d hr t v) ∧ h' = h)) := by
  obtain ⟨h8, hd, h36⟩ := H
  refine v_X9_daysOf w d hr t v h _ (fun n x5 x6 x7 g => g = h ∧ x5 = h 55 8 / 24 ∧ ∃ k : Nat, x7 = h 55 8 / 24 - d + 1 + (k : Int) ∧ (k : Int) ≤ d ∧ n = (d - (k : Int)).toNat ∧ x6 = cnt (fun i => hsM h (h 55 8 / 24 - d + 1 + i) hr t v) k)
    (fun n1 n2 x5 x6 x7 x8 x9 g => g = h ∧ x5 = h 55 8 / 24 ∧ ∃ k j : Nat, x7 = h 55 8 / 24 - d + 1 + (k : Int) ∧ (k : Int) < d ∧ n1 = (d - (k : Int)).toNat ∧ x6 = cnt (fun i => hsM h (h 55 8 / 24 - d + 1 + i) hr t v) k ∧ x9 = 5 * (j : Int) ∧ (j : Int) ≤ h 55 36 ∧ n2 = 60 - j ∧ x8 = b2i (∃ a : Int, 0 ≤ a ∧ a < (j : Int) ∧ h 80 (5 * a + 1) = x7 ∧ h 80 (5 * a + 2) = hr ∧ h 80 (5 * a + 3) = t ∧ h 80 (5 * a + 4) = v))
    ⟨by omega, ⟨by omega, by omega⟩, ⟨by omega, by omega⟩, d.toNat, rfl, rfl, 0, by omega, by omega, by omega, rfl⟩ ?_ ?_
  · rintro n x5 x6 x7 g ⟨rfl, rfl, k, rfl, hk, rfl, rfl⟩
    refine ⟨fun c => ⟨by unfold dyM; rw [show k = d.toNat by omega], rfl⟩, fun c => ⟨60, rfl, rfl, k, 0, rfl, by omega, rfl, rfl, rfl, by omega, rfl, (b2i_f ?_).symm⟩⟩
    rintro ⟨a, a0, a1, _⟩
    omega
  · rintro n1 n2 x5 x6 x7 x8 x9 g ⟨rfl, rfl, k, j, rfl, hk, rfl, rfl, rfl, hj, rfl, rfl⟩
    have hc := cnt_b (fun i => hsM g (g 55 8 / 24 - d + 1 + i) hr t v) k
    refine ⟨⟨by omega, by omega⟩, fun c => ?_, fun c => ?_⟩
    · have e : (j : Int) = g 55 36 := by omega
      have e2 : b2i (¬ b2i (∃ a : Int, 0 ≤ a ∧ a < (j : Int) ∧ g 80 (5 * a + 1) = g 55 8 / 24 - d + 1 + (k : Int) ∧ g 80 (5 * a + 2) = hr ∧ g 80 (5 * a + 3) = t ∧ g 80 (5 * a + 4) = v) = 0) = b2i (hsM g (g 55 8 / 24 - d + 1 + (k : Int)) hr t v) := by
        rw [e]
        exact b2i_c (by rw [b2i_0, Classical.not_not]; rfl)
      rw [e2]
      have hb := b2i_01 (hsM g (g 55 8 / 24 - d + 1 + (k : Int)) hr t v)
      exact ⟨⟨by omega, by omega⟩, ⟨by omega, by omega⟩, (d - ((k + 1 : Nat) : Int)).toNat, by omega, rfl, rfl, k + 1, by omega, by omega, rfl, rfl⟩
    · refine ⟨⟨fun _ => trivial, fun _ => ⟨⟨by omega, by omega⟩, by omega, fun _ => trivial, fun _ => ⟨⟨by omega, by omega⟩, by omega, fun _ => trivial, fun _ => ⟨⟨by omega, by omega⟩, by omega, fun _ => trivial, fun _ => ⟨⟨by omega, by omega⟩, by omega, trivial⟩⟩⟩⟩⟩, ⟨by omega, by omega⟩, 60 - (j + 1), by omega, rfl, rfl, k, j + 1, rfl, hk, rfl, rfl, by omega, by omega, rfl, b2i_c ?_⟩
      rw [b2i_0, Classical.not_not]
      constructor
      · rintro (⟨a, a0, a1, a2⟩ | y)
        · exact ⟨a, a0, by omega, a2⟩
        · exact ⟨(j : Int), by omega, by omega, y⟩
      · rintro ⟨a, a0, a1, a2⟩
        by_cases e : a = (j : Int)
        · subst e; exact Or.inr a2
        · exact Or.inl ⟨a, a0, by omega, a2⟩
def okHb (d m i : Int) : Prop := (1 ≤ d ∧ d ≤ 14) ∧ (1 ≤ m ∧ m ≤ d) ∧ -1 ≤ i
def hbQ (h : HP) (d m c : Int) : Prop := c % 10 < 4 ∧ c / 10 % 10 < h 55 0 ∧ m ≤ dyM h d (c / 100) (c / 10 % 10) (c % 10)
noncomputable def hbM (h : HP) (d m i : Int) : Int := cif (okHb d m i) (cif (0 ≤ i) (nthL (wkP (hbQ h d m) 2400) i) ((wkP (hbQ h d m) 2400).length : Int)) (-1)
set_option maxRecDepth 100000 in
set_option maxHeartbeats 4000000 in
theorem v_X9_habits (w : WD) (d : Int) (m : Int) (i : Int) (h : HP) (K : Int → HP → Prop) 
    (I1 : Nat → Int → Int → HP → Prop)
    (H : (((((1 ≤ d ∧ d ≤ 14)) ∧ (((1 ≤ m ∧ m ≤ d)) ∧ ((-1) ≤ i))) → (∃ m : Nat, I1 m 0 0 h)) ∧ (¬ (((1 ≤ d ∧ d ≤ 14)) ∧ (((1 ≤ m ∧ m ≤ d)) ∧ ((-1) ≤ i))) → K (-1) h)))
    (H1 : ∀ (n1 : Nat) (x4 : Int) (x5 : Int) (g1 : HP), I1 n1 x4 x5 g1 → ((2400 ≤ x5 → K (cif (0 ≤ i) (-4) x4) g1) ∧ (¬ 2400 ≤ x5 → ((0 ≤ x5) ∧ ((0 ≤ (x5 / 10)) ∧ ((0 ≤ x5) ∧ ((((4 ≤ (x5 % 10) → True) ∧ (¬ 4 ≤ (x5 % 10) → ((0 ≤ g1 55 0 ∧ g1 55 0 ≤ 10) ∧ ((¬ (0 ≤ ((x5 / 10) % 10) ∧ ((x5 / 10) % 10) < g1 55 0) → True) ∧ ((0 ≤ ((x5 / 10) % 10) ∧ ((x5 / 10) % 10) < g1 55 0) → ((0 ≤ x5) ∧ ((0 ≤ x5) ∧ (((0 ≤ g1 55 8 ∧ g1 55 8 ≤ 1000000000) ∧ (1 ≤ d ∧ d ≤ 14) ∧ (0 ≤ g1 55 36 ∧ g1 55 36 ≤ 60)) ∧ True))))))))) ∧ ((((4 ≤ (x5 % 10)) ∨ ((¬ (0 ≤ ((x5 / 10) % 10) ∧ ((x5 / 10) % 10) < g1 55 0)) ∨ ((dyM g1 d (x5 / 100) ((x5 / 10) % 10) (x5 % 10)) < m))) → ((iR (x5 + 1)) ∧ (∃ m : Nat, m < n1 ∧ I1 m x4 (x5 + 1) g1))) ∧ (¬ ((4 ≤ (x5 % 10)) ∨ ((¬ (0 ≤ ((x5 / 10) % 10) ∧ ((x5 / 10) % 10) < g1 55 0)) ∨ ((dyM g1 d (x5 / 100) ((x5 / 10) % 10) (x5 % 10)) < m))) → ((¬ x4 = i → ((iR (x4 + 1)) ∧ ((iR (x5 + 1)) ∧ (∃ m : Nat, m < n1 ∧ I1 m (x4 + 1) (x5 + 1) g1)))) ∧ (x4 = i → K x5 g1))))))))))) :
    Ev w Y_X9_habits 0 [some (vR 55), some (vI d), some (vI m), some (vI i), none, none, none] [] h (rI K) := by
  have L1 : ∀ (n1 : Nat) (x4 : Int) (x5 : Int) (g1 : HP), I1 n1 x4 x5 g1 → Ev w Y_X9_habits 36 [some (vR 55), some (vI d), some (vI m), some (vI i), some (vI x4), some (vI x5), none] [] g1 (rI K) := by
    intro n1
    induction n1 using Nat.strongRecOn with
    | ind n1 ih1 =>
      intro x4 x5 g1 H
      have H := H1 n1 x4 x5 g1 H
      refine e_iload (pc := 36) dX9_habits_36 rfl ?_
      refine e_sipush (pc := 38) dX9_habits_38 ⟨by decide, by decide⟩ (by decide) ?_
      refine e_icmp_ge (pc := 41) (tgt := 111) dX9_habits_41 (by decide) (fun c4 => ?_) (fun c4 => ?_)
      · have H := H.1 c4
        refine e_iload_n (pc := 111) dX9_habits_111 rfl rfl ?_
        have J : Ev w Y_X9_habits 122 [some (vR 55), some (vI d), some (vI m), some (vI i), some (vI x4), some (vI x5), none] [vI (cif (0 ≤ i) (-4) x4)] g1 (rI K) := by
          exact e_ret (pc := 122) (v := some (vI (cif (0 ≤ i) (-4) x4))) dX9_habits_122 rfl trivial ⟨_, rfl, H⟩
        refine e_if_ge (pc := 112) (tgt := 120) dX9_habits_112 (by decide) (fun c5 => ?_) (fun c5 => ?_)
        · refine e_bipush (pc := 120) dX9_habits_120 ⟨by decide, by decide⟩ (by decide) ?_
          exact e_top (cif_t c5) J
        · refine e_iload (pc := 115) dX9_habits_115 rfl ?_
          refine e_goto (pc := 117) (tgt := 122) dX9_habits_117 (by decide) ?_
          exact e_top (cif_f c5) J
      · have H := H.2 c4
        refine e_iload (pc := 44) dX9_habits_44 rfl ?_
        refine e_bipush (pc := 46) dX9_habits_46 ⟨by decide, by decide⟩ (by decide) ?_
        refine e_idiv (pc := 48) dX9_habits_48 ⟨H.1, by decide⟩ ?_
        have H := H.2
        refine e_bipush (pc := 49) dX9_habits_49 ⟨by decide, by decide⟩ (by decide) ?_
        refine e_irem (pc := 51) dX9_habits_51 ⟨H.1, by decide⟩ ?_
        have H := H.2
        refine e_istore (lv' := [some (vR 55), some (vI d), some (vI m), some (vI i), some (vI x4), some (vI x5), some (vI ((x5 / 10) % 10))]) (pc := 52) dX9_habits_52 rfl rfl ?_
        refine e_iload (pc := 54) dX9_habits_54 rfl ?_
        refine e_bipush (pc := 56) dX9_habits_56 ⟨by decide, by decide⟩ (by decide) ?_
        refine e_irem (pc := 58) dX9_habits_58 ⟨H.1, by decide⟩ ?_
        have H := H.2
        refine e_iconst (pc := 59) dX9_habits_59 ⟨by decide, by decide⟩ ?_
        have Ho := H.1
        have H := H.2
        have J1 : ((4 ≤ (x5 % 10)) ∨ ((¬ (0 ≤ ((x5 / 10) % 10) ∧ ((x5 / 10) % 10) < g1 55 0)) ∨ ((dyM g1 d (x5 / 100) ((x5 / 10) % 10) (x5 % 10)) < m))) → Ev w Y_X9_habits 105 [some (vR 55), some (vI d), some (vI m), some (vI i), some (vI x4), some (vI x5), some (vI ((x5 / 10) % 10))] [] g1 (rI K) := by
          intro hp
          have H := H.1 hp
          refine e_iinc (lv' := [some (vR 55), some (vI d), some (vI m), some (vI i), some (vI x4), some (vI (x5 + 1)), some (vI ((x5 / 10) % 10))]) (pc := 105) dX9_habits_105 rfl H.1 rfl rfl ?_
          have H := H.2
          refine e_goto (pc := 108) (tgt := 36) dX9_habits_108 (by decide) ?_
          refine e_mask [true, true, true, true, true, true, false] rfl ?_
          obtain ⟨m, hm, H⟩ := H
          exact ih1 m hm _ _ _ H
        have J2 : ¬ ((4 ≤ (x5 % 10)) ∨ ((¬ (0 ≤ ((x5 / 10) % 10) ∧ ((x5 / 10) % 10) < g1 55 0)) ∨ ((dyM g1 d (x5 / 100) ((x5 / 10) % 10) (x5 % 10)) < m))) → Ev w Y_X9_habits 93 [some (vR 55), some (vI d), some (vI m), some (vI i), some (vI x4), some (vI x5), some (vI ((x5 / 10) % 10))] [] g1 (rI K) := by
          intro hp
          have H := H.2 hp
          refine e_iload (pc := 93) dX9_habits_93 rfl ?_
          refine e_iload_n (pc := 95) dX9_habits_95 rfl rfl ?_
          refine e_icmp_ne (pc := 96) (tgt := 102) dX9_habits_96 (by decide) (fun c6 => ?_) (fun c6 => ?_)
          · have H := H.1 c6
            refine e_iinc (lv' := [some (vR 55), some (vI d), some (vI m), some (vI i), some (vI (x4 + 1)), some (vI x5), some (vI ((x5 / 10) % 10))]) (pc := 102) dX9_habits_102 rfl H.1 rfl rfl ?_
            have H := H.2
            refine e_iinc (lv' := [some (vR 55), some (vI d), some (vI m), some (vI i), some (vI (x4 + 1)), some (vI (x5 + 1)), some (vI ((x5 / 10) % 10))]) (pc := 105) dX9_habits_105 rfl H.1 rfl rfl ?_
            have H := H.2
            refine e_goto (pc := 108) (tgt := 36) dX9_habits_108 (by decide) ?_
            refine e_mask [true, true, true, true, true, true, false] rfl ?_
            obtain ⟨m, hm, H⟩ := H
            exact ih1 m hm _ _ _ H
          · have H := H.2 c6
            refine e_iload (pc := 99) dX9_habits_99 rfl ?_
            exact e_ret (pc := 101) (v := some (vI x5)) dX9_habits_101 rfl trivial ⟨_, rfl, H⟩
        refine e_icmp_ge (pc := 60) (tgt := 105) dX9_habits_60 (by decide) (fun c7 => ?_) (fun c7 => ?_)
        · have Ho := Ho.1 c7
          exact J1 (Or.inl c7)
        · have Ho := Ho.2 c7
          refine e_aload_n (pc := 63) dX9_habits_63 rfl rfl ?_
          refine e_iload (pc := 64) dX9_habits_64 rfl ?_
          refine e_invV (pc := 66) (Y' := Y_X9_isThing) (as := [vI ((x5 / 10) % 10)]) (st := []) (lv0 := [some (vR 55), some (vI ((x5 / 10) % 10))]) (q := 55) (ci := 9) (T := TX9) (N := 52) dX9_habits_66 m_X9_isThing ul_5_119 ⟨ul_5_121, us_X9_isThing⟩ ⟨rfl, rfl⟩ rfl rfl rfl rfl rfl rfl rfl (c_X9_isThing w ((x5 / 10) % 10) g1 Ho.1) ?_
          rintro _ hz ⟨_, rfl, rfl, hh⟩
          rw [hh]
          show Ev w Y_X9_habits 69 [some (vR 55), some (vI d), some (vI m), some (vI i), some (vI x4), some (vI x5), some (vI ((x5 / 10) % 10))] [vI (b2i (0 ≤ ((x5 / 10) % 10) ∧ ((x5 / 10) % 10) < g1 55 0))] g1 (rI K)
          have Ho := Ho.2
          refine e_ifb_eq (pc := 69) (tgt := 105) dX9_habits_69 (by decide) (fun c8 => ?_) (fun c8 => ?_)
          · have Ho := Ho.1 c8
            exact J1 (Or.inr (Or.inl c8))
          · have Ho := Ho.2 c8
            refine e_aload_n (pc := 72) dX9_habits_72 rfl rfl ?_
            refine e_iload_n (pc := 73) dX9_habits_73 rfl rfl ?_
            refine e_iload (pc := 74) dX9_habits_74 rfl ?_
            refine e_bipush (pc := 76) dX9_habits_76 ⟨by decide, by decide⟩ (by decide) ?_
            refine e_idiv (pc := 78) dX9_habits_78 ⟨Ho.1, by decide⟩ ?_
            have Ho := Ho.2
            refine e_iload (pc := 79) dX9_habits_79 rfl ?_
            refine e_iload (pc := 81) dX9_habits_81 rfl ?_
            refine e_bipush (pc := 83) dX9_habits_83 ⟨by decide, by decide⟩ (by decide) ?_
            refine e_irem (pc := 85) dX9_habits_85 ⟨Ho.1, by decide⟩ ?_
            have Ho := Ho.2
            refine e_invV (pc := 86) (Y' := Y_X9_daysOf) (as := [vI d, vI (x5 / 100), vI ((x5 / 10) % 10), vI (x5 % 10)]) (st := []) (lv0 := [some (vR 55), some (vI d), some (vI (x5 / 100)), some (vI ((x5 / 10) % 10)), some (vI (x5 % 10)), none, none, none, none, none]) (q := 55) (ci := 9) (T := TX9) (N := 52) dX9_habits_86 m_X9_daysOf ul_6_95 ⟨ul_6_97, us_X9_daysOf⟩ ⟨rfl, rfl⟩ rfl rfl rfl rfl rfl rfl rfl (c_X9_daysOf w d (x5 / 100) ((x5 / 10) % 10) (x5 % 10) g1 Ho.1) ?_
            rintro _ hz ⟨_, rfl, rfl, hh⟩
            rw [hh]
            show Ev w Y_X9_habits 89 [some (vR 55), some (vI d), some (vI m), some (vI i), some (vI x4), some (vI x5), some (vI ((x5 / 10) % 10))] [vI (dyM g1 d (x5 / 100) ((x5 / 10) % 10) (x5 % 10))] g1 (rI K)
            have Ho := Ho.2
            refine e_iload_n (pc := 89) dX9_habits_89 rfl rfl ?_
            refine e_icmp_lt (pc := 90) (tgt := 105) dX9_habits_90 (by decide) (fun c9 => ?_) (fun c9 => ?_)
            · exact J1 (Or.inr (Or.inr c9))
            · exact J2 (fun z => z.elim c7 (fun z => z.elim (fun z => z c8) c9))
  refine e_iload_n (pc := 0) dX9_habits_0 rfl rfl ?_
  refine e_i2l (pc := 1) dX9_habits_1 ?_
  refine e_lconst (x := 1) (pc := 2) dX9_habits_2 ⟨by decide, by decide⟩ (by decide) ?_
  refine e_ldc2 (x := 14) (pc := 3) dX9_habits_3 ul_6_94 ⟨by decide, by decide⟩ ?_
  refine e_invS (pc := 6) (Y' := Y_X9_in) (as := [vL d, vL 1, vL 14]) (st := []) (lv0 := [some (vL d), none, some (vL 1), none, some (vL 14), none]) dX9_habits_6 m_X9_in ul_5_104 ul_5_105 ⟨rfl, rfl⟩ rfl rfl rfl rfl rfl (c_X9_in w d 1 14 h) ?_
  rintro _ hz ⟨_, rfl, rfl, hh⟩
  rw [hh]
  show Ev w Y_X9_habits 9 [some (vR 55), some (vI d), some (vI m), some (vI i), none, none, none] [vI (b2i (1 ≤ d ∧ d ≤ 14))] h (rI K)
  have J1 : (((1 ≤ d ∧ d ≤ 14)) ∧ (((1 ≤ m ∧ m ≤ d)) ∧ ((-1) ≤ i))) → Ev w Y_X9_habits 30 [some (vR 55), some (vI d), some (vI m), some (vI i), none, none, none] [] h (rI K) := by
    intro hp
    have H := H.1 hp
    refine e_iconst (pc := 30) dX9_habits_30 ⟨by decide, by decide⟩ ?_
    refine e_istore (lv' := [some (vR 55), some (vI d), some (vI m), some (vI i), some (vI 0), none, none]) (pc := 31) dX9_habits_31 rfl rfl ?_
    refine e_iconst (pc := 33) dX9_habits_33 ⟨by decide, by decide⟩ ?_
    refine e_istore (lv' := [some (vR 55), some (vI d), some (vI m), some (vI i), some (vI 0), some (vI 0), none]) (pc := 34) dX9_habits_34 rfl rfl ?_
    obtain ⟨m, H⟩ := H
    exact L1 m _ _ _ H
  have J2 : ¬ (((1 ≤ d ∧ d ≤ 14)) ∧ (((1 ≤ m ∧ m ≤ d)) ∧ ((-1) ≤ i))) → Ev w Y_X9_habits 28 [some (vR 55), some (vI d), some (vI m), some (vI i), none, none, none] [] h (rI K) := by
    intro hp
    have H := H.2 hp
    refine e_iconst (pc := 28) dX9_habits_28 ⟨by decide, by decide⟩ ?_
    exact e_ret (pc := 29) (v := some (vI (-1))) dX9_habits_29 rfl trivial ⟨_, rfl, H⟩
  refine e_ifb_eq (pc := 9) (tgt := 28) dX9_habits_9 (by decide) (fun c1 => ?_) (fun c1 => ?_)
  · exact J2 (fun z => c1 z.1)
  · refine e_iload_n (pc := 12) dX9_habits_12 rfl rfl ?_
    refine e_i2l (pc := 13) dX9_habits_13 ?_
    refine e_lconst (x := 1) (pc := 14) dX9_habits_14 ⟨by decide, by decide⟩ (by decide) ?_
    refine e_iload_n (pc := 15) dX9_habits_15 rfl rfl ?_
    refine e_i2l (pc := 16) dX9_habits_16 ?_
    refine e_invS (pc := 17) (Y' := Y_X9_in) (as := [vL m, vL 1, vL d]) (st := []) (lv0 := [some (vL m), none, some (vL 1), none, some (vL d), none]) dX9_habits_17 m_X9_in ul_5_104 ul_5_105 ⟨rfl, rfl⟩ rfl rfl rfl rfl rfl (c_X9_in w m 1 d h) ?_
    rintro _ hz ⟨_, rfl, rfl, hh⟩
    rw [hh]
    show Ev w Y_X9_habits 20 [some (vR 55), some (vI d), some (vI m), some (vI i), none, none, none] [vI (b2i (1 ≤ m ∧ m ≤ d))] h (rI K)
    refine e_ifb_eq (pc := 20) (tgt := 28) dX9_habits_20 (by decide) (fun c2 => ?_) (fun c2 => ?_)
    · exact J2 (fun z => (fun z => c2 z.1) z.2)
    · refine e_iload_n (pc := 23) dX9_habits_23 rfl rfl ?_
      refine e_iconst (pc := 24) dX9_habits_24 ⟨by decide, by decide⟩ ?_
      refine e_icmp_ge (pc := 25) (tgt := 30) dX9_habits_25 (by decide) (fun c3 => ?_) (fun c3 => ?_)
      · exact J1 ⟨c1, ⟨c2, c3⟩⟩
      · exact J2 (fun z => (fun z => c3 z.2) z.2)
set_option maxRecDepth 100000 in
set_option maxHeartbeats 4000000 in
theorem c_X9_habits (w : WD) (d : Int) (m : Int) (i : Int) (h : HP) (H : (0 ≤ h 55 0 ∧ h 55 0 ≤ 10) ∧ (0 ≤ h 55 8 ∧ h 55 8 ≤ 1000000000) ∧ (0 ≤ h 55 36 ∧ h 55 36 ≤ 60)) : Ev w Y_X9_habits 0 [some (vR 55), some (vI d), some (vI m), some (vI i), none, none, none] [] h (rI (fun r h' => r = (hbM h d m i) ∧ h' = h)) := by
  obtain ⟨h0, h8, h36⟩ := H
  by_cases hok : okHb d m i
  case neg => exact v_X9_habits w d m i h _ (fun _ _ _ _ => False) ⟨fun c => absurd c hok, fun c => ⟨by unfold hbM; rw [cif_f hok], rfl⟩⟩ (fun _ _ _ _ f => f.elim)
  have hm1 := hok.2.2
  refine v_X9_habits w d m i h _ (fun n x4 x5 g => g = h ∧ ∃ k : Nat, x5 = (k : Int) ∧ k ≤ 2400 ∧ n = 2400 - k ∧ x4 = ((wkP (hbQ h d m) k).length : Int) ∧ (0 ≤ i → x4 ≤ i)) ⟨fun _ => ⟨2400, rfl, 0, rfl, by omega, rfl, rfl, fun y => y⟩, fun c => absurd hok c⟩ ?_
  rintro n x4 x5 g ⟨rfl, k, rfl, hk, rfl, rfl, hi⟩
  have hl := wkP_l (hbQ g d m) k
  have hzq : ¬ (4 ≤ (k : Int) % 10 ∨ ¬ (0 ≤ (k : Int) / 10 % 10 ∧ (k : Int) / 10 % 10 < g 55 0) ∨ dyM g d ((k : Int) / 100) ((k : Int) / 10 % 10) ((k : Int) % 10) < m) → hbQ g d m (k : Int) := fun z => ⟨by omega, by omega, by omega⟩
  refine ⟨fun c => ⟨?_, rfl⟩, fun c => ⟨by omega, by omega, by omega, ⟨fun _ => trivial, fun _ => ⟨h0, fun _ => trivial, fun _ => ⟨by omega, by omega, ⟨h8, hok.1, h36⟩, trivial⟩⟩⟩, fun z => ⟨⟨by omega, by omega⟩, 2400 - (k + 1), by omega, rfl, k + 1, by omega, by omega, rfl, ?_, hi⟩, fun z => ⟨fun u => ⟨⟨by omega, by omega⟩, ⟨by omega, by omega⟩, 2400 - (k + 1), by omega, rfl, k + 1, by omega, by omega, rfl, ?_, fun s => ?_⟩, fun u => ⟨?_, rfl⟩⟩⟩⟩
  · have e : k = 2400 := by omega
    subst e
    unfold hbM
    rw [cif_t hok]
    by_cases y : 0 ≤ i
    · rw [cif_t y, cif_t y]
      unfold nthL
      have := hi y
      rw [if_neg (by omega)]
    · rw [cif_f y, cif_f y]
  · rw [wkP_f (fun y => by have y1 := y.1; have y2 := y.2.1; have y3 := y.2.2; rcases z with z | z | z <;> omega)]
  · rw [wkP_t (hzq z), List.length_append, List.length_singleton]; omega
  · have := hi s; omega
  · have hn := wkP_nth (p := hbQ g d m) (k := k) (n := 2400) (hzq z) (by omega)
    unfold hbM
    rw [cif_t hok, cif_t (by omega)]
    unfold nthL
    rw [if_pos (by omega), ← u, Int.toNat_natCast, hn.2]
