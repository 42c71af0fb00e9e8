/-! calls without loops of their own -/
set_option maxRecDepth 100000 in
set_option maxHeartbeats 4000000 in
theorem v_X9_isState (w : WD) (t : Int) (v : Int) (h : HP) (K : Int → HP → Prop) 
    (H : ((0 ≤ h 55 0 ∧ h 55 0 ≤ 10) ∧ ((((¬ (0 ≤ t ∧ t < h 55 0) → True) ∧ ((0 ≤ t ∧ t < h 55 0) → ((0 ≤ t ∧ t < 10) ∧ True)))) ∧ K (b2i (((0 ≤ t ∧ t < h 55 0)) ∧ ((0 ≤ v ∧ v ≤ (top (h 57 t)))))) h))) :
    Ev w Y_X9_isState 0 [some (vR 55), some (vI t), some (vI v)] [] h (rI K) := by
  refine e_aload_n (pc := 0) dX9_isState_0 rfl rfl ?_
  refine e_iload_n (pc := 1) dX9_isState_1 rfl rfl ?_
  refine e_invV (pc := 2) (Y' := Y_X9_isThing) (as := [vI t]) (st := []) (lv0 := [some (vR 55), some (vI t)]) (q := 55) (ci := 9) (T := TX9) (N := 52) dX9_isState_2 m_X9_isThing ul_5_119 ⟨ul_5_121, us_X9_isThing⟩ ⟨rfl, rfl⟩ rfl rfl rfl rfl rfl rfl rfl (c_X9_isThing w t h H.1) ?_
  rintro _ hz ⟨_, rfl, rfl, hh⟩
  rw [hh]
  show Ev w Y_X9_isState 5 [some (vR 55), some (vI t), some (vI v)] [vI (b2i (0 ≤ t ∧ t < h 55 0))] h (rI K)
  have H := H.2
  have J : Ev w Y_X9_isState 32 [some (vR 55), some (vI t), some (vI v)] [vI (b2i (((0 ≤ t ∧ t < h 55 0)) ∧ ((0 ≤ v ∧ v ≤ (top (h 57 t))))))] h (rI K) := by
    have H := H.2
    exact e_ret (pc := 32) (v := some (vI (b2i (((0 ≤ t ∧ t < h 55 0)) ∧ ((0 ≤ v ∧ v ≤ (top (h 57 t)))))))) dX9_isState_32 rfl (b2i_01 _) ⟨_, rfl, H⟩
  have Ho := H.1
  refine e_ifb_eq (pc := 5) (tgt := 31) dX9_isState_5 (by decide) (fun c1 => ?_) (fun c1 => ?_)
  · have Ho := Ho.1 c1
    refine e_iconst (pc := 31) dX9_isState_31 ⟨by decide, by decide⟩ ?_
    exact e_top (b2i_f (fun z => c1 z.1)) J
  · have Ho := Ho.2 c1
    refine e_iload_n (pc := 8) dX9_isState_8 rfl rfl ?_
    refine e_i2l (pc := 9) dX9_isState_9 ?_
    refine e_lconst (x := 0) (pc := 10) dX9_isState_10 ⟨by decide, by decide⟩ (by decide) ?_
    refine e_aload_n (pc := 11) dX9_isState_11 rfl rfl ?_
    refine e_getR (q := 55) (ci := 9) (k := 2) (y := 57) (C := RX9) (T := TX9) (N := 52) (pc := 12) dX9_isState_12 rfl rfl ev_in9 rfl ul_4_184 ⟨rfl, rfl⟩ rfl ?_
    refine e_iload_n (pc := 15) dX9_isState_15 rfl rfl ?_
    refine e_iald (q := 57) (x := (h 57 t)) (pc := 16) dX9_isState_16 rfl Ho.1 rfl ?_
    have Ho := Ho.2
    refine e_invS (pc := 17) (Y' := Y_X9_greatest) (as := [vI (h 57 t)]) (st := [vL 0, vL v]) (lv0 := [some (vI (h 57 t))]) dX9_isState_17 m_X9_greatest ul_5_224 ul_5_225 ⟨rfl, rfl⟩ rfl rfl rfl rfl rfl (c_X9_greatest w (h 57 t) h) ?_
    rintro _ hz ⟨_, rfl, rfl, hh⟩
    rw [hh]
    show Ev w Y_X9_isState 20 [some (vR 55), some (vI t), some (vI v)] [vI (top (h 57 t)), vL 0, vL v] h (rI K)
    refine e_i2l (pc := 20) dX9_isState_20 ?_
    refine e_invS (pc := 21) (Y' := Y_X9_in) (as := [vL v, vL 0, vL (top (h 57 t))]) (st := []) (lv0 := [some (vL v), none, some (vL 0), none, some (vL (top (h 57 t))), none]) dX9_isState_21 m_X9_in ul_5_104 ul_5_105 ⟨rfl, rfl⟩ rfl rfl rfl rfl rfl (c_X9_in w v 0 (top (h 57 t)) h) ?_
    rintro _ hz ⟨_, rfl, rfl, hh⟩
    rw [hh]
    show Ev w Y_X9_isState 24 [some (vR 55), some (vI t), some (vI v)] [vI (b2i (0 ≤ v ∧ v ≤ (top (h 57 t))))] h (rI K)
    refine e_ifb_eq (pc := 24) (tgt := 31) dX9_isState_24 (by decide) (fun c2 => ?_) (fun c2 => ?_)
    · refine e_iconst (pc := 31) dX9_isState_31 ⟨by decide, by decide⟩ ?_
      exact e_top (b2i_f (fun z => c2 z.2)) J
    · refine e_iconst (pc := 27) dX9_isState_27 ⟨by decide, by decide⟩ ?_
      refine e_goto (pc := 28) (tgt := 32) dX9_isState_28 (by decide) ?_
      exact e_top (b2i_t ⟨c1, c2⟩) J
set_option maxRecDepth 100000 in
set_option maxHeartbeats 4000000 in
theorem c_X9_isState (w : WD) (t : Int) (v : Int) (h : HP) (H : 0 ≤ h 55 0 ∧ h 55 0 ≤ 10) : Ev w Y_X9_isState 0 [some (vR 55), some (vI t), some (vI v)] [] h (rI (fun r h' => r = b2i ((0 ≤ t ∧ t < h 55 0) ∧ 0 ≤ v ∧ v ≤ top (h 57 t)) ∧ h' = h)) := by
  exact v_X9_isState w t v h _ ⟨H, ⟨fun _ => trivial, fun _ => ⟨by omega, trivial⟩⟩, rfl, rfl⟩
set_option maxRecDepth 100000 in
set_option maxHeartbeats 4000000 in
theorem v_X6_firesByHour (w : WD) (s : Int) (S : Int) (h : HP) (K : Int → HP → Prop) 
    (H : ((0 ≤ s ∧ s < 8) ∧ ((((¬ (h 39 s) = (-1) → True) ∧ ((h 39 s) = (-1) → ((0 ≤ s ∧ s < 8) ∧ ((inS S ∧ 0 ≤ (h 41 s) ∧ (h 41 s) < 10) ∧ ((0 ≤ s ∧ s < 8) ∧ True)))))) ∧ K (b2i (((h 39 s) = (-1)) ∧ (¬ (dgt S (h 41 s)) = (h 42 s)))) h))) :
    Ev w Y_X6_firesByHour 0 [some (vR 6), some (vI s), some (vI S)] [] h (rI K) := by
  refine e_aload_n (pc := 0) dX6_firesByHour_0 rfl rfl ?_
  refine e_getR (q := 6) (ci := 6) (k := 2) (y := 39) (C := RX6) (T := TX6) (N := 10) (pc := 1) dX6_firesByHour_1 rfl rfl ev_in6 rfl ul_2_2 ⟨rfl, rfl⟩ rfl ?_
  refine e_iload_n (pc := 4) dX6_firesByHour_4 rfl rfl ?_
  refine e_iald (q := 39) (x := (h 39 s)) (pc := 5) dX6_firesByHour_5 rfl H.1 rfl ?_
  have H := H.2
  refine e_iconst (pc := 6) dX6_firesByHour_6 ⟨by decide, by decide⟩ ?_
  have J : Ev w Y_X6_firesByHour 34 [some (vR 6), some (vI s), some (vI S)] [vI (b2i (((h 39 s) = (-1)) ∧ (¬ (dgt S (h 41 s)) = (h 42 s))))] h (rI K) := by
    have H := H.2
    exact e_ret (pc := 34) (v := some (vI (b2i (((h 39 s) = (-1)) ∧ (¬ (dgt S (h 41 s)) = (h 42 s)))))) dX6_firesByHour_34 rfl (b2i_01 _) ⟨_, rfl, H⟩
  have Ho := H.1
  refine e_icmp_ne (pc := 7) (tgt := 33) dX6_firesByHour_7 (by decide) (fun c1 => ?_) (fun c1 => ?_)
  · have Ho := Ho.1 c1
    refine e_iconst (pc := 33) dX6_firesByHour_33 ⟨by decide, by decide⟩ ?_
    exact e_top (b2i_f (fun z => c1 z.1)) J
  · have Ho := Ho.2 c1
    refine e_iload_n (pc := 10) dX6_firesByHour_10 rfl rfl ?_
    refine e_aload_n (pc := 11) dX6_firesByHour_11 rfl rfl ?_
    refine e_getR (q := 6) (ci := 6) (k := 4) (y := 41) (C := RX6) (T := TX6) (N := 10) (pc := 12) dX6_firesByHour_12 rfl rfl ev_in6 rfl ul_2_4 ⟨rfl, rfl⟩ rfl ?_
    refine e_iload_n (pc := 15) dX6_firesByHour_15 rfl rfl ?_
    refine e_iald (q := 41) (x := (h 41 s)) (pc := 16) dX6_firesByHour_16 rfl Ho.1 rfl ?_
    have Ho := Ho.2
    refine e_invSN (pc := 17) (Y' := Y_X8_stateIn) (as := [vI S, vI (h 41 s)]) (st := []) (lv0 := [some (vI S), some (vI (h 41 s))]) dX6_firesByHour_17 m_X8_stateIn nl_11 ul_2_154 ⟨rfl, rfl⟩ rfl rfl rfl rfl rfl (c_X8_stateIn w S (h 41 s) h Ho.1) ?_
    rintro _ hz ⟨_, rfl, rfl, hh⟩
    rw [hh]
    show Ev w Y_X6_firesByHour 20 [some (vR 6), some (vI s), some (vI S)] [vI (dgt S (h 41 s))] h (rI K)
    have Ho := Ho.2
    refine e_aload_n (pc := 20) dX6_firesByHour_20 rfl rfl ?_
    refine e_getR (q := 6) (ci := 6) (k := 5) (y := 42) (C := RX6) (T := TX6) (N := 10) (pc := 21) dX6_firesByHour_21 rfl rfl ev_in6 rfl ul_2_5 ⟨rfl, rfl⟩ rfl ?_
    refine e_iload_n (pc := 24) dX6_firesByHour_24 rfl rfl ?_
    refine e_iald (q := 42) (x := (h 42 s)) (pc := 25) dX6_firesByHour_25 rfl Ho.1 rfl ?_
    have Ho := Ho.2
    refine e_icmp_eq (pc := 26) (tgt := 33) dX6_firesByHour_26 (by decide) (fun c2 => ?_) (fun c2 => ?_)
    · refine e_iconst (pc := 33) dX6_firesByHour_33 ⟨by decide, by decide⟩ ?_
      exact e_top (b2i_f (fun z => (fun z => z c2) z.2)) J
    · refine e_iconst (pc := 29) dX6_firesByHour_29 ⟨by decide, by decide⟩ ?_
      refine e_goto (pc := 30) (tgt := 34) dX6_firesByHour_30 (by decide) ?_
      exact e_top (b2i_t ⟨c1, c2⟩) J
set_option maxRecDepth 100000 in
set_option maxHeartbeats 4000000 in
theorem c_X6_firesByHour (w : WD) (s : Int) (S : Int) (h : HP) (H : (0 ≤ s ∧ s < 8) ∧ inS S ∧ 0 ≤ h 41 s ∧ h 41 s < 10) : Ev w Y_X6_firesByHour 0 [some (vR 6), some (vI s), some (vI S)] [] h (rI (fun r h' => r = b2i (h 39 s = -1 ∧ ¬ dgt S (h 41 s) = h 42 s) ∧ h' = h)) := by
  exact v_X6_firesByHour w s S h _ ⟨H.1, ⟨fun _ => trivial, fun _ => ⟨H.1, H.2, H.1, trivial⟩⟩, rfl, rfl⟩
def S_X8_thing (a1 : Int) (a2 : Int) (a3 : Int) (h : HP) (K : Int → HP → Prop) : Prop :=
  (((((0 ≤ a1 ∧ a1 ≤ 4)) ∧ (((0 ≤ a2 ∧ a2 ≤ 3)) ∧ ((0 ≤ a3 ∧ a3 ≤ 100)))) → (S_X4_addThing a1 a2 a3 h (fun r21 h21 => K r21 h21))) ∧ (¬ (((0 ≤ a1 ∧ a1 ≤ 4)) ∧ (((0 ≤ a2 ∧ a2 ≤ 3)) ∧ ((0 ≤ a3 ∧ a3 ≤ 100)))) → K (-1) h))
set_option maxRecDepth 100000 in
set_option maxHeartbeats 4000000 in
theorem v_X8_thing (w : WD) (a1 : Int) (a2 : Int) (a3 : Int) (h : HP) (K : Int → HP → Prop) 
    (H : (((((0 ≤ a1 ∧ a1 ≤ 4)) ∧ (((0 ≤ a2 ∧ a2 ≤ 3)) ∧ ((0 ≤ a3 ∧ a3 ≤ 100)))) → (S_X4_addThing a1 a2 a3 h (fun r21 h21 => K r21 h21))) ∧ (¬ (((0 ≤ a1 ∧ a1 ≤ 4)) ∧ (((0 ≤ a2 ∧ a2 ≤ 3)) ∧ ((0 ≤ a3 ∧ a3 ≤ 100)))) → K (-1) h))) :
    Ev w Y_X8_thing 0 [some (vR 0), some (vI a1), some (vI a2), some (vI a3)] [] h (rI K) := by
  refine e_iload_n (pc := 0) dX8_thing_0 rfl rfl ?_
  refine e_iconst (pc := 1) dX8_thing_1 ⟨by decide, by decide⟩ ?_
  refine e_iconst (pc := 2) dX8_thing_2 ⟨by decide, by decide⟩ ?_
  refine e_invS (pc := 3) (Y' := Y_X8_within) (as := [vI a1, vI 0, vI 4]) (st := []) (lv0 := [some (vI a1), some (vI 0), some (vI 4)]) dX8_thing_3 m_X8_within ul_2_130 ul_2_131 ⟨rfl, rfl⟩ rfl rfl rfl rfl rfl (c_X8_within w a1 0 4 h) ?_
  rintro _ hz ⟨_, rfl, rfl, hh⟩
  rw [hh]
  show Ev w Y_X8_thing 6 [some (vR 0), some (vI a1), some (vI a2), some (vI a3)] [vI (b2i (0 ≤ a1 ∧ a1 ≤ 4))] h (rI K)
  have J1 : (((0 ≤ a1 ∧ a1 ≤ 4)) ∧ (((0 ≤ a2 ∧ a2 ≤ 3)) ∧ ((0 ≤ a3 ∧ a3 ≤ 100)))) → Ev w Y_X8_thing 30 [some (vR 0), some (vI a1), some (vI a2), some (vI a3)] [] h (rI K) := by
    intro hp
    have H := H.1 hp
    refine e_aload_n (pc := 30) dX8_thing_30 rfl rfl ?_
    refine e_getR (q := 0) (ci := 8) (k := 0) (y := 1) (C := RX8) (T := TX8) (N := 9) (pc := 31) dX8_thing_31 rfl rfl ev_in8 rfl ul_2_98 ⟨rfl, rfl⟩ rfl ?_
    refine e_iload_n (pc := 34) dX8_thing_34 rfl rfl ?_
    refine e_iload_n (pc := 35) dX8_thing_35 rfl rfl ?_
    refine e_iload_n (pc := 36) dX8_thing_36 rfl rfl ?_
    refine e_invV (pc := 37) (Y' := Y_X4_addThing) (as := [vI a1, vI a2, vI a3]) (st := []) (lv0 := [some (vR 1), some (vI a1), some (vI a2), some (vI a3)]) (q := 1) (ci := 4) (T := TX4) (N := 10) dX8_thing_37 m_X4_addThing ul_2_133 ⟨ul_2_134, ul_2_135⟩ ⟨rfl, rfl⟩ rfl rfl rfl rfl rfl rfl rfl (c_X4_addThing w a1 a2 a3 h _ H) ?_
    rintro _ h21 ⟨r21, rfl, H⟩
    show Ev w Y_X8_thing 40 [some (vR 0), some (vI a1), some (vI a2), some (vI a3)] [vI r21] h21 (rI K)
    exact e_ret (pc := 40) (v := some (vI r21)) dX8_thing_40 rfl trivial ⟨_, rfl, H⟩
  have J2 : ¬ (((0 ≤ a1 ∧ a1 ≤ 4)) ∧ (((0 ≤ a2 ∧ a2 ≤ 3)) ∧ ((0 ≤ a3 ∧ a3 ≤ 100)))) → Ev w Y_X8_thing 28 [some (vR 0), some (vI a1), some (vI a2), some (vI a3)] [] h (rI K) := by
    intro hp
    have H := H.2 hp
    refine e_iconst (pc := 28) dX8_thing_28 ⟨by decide, by decide⟩ ?_
    exact e_ret (pc := 29) (v := some (vI (-1))) dX8_thing_29 rfl trivial ⟨_, rfl, H⟩
  refine e_ifb_eq (pc := 6) (tgt := 28) dX8_thing_6 (by decide) (fun c1 => ?_) (fun c1 => ?_)
  · exact J2 (fun z => c1 z.1)
  · refine e_iload_n (pc := 9) dX8_thing_9 rfl rfl ?_
    refine e_iconst (pc := 10) dX8_thing_10 ⟨by decide, by decide⟩ ?_
    refine e_iconst (pc := 11) dX8_thing_11 ⟨by decide, by decide⟩ ?_
    refine e_invS (pc := 12) (Y' := Y_X8_within) (as := [vI a2, vI 0, vI 3]) (st := []) (lv0 := [some (vI a2), some (vI 0), some (vI 3)]) dX8_thing_12 m_X8_within ul_2_130 ul_2_131 ⟨rfl, rfl⟩ rfl rfl rfl rfl rfl (c_X8_within w a2 0 3 h) ?_
    rintro _ hz ⟨_, rfl, rfl, hh⟩
    rw [hh]
    show Ev w Y_X8_thing 15 [some (vR 0), some (vI a1), some (vI a2), some (vI a3)] [vI (b2i (0 ≤ a2 ∧ a2 ≤ 3))] h (rI K)
    refine e_ifb_eq (pc := 15) (tgt := 28) dX8_thing_15 (by decide) (fun c2 => ?_) (fun c2 => ?_)
    · exact J2 (fun z => (fun z => c2 z.1) z.2)
    · refine e_iload_n (pc := 18) dX8_thing_18 rfl rfl ?_
      refine e_iconst (pc := 19) dX8_thing_19 ⟨by decide, by decide⟩ ?_
      refine e_bipush (pc := 20) dX8_thing_20 ⟨by decide, by decide⟩ (by decide) ?_
      refine e_invS (pc := 22) (Y' := Y_X8_within) (as := [vI a3, vI 0, vI 100]) (st := []) (lv0 := [some (vI a3), some (vI 0), some (vI 100)]) dX8_thing_22 m_X8_within ul_2_130 ul_2_131 ⟨rfl, rfl⟩ rfl rfl rfl rfl rfl (c_X8_within w a3 0 100 h) ?_
      rintro _ hz ⟨_, rfl, rfl, hh⟩
      rw [hh]
      show Ev w Y_X8_thing 25 [some (vR 0), some (vI a1), some (vI a2), some (vI a3)] [vI (b2i (0 ≤ a3 ∧ a3 ≤ 100))] h (rI K)
      refine e_ifb_ne (pc := 25) (tgt := 30) dX8_thing_25 (by decide) (fun c3 => ?_) (fun c3 => ?_)
      · exact J1 ⟨c1, ⟨c2, c3⟩⟩
      · exact J2 (fun z => (fun z => c3 z.2) z.2)
theorem c_X8_thing (w : WD) (a1 : Int) (a2 : Int) (a3 : Int) (h : HP) (K : Int → HP → Prop)  (H : S_X8_thing a1 a2 a3 h K) : Ev w Y_X8_thing 0 [some (vR 0), some (vI a1), some (vI a2), some (vI a3)] [] h (rI K) := v_X8_thing w a1 a2 a3 h K  H
def S_X8_go (a1 : Int) (a2 : Int) (h : HP) (K : Int → HP → Prop) : Prop :=
  (((((0 ≤ a1 ∧ a1 ≤ 5)) ∧ (((-1) ≤ a2 ∧ a2 ≤ 4))) → (S_X4_move a1 a2 h (fun r21 h21 => K r21 h21))) ∧ (¬ (((0 ≤ a1 ∧ a1 ≤ 5)) ∧ (((-1) ≤ a2 ∧ a2 ≤ 4))) → K (-100) h))
set_option maxRecDepth 100000 in
set_option maxHeartbeats 4000000 in
theorem v_X8_go (w : WD) (a1 : Int) (a2 : Int) (h : HP) (K : Int → HP → Prop) 
    (H : (((((0 ≤ a1 ∧ a1 ≤ 5)) ∧ (((-1) ≤ a2 ∧ a2 ≤ 4))) → (S_X4_move a1 a2 h (fun r21 h21 => K r21 h21))) ∧ (¬ (((0 ≤ a1 ∧ a1 ≤ 5)) ∧ (((-1) ≤ a2 ∧ a2 ≤ 4))) → K (-100) h))) :
    Ev w Y_X8_go 0 [some (vR 0), some (vI a1), some (vI a2)] [] h (rI K) := by
  refine e_iload_n (pc := 0) dX8_go_0 rfl rfl ?_
  refine e_iconst (pc := 1) dX8_go_1 ⟨by decide, by decide⟩ ?_
  refine e_iconst (pc := 2) dX8_go_2 ⟨by decide, by decide⟩ ?_
  refine e_invS (pc := 3) (Y' := Y_X8_within) (as := [vI a1, vI 0, vI 5]) (st := []) (lv0 := [some (vI a1), some (vI 0), some (vI 5)]) dX8_go_3 m_X8_within ul_2_130 ul_2_131 ⟨rfl, rfl⟩ rfl rfl rfl rfl rfl (c_X8_within w a1 0 5 h) ?_
  rintro _ hz ⟨_, rfl, rfl, hh⟩
  rw [hh]
  show Ev w Y_X8_go 6 [some (vR 0), some (vI a1), some (vI a2)] [vI (b2i (0 ≤ a1 ∧ a1 ≤ 5))] h (rI K)
  have J1 : (((0 ≤ a1 ∧ a1 ≤ 5)) ∧ (((-1) ≤ a2 ∧ a2 ≤ 4))) → Ev w Y_X8_go 21 [some (vR 0), some (vI a1), some (vI a2)] [] h (rI K) := by
    intro hp
    have H := H.1 hp
    refine e_aload_n (pc := 21) dX8_go_21 rfl rfl ?_
    refine e_getR (q := 0) (ci := 8) (k := 0) (y := 1) (C := RX8) (T := TX8) (N := 9) (pc := 22) dX8_go_22 rfl rfl ev_in8 rfl ul_2_98 ⟨rfl, rfl⟩ rfl ?_
    refine e_iload_n (pc := 25) dX8_go_25 rfl rfl ?_
    refine e_iload_n (pc := 26) dX8_go_26 rfl rfl ?_
    refine e_invV (pc := 27) (Y' := Y_X4_move) (as := [vI a1, vI a2]) (st := []) (lv0 := [some (vR 1), some (vI a1), some (vI a2), none]) (q := 1) (ci := 4) (T := TX4) (N := 10) dX8_go_27 m_X4_move ul_2_141 ⟨ul_2_142, ul_2_143⟩ ⟨rfl, rfl⟩ rfl rfl rfl rfl rfl rfl rfl (c_X4_move w a1 a2 h _ H) ?_
    rintro _ h21 ⟨r21, rfl, H⟩
    show Ev w Y_X8_go 30 [some (vR 0), some (vI a1), some (vI a2)] [vI r21] h21 (rI K)
    exact e_ret (pc := 30) (v := some (vI r21)) dX8_go_30 rfl trivial ⟨_, rfl, H⟩
  have J2 : ¬ (((0 ≤ a1 ∧ a1 ≤ 5)) ∧ (((-1) ≤ a2 ∧ a2 ≤ 4))) → Ev w Y_X8_go 18 [some (vR 0), some (vI a1), some (vI a2)] [] h (rI K) := by
    intro hp
    have H := H.2 hp
    refine e_bipush (pc := 18) dX8_go_18 ⟨by decide, by decide⟩ (by decide) ?_
    exact e_ret (pc := 20) (v := some (vI (-100))) dX8_go_20 rfl trivial ⟨_, rfl, H⟩
  refine e_ifb_eq (pc := 6) (tgt := 18) dX8_go_6 (by decide) (fun c1 => ?_) (fun c1 => ?_)
  · exact J2 (fun z => c1 z.1)
  · refine e_iload_n (pc := 9) dX8_go_9 rfl rfl ?_
    refine e_iconst (pc := 10) dX8_go_10 ⟨by decide, by decide⟩ ?_
    refine e_iconst (pc := 11) dX8_go_11 ⟨by decide, by decide⟩ ?_
    refine e_invS (pc := 12) (Y' := Y_X8_within) (as := [vI a2, vI (-1), vI 4]) (st := []) (lv0 := [some (vI a2), some (vI (-1)), some (vI 4)]) dX8_go_12 m_X8_within ul_2_130 ul_2_131 ⟨rfl, rfl⟩ rfl rfl rfl rfl rfl (c_X8_within w a2 (-1) 4 h) ?_
    rintro _ hz ⟨_, rfl, rfl, hh⟩
    rw [hh]
    show Ev w Y_X8_go 15 [some (vR 0), some (vI a1), some (vI a2)] [vI (b2i ((-1) ≤ a2 ∧ a2 ≤ 4))] h (rI K)
    refine e_ifb_ne (pc := 15) (tgt := 21) dX8_go_15 (by decide) (fun c2 => ?_) (fun c2 => ?_)
    · exact J1 ⟨c1, c2⟩
    · exact J2 (fun z => c2 z.2)
theorem c_X8_go (w : WD) (a1 : Int) (a2 : Int) (h : HP) (K : Int → HP → Prop)  (H : S_X8_go a1 a2 h K) : Ev w Y_X8_go 0 [some (vR 0), some (vI a1), some (vI a2)] [] h (rI K) := v_X8_go w a1 a2 h K  H
def S_X8_state (a1 : Int) (h : HP) (K : Int → HP → Prop) : Prop :=
  ((((¬ (0 ≤ a1 ∧ a1 < h 1 7) → True) ∧ ((0 ≤ a1 ∧ a1 < h 1 7) → ((inS (h 1 8) ∧ 0 ≤ a1 ∧ a1 < 10) ∧ True)))) ∧ K (cif (¬ (0 ≤ a1 ∧ a1 < h 1 7)) (-1) (dgt (h 1 8) a1)) h)
set_option maxRecDepth 100000 in
set_option maxHeartbeats 4000000 in
theorem v_X8_state (w : WD) (a1 : Int) (h : HP) (K : Int → HP → Prop) 
    (H : ((((¬ (0 ≤ a1 ∧ a1 < h 1 7) → True) ∧ ((0 ≤ a1 ∧ a1 < h 1 7) → ((inS (h 1 8) ∧ 0 ≤ a1 ∧ a1 < 10) ∧ True)))) ∧ K (cif (¬ (0 ≤ a1 ∧ a1 < h 1 7)) (-1) (dgt (h 1 8) a1)) h)) :
    Ev w Y_X8_state 0 [some (vR 0), some (vI a1)] [] h (rI K) := by
  refine e_aload_n (pc := 0) dX8_state_0 rfl rfl ?_
  refine e_getR (q := 0) (ci := 8) (k := 0) (y := 1) (C := RX8) (T := TX8) (N := 9) (pc := 1) dX8_state_1 rfl rfl ev_in8 rfl ul_2_98 ⟨rfl, rfl⟩ rfl ?_
  refine e_iload_n (pc := 4) dX8_state_4 rfl rfl ?_
  refine e_invV (pc := 5) (Y' := Y_X4_isThing) (as := [vI a1]) (st := []) (lv0 := [some (vR 1), some (vI a1)]) (q := 1) (ci := 4) (T := TX4) (N := 10) dX8_state_5 m_X4_isThing ul_2_149 ⟨ul_2_150, ul_2_151⟩ ⟨rfl, rfl⟩ rfl rfl rfl rfl rfl rfl rfl (c_X4_isThing w a1 h) ?_
  rintro _ hz ⟨_, rfl, rfl, hh⟩
  rw [hh]
  show Ev w Y_X8_state 8 [some (vR 0), some (vI a1)] [vI (b2i (0 ≤ a1 ∧ a1 < h 1 7))] h (rI K)
  have J : Ev w Y_X8_state 26 [some (vR 0), some (vI a1)] [vI (cif (¬ (0 ≤ a1 ∧ a1 < h 1 7)) (-1) (dgt (h 1 8) a1))] h (rI K) := by
    have H := H.2
    exact e_ret (pc := 26) (v := some (vI (cif (¬ (0 ≤ a1 ∧ a1 < h 1 7)) (-1) (dgt (h 1 8) a1)))) dX8_state_26 rfl trivial ⟨_, rfl, H⟩
  have Ho := H.1
  refine e_ifb_eq (pc := 8) (tgt := 25) dX8_state_8 (by decide) (fun c1 => ?_) (fun c1 => ?_)
  · have Ho := Ho.1 c1
    refine e_iconst (pc := 25) dX8_state_25 ⟨by decide, by decide⟩ ?_
    exact e_top (cif_t c1) J
  · have Ho := Ho.2 c1
    refine e_aload_n (pc := 11) dX8_state_11 rfl rfl ?_
    refine e_getR (q := 0) (ci := 8) (k := 0) (y := 1) (C := RX8) (T := TX8) (N := 9) (pc := 12) dX8_state_12 rfl rfl ev_in8 rfl ul_2_98 ⟨rfl, rfl⟩ rfl ?_
    refine e_getI (q := 1) (ci := 4) (k := 8) (kz := 8) (C := RX4) (T := TX4) (N := 10) (x := (h 1 8)) (pc := 15) dX8_state_15 rfl rfl rfl ev_in4 rfl ul_1_50 ⟨rfl, by decide⟩ rfl ?_
    refine e_iload_n (pc := 18) dX8_state_18 rfl rfl ?_
    refine e_invS (pc := 19) (Y' := Y_X8_stateIn) (as := [vI (h 1 8), vI a1]) (st := []) (lv0 := [some (vI (h 1 8)), some (vI a1)]) dX8_state_19 m_X8_stateIn ul_2_153 ul_2_154 ⟨rfl, rfl⟩ rfl rfl rfl rfl rfl (c_X8_stateIn w (h 1 8) a1 h Ho.1) ?_
    rintro _ hz ⟨_, rfl, rfl, hh⟩
    rw [hh]
    show Ev w Y_X8_state 22 [some (vR 0), some (vI a1)] [vI (dgt (h 1 8) a1)] h (rI K)
    have Ho := Ho.2
    refine e_goto (pc := 22) (tgt := 26) dX8_state_22 (by decide) ?_
    exact e_top (cif_f (fun z => z c1)) J
theorem c_X8_state (w : WD) (a1 : Int) (h : HP) (K : Int → HP → Prop)  (H : S_X8_state a1 h K) : Ev w Y_X8_state 0 [some (vR 0), some (vI a1)] [] h (rI K) := v_X8_state w a1 h K  H
def S_X8_doubt (a1 : Int) (a2 : Int) (a3 : Int) (h : HP) (K : Int → HP → Prop) : Prop :=
  (((((0 ≤ a1 ∧ a1 ≤ 15)) ∧ (((0 ≤ a2 ∧ a2 ≤ 15)) ∧ ((¬ a1 = a2) ∧ ((0 ≤ a3 ∧ a3 ≤ 9))))) → (S_X7_setDoubt a1 a2 a3 h (fun r21 h21 => K r21 h21))) ∧ (¬ (((0 ≤ a1 ∧ a1 ≤ 15)) ∧ (((0 ≤ a2 ∧ a2 ≤ 15)) ∧ ((¬ a1 = a2) ∧ ((0 ≤ a3 ∧ a3 ≤ 9))))) → K (-1) h))
set_option maxRecDepth 100000 in
set_option maxHeartbeats 4000000 in
theorem v_X8_doubt (w : WD) (a1 : Int) (a2 : Int) (a3 : Int) (h : HP) (K : Int → HP → Prop) 
    (H : (((((0 ≤ a1 ∧ a1 ≤ 15)) ∧ (((0 ≤ a2 ∧ a2 ≤ 15)) ∧ ((¬ a1 = a2) ∧ ((0 ≤ a3 ∧ a3 ≤ 9))))) → (S_X7_setDoubt a1 a2 a3 h (fun r21 h21 => K r21 h21))) ∧ (¬ (((0 ≤ a1 ∧ a1 ≤ 15)) ∧ (((0 ≤ a2 ∧ a2 ≤ 15)) ∧ ((¬ a1 = a2) ∧ ((0 ≤ a3 ∧ a3 ≤ 9))))) → K (-1) h))) :
    Ev w Y_X8_doubt 0 [some (vR 0), some (vI a1), some (vI a2), some (vI a3)] [] h (rI K) := by
  refine e_iload_n (pc := 0) dX8_doubt_0 rfl rfl ?_
  refine e_iconst (pc := 1) dX8_doubt_1 ⟨by decide, by decide⟩ ?_
  refine e_bipush (pc := 2) dX8_doubt_2 ⟨by decide, by decide⟩ (by decide) ?_
  refine e_invS (pc := 4) (Y' := Y_X8_within) (as := [vI a1, vI 0, vI 15]) (st := []) (lv0 := [some (vI a1), some (vI 0), some (vI 15)]) dX8_doubt_4 m_X8_within ul_2_130 ul_2_131 ⟨rfl, rfl⟩ rfl rfl rfl rfl rfl (c_X8_within w a1 0 15 h) ?_
  rintro _ hz ⟨_, rfl, rfl, hh⟩
  rw [hh]
  show Ev w Y_X8_doubt 7 [some (vR 0), some (vI a1), some (vI a2), some (vI a3)] [vI (b2i (0 ≤ a1 ∧ a1 ≤ 15))] h (rI K)
  have J1 : (((0 ≤ a1 ∧ a1 ≤ 15)) ∧ (((0 ≤ a2 ∧ a2 ≤ 15)) ∧ ((¬ a1 = a2) ∧ ((0 ≤ a3 ∧ a3 ≤ 9))))) → Ev w Y_X8_doubt 37 [some (vR 0), some (vI a1), some (vI a2), some (vI a3)] [] h (rI K) := by
    intro hp
    have H := H.1 hp
    refine e_aload_n (pc := 37) dX8_doubt_37 rfl rfl ?_
    refine e_getR (q := 0) (ci := 8) (k := 2) (y := 3) (C := RX8) (T := TX8) (N := 9) (pc := 38) dX8_doubt_38 rfl rfl ev_in8 rfl ul_2_100 ⟨rfl, rfl⟩ rfl ?_
    refine e_iload_n (pc := 41) dX8_doubt_41 rfl rfl ?_
    refine e_iload_n (pc := 42) dX8_doubt_42 rfl rfl ?_
    refine e_iload_n (pc := 43) dX8_doubt_43 rfl rfl ?_
    refine e_invV (pc := 44) (Y' := Y_X7_setDoubt) (as := [vI a1, vI a2, vI a3]) (st := []) (lv0 := [some (vR 3), some (vI a1), some (vI a2), some (vI a3), none, none]) (q := 3) (ci := 7) (T := TX7) (N := 8) dX8_doubt_44 m_X7_setDoubt ul_2_160 ⟨ul_2_161, ul_2_162⟩ ⟨rfl, rfl⟩ rfl rfl rfl rfl rfl rfl rfl (c_X7_setDoubt w a1 a2 a3 h _ H) ?_
    rintro _ h21 ⟨r21, rfl, H⟩
    show Ev w Y_X8_doubt 47 [some (vR 0), some (vI a1), some (vI a2), some (vI a3)] [vI r21] h21 (rI K)
    exact e_ret (pc := 47) (v := some (vI r21)) dX8_doubt_47 rfl trivial ⟨_, rfl, H⟩
  have J2 : ¬ (((0 ≤ a1 ∧ a1 ≤ 15)) ∧ (((0 ≤ a2 ∧ a2 ≤ 15)) ∧ ((¬ a1 = a2) ∧ ((0 ≤ a3 ∧ a3 ≤ 9))))) → Ev w Y_X8_doubt 35 [some (vR 0), some (vI a1), some (vI a2), some (vI a3)] [] h (rI K) := by
    intro hp
    have H := H.2 hp
    refine e_iconst (pc := 35) dX8_doubt_35 ⟨by decide, by decide⟩ ?_
    exact e_ret (pc := 36) (v := some (vI (-1))) dX8_doubt_36 rfl trivial ⟨_, rfl, H⟩
  refine e_ifb_eq (pc := 7) (tgt := 35) dX8_doubt_7 (by decide) (fun c1 => ?_) (fun c1 => ?_)
  · exact J2 (fun z => c1 z.1)
  · refine e_iload_n (pc := 10) dX8_doubt_10 rfl rfl ?_
    refine e_iconst (pc := 11) dX8_doubt_11 ⟨by decide, by decide⟩ ?_
    refine e_bipush (pc := 12) dX8_doubt_12 ⟨by decide, by decide⟩ (by decide) ?_
    refine e_invS (pc := 14) (Y' := Y_X8_within) (as := [vI a2, vI 0, vI 15]) (st := []) (lv0 := [some (vI a2), some (vI 0), some (vI 15)]) dX8_doubt_14 m_X8_within ul_2_130 ul_2_131 ⟨rfl, rfl⟩ rfl rfl rfl rfl rfl (c_X8_within w a2 0 15 h) ?_
    rintro _ hz ⟨_, rfl, rfl, hh⟩
    rw [hh]
    show Ev w Y_X8_doubt 17 [some (vR 0), some (vI a1), some (vI a2), some (vI a3)] [vI (b2i (0 ≤ a2 ∧ a2 ≤ 15))] h (rI K)
    refine e_ifb_eq (pc := 17) (tgt := 35) dX8_doubt_17 (by decide) (fun c2 => ?_) (fun c2 => ?_)
    · exact J2 (fun z => (fun z => c2 z.1) z.2)
    · refine e_iload_n (pc := 20) dX8_doubt_20 rfl rfl ?_
      refine e_iload_n (pc := 21) dX8_doubt_21 rfl rfl ?_
      refine e_icmp_eq (pc := 22) (tgt := 35) dX8_doubt_22 (by decide) (fun c3 => ?_) (fun c3 => ?_)
      · exact J2 (fun z => (fun z => (fun z => (fun z => z c3) z.1) z.2) z.2)
      · refine e_iload_n (pc := 25) dX8_doubt_25 rfl rfl ?_
        refine e_iconst (pc := 26) dX8_doubt_26 ⟨by decide, by decide⟩ ?_
        refine e_bipush (pc := 27) dX8_doubt_27 ⟨by decide, by decide⟩ (by decide) ?_
        refine e_invS (pc := 29) (Y' := Y_X8_within) (as := [vI a3, vI 0, vI 9]) (st := []) (lv0 := [some (vI a3), some (vI 0), some (vI 9)]) dX8_doubt_29 m_X8_within ul_2_130 ul_2_131 ⟨rfl, rfl⟩ rfl rfl rfl rfl rfl (c_X8_within w a3 0 9 h) ?_
        rintro _ hz ⟨_, rfl, rfl, hh⟩
        rw [hh]
        show Ev w Y_X8_doubt 32 [some (vR 0), some (vI a1), some (vI a2), some (vI a3)] [vI (b2i (0 ≤ a3 ∧ a3 ≤ 9))] h (rI K)
        refine e_ifb_ne (pc := 32) (tgt := 37) dX8_doubt_32 (by decide) (fun c4 => ?_) (fun c4 => ?_)
        · exact J1 ⟨c1, ⟨c2, ⟨c3, c4⟩⟩⟩
        · exact J2 (fun z => (fun z => (fun z => c4 z.2) z.2) z.2)
theorem c_X8_doubt (w : WD) (a1 : Int) (a2 : Int) (a3 : Int) (h : HP) (K : Int → HP → Prop)  (H : S_X8_doubt a1 a2 a3 h K) : Ev w Y_X8_doubt 0 [some (vR 0), some (vI a1), some (vI a2), some (vI a3)] [] h (rI K) := v_X8_doubt w a1 a2 a3 h K  H
def S_X8_write (a1 : Int) (a2 : Int) (h : HP) (K : Int → HP → Prop) : Prop :=
  ((¬ (1 ≤ a1 ∧ a1 ≤ 8) → K (-1) h) ∧ ((1 ≤ a1 ∧ a1 ≤ 8) → (S_X5_append a1 a2 h (fun r21 h21 => K r21 h21))))
set_option maxRecDepth 100000 in
set_option maxHeartbeats 4000000 in
theorem v_X8_write (w : WD) (a1 : Int) (a2 : Int) (h : HP) (K : Int → HP → Prop) 
    (H : ((¬ (1 ≤ a1 ∧ a1 ≤ 8) → K (-1) h) ∧ ((1 ≤ a1 ∧ a1 ≤ 8) → (S_X5_append a1 a2 h (fun r21 h21 => K r21 h21))))) :
    Ev w Y_X8_write 0 [some (vR 0), some (vI a1), some (vL a2), none] [] h (rI K) := by
  refine e_iload_n (pc := 0) dX8_write_0 rfl rfl ?_
  refine e_iconst (pc := 1) dX8_write_1 ⟨by decide, by decide⟩ ?_
  refine e_bipush (pc := 2) dX8_write_2 ⟨by decide, by decide⟩ (by decide) ?_
  refine e_invS (pc := 4) (Y' := Y_X8_within) (as := [vI a1, vI 1, vI 8]) (st := []) (lv0 := [some (vI a1), some (vI 1), some (vI 8)]) dX8_write_4 m_X8_within ul_2_130 ul_2_131 ⟨rfl, rfl⟩ rfl rfl rfl rfl rfl (c_X8_within w a1 1 8 h) ?_
  rintro _ hz ⟨_, rfl, rfl, hh⟩
  rw [hh]
  show Ev w Y_X8_write 7 [some (vR 0), some (vI a1), some (vL a2), none] [vI (b2i (1 ≤ a1 ∧ a1 ≤ 8))] h (rI K)
  refine e_ifb_eq (pc := 7) (tgt := 22) dX8_write_7 (by decide) (fun c1 => ?_) (fun c1 => ?_)
  · have H := H.1 c1
    refine e_iconst (pc := 22) dX8_write_22 ⟨by decide, by decide⟩ ?_
    exact e_ret (pc := 23) (v := some (vI (-1))) dX8_write_23 rfl trivial ⟨_, rfl, H⟩
  · have H := H.2 c1
    refine e_aload_n (pc := 10) dX8_write_10 rfl rfl ?_
    refine e_getR (q := 0) (ci := 8) (k := 1) (y := 2) (C := RX8) (T := TX8) (N := 9) (pc := 11) dX8_write_11 rfl rfl ev_in8 rfl ul_2_99 ⟨rfl, rfl⟩ rfl ?_
    refine e_iload_n (pc := 14) dX8_write_14 rfl rfl ?_
    refine e_lload_n (pc := 15) dX8_write_15 rfl rfl ?_
    refine e_invV (pc := 16) (Y' := Y_X5_append) (as := [vI a1, vL a2]) (st := []) (lv0 := [some (vR 2), some (vI a1), some (vL a2), none, none]) (q := 2) (ci := 5) (T := TX5) (N := 7) dX8_write_16 m_X5_append ul_2_187 ⟨ul_2_188, ul_2_189⟩ ⟨rfl, rfl⟩ rfl rfl rfl rfl rfl rfl rfl (c_X5_append w a1 a2 h _ H) ?_
    rintro _ h21 ⟨r21, rfl, H⟩
    show Ev w Y_X8_write 19 [some (vR 0), some (vI a1), some (vL a2), none] [vI r21] h21 (rI K)
    refine e_goto (pc := 19) (tgt := 23) dX8_write_19 (by decide) ?_
    exact e_ret (pc := 23) (v := some (vI r21)) dX8_write_23 rfl trivial ⟨_, rfl, H⟩
theorem c_X8_write (w : WD) (a1 : Int) (a2 : Int) (h : HP) (K : Int → HP → Prop)  (H : S_X8_write a1 a2 h K) : Ev w Y_X8_write 0 [some (vR 0), some (vI a1), some (vL a2), none] [] h (rI K) := v_X8_write w a1 a2 h K  H
def S_X8_wipe  (h : HP) (K : Int → HP → Prop) : Prop :=
  (S_X5_clearText  h (fun r21 h21 => K r21 h21))
set_option maxRecDepth 100000 in
set_option maxHeartbeats 4000000 in
theorem v_X8_wipe (w : WD)  (h : HP) (K : Int → HP → Prop) 
    (H : (S_X5_clearText  h (fun r21 h21 => K r21 h21))) :
    Ev w Y_X8_wipe 0 [some (vR 0)] [] h (rI K) := by
  refine e_aload_n (pc := 0) dX8_wipe_0 rfl rfl ?_
  refine e_getR (q := 0) (ci := 8) (k := 1) (y := 2) (C := RX8) (T := TX8) (N := 9) (pc := 1) dX8_wipe_1 rfl rfl ev_in8 rfl ul_2_99 ⟨rfl, rfl⟩ rfl ?_
  refine e_invV (pc := 4) (Y' := Y_X5_clearText) (as := []) (st := []) (lv0 := [some (vR 2), none]) (q := 2) (ci := 5) (T := TX5) (N := 7) dX8_wipe_4 m_X5_clearText ul_2_195 ⟨ul_2_196, ul_2_197⟩ ⟨rfl, rfl⟩ rfl rfl rfl rfl rfl rfl rfl (c_X5_clearText w h _ H) ?_
  rintro _ h21 ⟨r21, rfl, H⟩
  show Ev w Y_X8_wipe 7 [some (vR 0)] [vI r21] h21 (rI K)
  exact e_ret (pc := 7) (v := some (vI r21)) dX8_wipe_7 rfl trivial ⟨_, rfl, H⟩
theorem c_X8_wipe (w : WD)  (h : HP) (K : Int → HP → Prop)  (H : S_X8_wipe  h K) : Ev w Y_X8_wipe 0 [some (vR 0)] [] h (rI K) := v_X8_wipe w  h K  H
def S_X8_fault  (h : HP) (K : Int → HP → Prop) : Prop :=
  (S_X5_firstFault  h (fun r21 h21 => K r21 h21))
set_option maxRecDepth 100000 in
set_option maxHeartbeats 4000000 in
theorem v_X8_fault (w : WD)  (h : HP) (K : Int → HP → Prop) 
    (H : (S_X5_firstFault  h (fun r21 h21 => K r21 h21))) :
    Ev w Y_X8_fault 0 [some (vR 0)] [] h (rI K) := by
  refine e_aload_n (pc := 0) dX8_fault_0 rfl rfl ?_
  refine e_getR (q := 0) (ci := 8) (k := 1) (y := 2) (C := RX8) (T := TX8) (N := 9) (pc := 1) dX8_fault_1 rfl rfl ev_in8 rfl ul_2_99 ⟨rfl, rfl⟩ rfl ?_
  refine e_invV (pc := 4) (Y' := Y_X5_firstFault) (as := []) (st := []) (lv0 := [some (vR 2), none, none, none]) (q := 2) (ci := 5) (T := TX5) (N := 7) dX8_fault_4 m_X5_firstFault ul_2_203 ⟨ul_2_204, ul_2_205⟩ ⟨rfl, rfl⟩ rfl rfl rfl rfl rfl rfl rfl (c_X5_firstFault w h _ H) ?_
  rintro _ h21 ⟨r21, rfl, H⟩
  show Ev w Y_X8_fault 7 [some (vR 0)] [vI r21] h21 (rI K)
  exact e_ret (pc := 7) (v := some (vI r21)) dX8_fault_7 rfl trivial ⟨_, rfl, H⟩
theorem c_X8_fault (w : WD)  (h : HP) (K : Int → HP → Prop)  (H : S_X8_fault  h K) : Ev w Y_X8_fault 0 [some (vR 0)] [] h (rI K) := v_X8_fault w  h K  H
def S_X8_force  (h : HP) (K : Int → HP → Prop) : Prop :=
  (S_X5_putInForce  h (fun r21 h21 => K r21 h21))
set_option maxRecDepth 100000 in
set_option maxHeartbeats 4000000 in
theorem v_X8_force (w : WD)  (h : HP) (K : Int → HP → Prop) 
    (H : (S_X5_putInForce  h (fun r21 h21 => K r21 h21))) :
    Ev w Y_X8_force 0 [some (vR 0)] [] h (rI K) := by
  refine e_aload_n (pc := 0) dX8_force_0 rfl rfl ?_
  refine e_getR (q := 0) (ci := 8) (k := 1) (y := 2) (C := RX8) (T := TX8) (N := 9) (pc := 1) dX8_force_1 rfl rfl ev_in8 rfl ul_2_99 ⟨rfl, rfl⟩ rfl ?_
  refine e_invV (pc := 4) (Y' := Y_X5_putInForce) (as := []) (st := []) (lv0 := [some (vR 2), none, none, none]) (q := 2) (ci := 5) (T := TX5) (N := 7) dX8_force_4 m_X5_putInForce ul_2_238 ⟨ul_2_239, ul_3_0⟩ ⟨rfl, rfl⟩ rfl rfl rfl rfl rfl rfl rfl (c_X5_putInForce w h _ H) ?_
  rintro _ h21 ⟨r21, rfl, H⟩
  show Ev w Y_X8_force 7 [some (vR 0)] [vI r21] h21 (rI K)
  exact e_ret (pc := 7) (v := some (vI r21)) dX8_force_7 rfl trivial ⟨_, rfl, H⟩
theorem c_X8_force (w : WD)  (h : HP) (K : Int → HP → Prop)  (H : S_X8_force  h K) : Ev w Y_X8_force 0 [some (vR 0)] [] h (rI K) := v_X8_force w  h K  H
def S_X8_may (a1 : Int) (a2 : Int) (a3 : Int) (h : HP) (K : Int → HP → Prop) : Prop :=
  (((((0 ≤ a1 ∧ a1 ≤ 6)) ∧ (((0 ≤ a2 ∧ a2 < h 1 7)) ∧ ((0 ≤ a3 ∧ a3 ≤ 23)))) → ((fOK h ∧ 0 ≤ a2 ∧ a2 < 10) ∧ K (b2i ((∃ k : Int, 0 ≤ k ∧ k < h 2 6 ∧ cLet h k a1 a2 a3))) h)) ∧ (¬ (((0 ≤ a1 ∧ a1 ≤ 6)) ∧ (((0 ≤ a2 ∧ a2 < h 1 7)) ∧ ((0 ≤ a3 ∧ a3 ≤ 23)))) → K (-1) h))
set_option maxRecDepth 100000 in
set_option maxHeartbeats 4000000 in
theorem v_X8_may (w : WD) (a1 : Int) (a2 : Int) (a3 : Int) (h : HP) (K : Int → HP → Prop) 
    (H : (((((0 ≤ a1 ∧ a1 ≤ 6)) ∧ (((0 ≤ a2 ∧ a2 < h 1 7)) ∧ ((0 ≤ a3 ∧ a3 ≤ 23)))) → ((fOK h ∧ 0 ≤ a2 ∧ a2 < 10) ∧ K (b2i ((∃ k : Int, 0 ≤ k ∧ k < h 2 6 ∧ cLet h k a1 a2 a3))) h)) ∧ (¬ (((0 ≤ a1 ∧ a1 ≤ 6)) ∧ (((0 ≤ a2 ∧ a2 < h 1 7)) ∧ ((0 ≤ a3 ∧ a3 ≤ 23)))) → K (-1) h))) :
    Ev w Y_X8_may 0 [some (vR 0), some (vI a1), some (vI a2), some (vI a3)] [] h (rI K) := by
  refine e_iload_n (pc := 0) dX8_may_0 rfl rfl ?_
  refine e_iconst (pc := 1) dX8_may_1 ⟨by decide, by decide⟩ ?_
  refine e_bipush (pc := 2) dX8_may_2 ⟨by decide, by decide⟩ (by decide) ?_
  refine e_invS (pc := 4) (Y' := Y_X8_within) (as := [vI a1, vI 0, vI 6]) (st := []) (lv0 := [some (vI a1), some (vI 0), some (vI 6)]) dX8_may_4 m_X8_within ul_2_130 ul_2_131 ⟨rfl, rfl⟩ rfl rfl rfl rfl rfl (c_X8_within w a1 0 6 h) ?_
  rintro _ hz ⟨_, rfl, rfl, hh⟩
  rw [hh]
  show Ev w Y_X8_may 7 [some (vR 0), some (vI a1), some (vI a2), some (vI a3)] [vI (b2i (0 ≤ a1 ∧ a1 ≤ 6))] h (rI K)
  have J1 : (((0 ≤ a1 ∧ a1 ≤ 6)) ∧ (((0 ≤ a2 ∧ a2 < h 1 7)) ∧ ((0 ≤ a3 ∧ a3 ≤ 23)))) → Ev w Y_X8_may 33 [some (vR 0), some (vI a1), some (vI a2), some (vI a3)] [] h (rI K) := by
    intro hp
    have H := H.1 hp
    refine e_aload_n (pc := 33) dX8_may_33 rfl rfl ?_
    refine e_getR (q := 0) (ci := 8) (k := 1) (y := 2) (C := RX8) (T := TX8) (N := 9) (pc := 34) dX8_may_34 rfl rfl ev_in8 rfl ul_2_99 ⟨rfl, rfl⟩ rfl ?_
    refine e_iload_n (pc := 37) dX8_may_37 rfl rfl ?_
    refine e_iload_n (pc := 38) dX8_may_38 rfl rfl ?_
    refine e_iload_n (pc := 39) dX8_may_39 rfl rfl ?_
    refine e_invV (pc := 40) (Y' := Y_X5_lets) (as := [vI a1, vI a2, vI a3]) (st := []) (lv0 := [some (vR 2), some (vI a1), some (vI a2), some (vI a3), none]) (q := 2) (ci := 5) (T := TX5) (N := 7) dX8_may_40 m_X5_lets ul_3_10 ⟨ul_3_11, ul_3_12⟩ ⟨rfl, rfl⟩ rfl rfl rfl rfl rfl rfl rfl (c_X5_lets w a1 a2 a3 h H.1) ?_
    rintro _ hz ⟨_, rfl, rfl, hh⟩
    rw [hh]
    show Ev w Y_X8_may 43 [some (vR 0), some (vI a1), some (vI a2), some (vI a3)] [vI (b2i (∃ k : Int, 0 ≤ k ∧ k < h 2 6 ∧ cLet h k a1 a2 a3))] h (rI K)
    have H := H.2
    have J : Ev w Y_X8_may 51 [some (vR 0), some (vI a1), some (vI a2), some (vI a3)] [vI (b2i ((∃ k : Int, 0 ≤ k ∧ k < h 2 6 ∧ cLet h k a1 a2 a3)))] h (rI K) := by
      exact e_ret (pc := 51) (v := some (vI (b2i ((∃ k : Int, 0 ≤ k ∧ k < h 2 6 ∧ cLet h k a1 a2 a3))))) dX8_may_51 rfl trivial ⟨_, rfl, H⟩
    refine e_ifb_eq (pc := 43) (tgt := 50) dX8_may_43 (by decide) (fun c1 => ?_) (fun c1 => ?_)
    · refine e_iconst (pc := 50) dX8_may_50 ⟨by decide, by decide⟩ ?_
      exact e_top (b2i_f c1) J
    · refine e_iconst (pc := 46) dX8_may_46 ⟨by decide, by decide⟩ ?_
      refine e_goto (pc := 47) (tgt := 51) dX8_may_47 (by decide) ?_
      exact e_top (b2i_t c1) J
  have J2 : ¬ (((0 ≤ a1 ∧ a1 ≤ 6)) ∧ (((0 ≤ a2 ∧ a2 < h 1 7)) ∧ ((0 ≤ a3 ∧ a3 ≤ 23)))) → Ev w Y_X8_may 31 [some (vR 0), some (vI a1), some (vI a2), some (vI a3)] [] h (rI K) := by
    intro hp
    have H := H.2 hp
    refine e_iconst (pc := 31) dX8_may_31 ⟨by decide, by decide⟩ ?_
    exact e_ret (pc := 32) (v := some (vI (-1))) dX8_may_32 rfl trivial ⟨_, rfl, H⟩
  refine e_ifb_eq (pc := 7) (tgt := 31) dX8_may_7 (by decide) (fun c2 => ?_) (fun c2 => ?_)
  · exact J2 (fun z => c2 z.1)
  · refine e_aload_n (pc := 10) dX8_may_10 rfl rfl ?_
    refine e_getR (q := 0) (ci := 8) (k := 0) (y := 1) (C := RX8) (T := TX8) (N := 9) (pc := 11) dX8_may_11 rfl rfl ev_in8 rfl ul_2_98 ⟨rfl, rfl⟩ rfl ?_
    refine e_iload_n (pc := 14) dX8_may_14 rfl rfl ?_
    refine e_invV (pc := 15) (Y' := Y_X4_isThing) (as := [vI a2]) (st := []) (lv0 := [some (vR 1), some (vI a2)]) (q := 1) (ci := 4) (T := TX4) (N := 10) dX8_may_15 m_X4_isThing ul_2_149 ⟨ul_2_150, ul_2_151⟩ ⟨rfl, rfl⟩ rfl rfl rfl rfl rfl rfl rfl (c_X4_isThing w a2 h) ?_
    rintro _ hz ⟨_, rfl, rfl, hh⟩
    rw [hh]
    show Ev w Y_X8_may 18 [some (vR 0), some (vI a1), some (vI a2), some (vI a3)] [vI (b2i (0 ≤ a2 ∧ a2 < h 1 7))] h (rI K)
    refine e_ifb_eq (pc := 18) (tgt := 31) dX8_may_18 (by decide) (fun c3 => ?_) (fun c3 => ?_)
    · exact J2 (fun z => (fun z => c3 z.1) z.2)
    · refine e_iload_n (pc := 21) dX8_may_21 rfl rfl ?_
      refine e_iconst (pc := 22) dX8_may_22 ⟨by decide, by decide⟩ ?_
      refine e_bipush (pc := 23) dX8_may_23 ⟨by decide, by decide⟩ (by decide) ?_
      refine e_invS (pc := 25) (Y' := Y_X8_within) (as := [vI a3, vI 0, vI 23]) (st := []) (lv0 := [some (vI a3), some (vI 0), some (vI 23)]) dX8_may_25 m_X8_within ul_2_130 ul_2_131 ⟨rfl, rfl⟩ rfl rfl rfl rfl rfl (c_X8_within w a3 0 23 h) ?_
      rintro _ hz ⟨_, rfl, rfl, hh⟩
      rw [hh]
      show Ev w Y_X8_may 28 [some (vR 0), some (vI a1), some (vI a2), some (vI a3)] [vI (b2i (0 ≤ a3 ∧ a3 ≤ 23))] h (rI K)
      refine e_ifb_ne (pc := 28) (tgt := 33) dX8_may_28 (by decide) (fun c4 => ?_) (fun c4 => ?_)
      · exact J1 ⟨c2, ⟨c3, c4⟩⟩
      · exact J2 (fun z => (fun z => c4 z.2) z.2)
theorem c_X8_may (w : WD) (a1 : Int) (a2 : Int) (a3 : Int) (h : HP) (K : Int → HP → Prop)  (H : S_X8_may a1 a2 a3 h K) : Ev w Y_X8_may 0 [some (vR 0), some (vI a1), some (vI a2), some (vI a3)] [] h (rI K) := v_X8_may w a1 a2 a3 h K  H
def S_X8_when (a1 : Int) (a2 : Int) (a3 : Int) (a4 : Int) (h : HP) (K : Int → HP → Prop) : Prop :=
  ((HOK h) ∧ ((((¬ ((0 ≤ a1 ∧ a1 < h 1 7) ∧ 0 ≤ a2 ∧ a2 ≤ top (h 10 a1)) → True) ∧ (((0 ≤ a1 ∧ a1 < h 1 7) ∧ 0 ≤ a2 ∧ a2 ≤ top (h 10 a1)) → ((HOK h) ∧ True)))) ∧ ((((((0 ≤ a1 ∧ a1 < h 1 7) ∧ 0 ≤ a2 ∧ a2 ≤ top (h 10 a1))) ∧ (((0 ≤ a3 ∧ a3 < h 1 7) ∧ 0 ≤ a4 ∧ a4 ≤ top (h 10 a3)))) → (S_X6_add a1 a2 a3 a4 h (fun r21 h21 => K r21 h21))) ∧ (¬ ((((0 ≤ a1 ∧ a1 < h 1 7) ∧ 0 ≤ a2 ∧ a2 ≤ top (h 10 a1))) ∧ (((0 ≤ a3 ∧ a3 < h 1 7) ∧ 0 ≤ a4 ∧ a4 ≤ top (h 10 a3)))) → K (-1) h))))
set_option maxRecDepth 100000 in
set_option maxHeartbeats 4000000 in
theorem v_X8_when (w : WD) (a1 : Int) (a2 : Int) (a3 : Int) (a4 : Int) (h : HP) (K : Int → HP → Prop) 
    (H : ((HOK h) ∧ ((((¬ ((0 ≤ a1 ∧ a1 < h 1 7) ∧ 0 ≤ a2 ∧ a2 ≤ top (h 10 a1)) → True) ∧ (((0 ≤ a1 ∧ a1 < h 1 7) ∧ 0 ≤ a2 ∧ a2 ≤ top (h 10 a1)) → ((HOK h) ∧ True)))) ∧ ((((((0 ≤ a1 ∧ a1 < h 1 7) ∧ 0 ≤ a2 ∧ a2 ≤ top (h 10 a1))) ∧ (((0 ≤ a3 ∧ a3 < h 1 7) ∧ 0 ≤ a4 ∧ a4 ≤ top (h 10 a3)))) → (S_X6_add a1 a2 a3 a4 h (fun r21 h21 => K r21 h21))) ∧ (¬ ((((0 ≤ a1 ∧ a1 < h 1 7) ∧ 0 ≤ a2 ∧ a2 ≤ top (h 10 a1))) ∧ (((0 ≤ a3 ∧ a3 < h 1 7) ∧ 0 ≤ a4 ∧ a4 ≤ top (h 10 a3)))) → K (-1) h))))) :
    Ev w Y_X8_when 0 [some (vR 0), some (vI a1), some (vI a2), some (vI a3), some (vI a4)] [] h (rI K) := by
  refine e_aload_n (pc := 0) dX8_when_0 rfl rfl ?_
  refine e_getR (q := 0) (ci := 8) (k := 0) (y := 1) (C := RX8) (T := TX8) (N := 9) (pc := 1) dX8_when_1 rfl rfl ev_in8 rfl ul_2_98 ⟨rfl, rfl⟩ rfl ?_
  refine e_iload_n (pc := 4) dX8_when_4 rfl rfl ?_
  refine e_iload_n (pc := 5) dX8_when_5 rfl rfl ?_
  refine e_invV (pc := 6) (Y' := Y_X4_canBe) (as := [vI a1, vI a2]) (st := []) (lv0 := [some (vR 1), some (vI a1), some (vI a2)]) (q := 1) (ci := 4) (T := TX4) (N := 10) dX8_when_6 m_X4_canBe ul_4_48 ⟨ul_3_105, ul_3_106⟩ ⟨rfl, rfl⟩ rfl rfl rfl rfl rfl rfl rfl (c_X4_canBe w a1 a2 h H.1) ?_
  rintro _ hz ⟨_, rfl, rfl, hh⟩
  rw [hh]
  show Ev w Y_X8_when 9 [some (vR 0), some (vI a1), some (vI a2), some (vI a3), some (vI a4)] [vI (b2i ((0 ≤ a1 ∧ a1 < h 1 7) ∧ 0 ≤ a2 ∧ a2 ≤ top (h 10 a1)))] h (rI K)
  have H := H.2
  have Ho := H.1
  have H := H.2
  have J1 : ((((0 ≤ a1 ∧ a1 < h 1 7) ∧ 0 ≤ a2 ∧ a2 ≤ top (h 10 a1))) ∧ (((0 ≤ a3 ∧ a3 < h 1 7) ∧ 0 ≤ a4 ∧ a4 ≤ top (h 10 a3)))) → Ev w Y_X8_when 27 [some (vR 0), some (vI a1), some (vI a2), some (vI a3), some (vI a4)] [] h (rI K) := by
    intro hp
    have H := H.1 hp
    refine e_aload_n (pc := 27) dX8_when_27 rfl rfl ?_
    refine e_getR (q := 0) (ci := 8) (k := 5) (y := 6) (C := RX8) (T := TX8) (N := 9) (pc := 28) dX8_when_28 rfl rfl ev_in8 rfl ul_2_103 ⟨rfl, rfl⟩ rfl ?_
    refine e_iload_n (pc := 31) dX8_when_31 rfl rfl ?_
    refine e_iload_n (pc := 32) dX8_when_32 rfl rfl ?_
    refine e_iload_n (pc := 33) dX8_when_33 rfl rfl ?_
    refine e_iload (pc := 34) dX8_when_34 rfl ?_
    refine e_invV (pc := 36) (Y' := Y_X6_add) (as := [vI a1, vI a2, vI a3, vI a4]) (st := []) (lv0 := [some (vR 6), some (vI a1), some (vI a2), some (vI a3), some (vI a4)]) (q := 6) (ci := 6) (T := TX6) (N := 10) dX8_when_36 m_X6_add ul_4_49 ⟨ul_4_50, ul_4_51⟩ ⟨rfl, rfl⟩ rfl rfl rfl rfl rfl rfl rfl (c_X6_add w a1 a2 a3 a4 h _ H) ?_
    rintro _ h21 ⟨r21, rfl, H⟩
    show Ev w Y_X8_when 39 [some (vR 0), some (vI a1), some (vI a2), some (vI a3), some (vI a4)] [vI r21] h21 (rI K)
    exact e_ret (pc := 39) (v := some (vI r21)) dX8_when_39 rfl trivial ⟨_, rfl, H⟩
  have J2 : ¬ ((((0 ≤ a1 ∧ a1 < h 1 7) ∧ 0 ≤ a2 ∧ a2 ≤ top (h 10 a1))) ∧ (((0 ≤ a3 ∧ a3 < h 1 7) ∧ 0 ≤ a4 ∧ a4 ≤ top (h 10 a3)))) → Ev w Y_X8_when 25 [some (vR 0), some (vI a1), some (vI a2), some (vI a3), some (vI a4)] [] h (rI K) := by
    intro hp
    have H := H.2 hp
    refine e_iconst (pc := 25) dX8_when_25 ⟨by decide, by decide⟩ ?_
    exact e_ret (pc := 26) (v := some (vI (-1))) dX8_when_26 rfl trivial ⟨_, rfl, H⟩
  refine e_ifb_eq (pc := 9) (tgt := 25) dX8_when_9 (by decide) (fun c1 => ?_) (fun c1 => ?_)
  · have Ho := Ho.1 c1
    exact J2 (fun z => c1 z.1)
  · have Ho := Ho.2 c1
    refine e_aload_n (pc := 12) dX8_when_12 rfl rfl ?_
    refine e_getR (q := 0) (ci := 8) (k := 0) (y := 1) (C := RX8) (T := TX8) (N := 9) (pc := 13) dX8_when_13 rfl rfl ev_in8 rfl ul_2_98 ⟨rfl, rfl⟩ rfl ?_
    refine e_iload_n (pc := 16) dX8_when_16 rfl rfl ?_
    refine e_iload (pc := 17) dX8_when_17 rfl ?_
    refine e_invV (pc := 19) (Y' := Y_X4_canBe) (as := [vI a3, vI a4]) (st := []) (lv0 := [some (vR 1), some (vI a3), some (vI a4)]) (q := 1) (ci := 4) (T := TX4) (N := 10) dX8_when_19 m_X4_canBe ul_4_48 ⟨ul_3_105, ul_3_106⟩ ⟨rfl, rfl⟩ rfl rfl rfl rfl rfl rfl rfl (c_X4_canBe w a3 a4 h Ho.1) ?_
    rintro _ hz ⟨_, rfl, rfl, hh⟩
    rw [hh]
    show Ev w Y_X8_when 22 [some (vR 0), some (vI a1), some (vI a2), some (vI a3), some (vI a4)] [vI (b2i ((0 ≤ a3 ∧ a3 < h 1 7) ∧ 0 ≤ a4 ∧ a4 ≤ top (h 10 a3)))] h (rI K)
    have Ho := Ho.2
    refine e_ifb_ne (pc := 22) (tgt := 27) dX8_when_22 (by decide) (fun c2 => ?_) (fun c2 => ?_)
    · exact J1 ⟨c1, c2⟩
    · exact J2 (fun z => c2 z.2)
theorem c_X8_when (w : WD) (a1 : Int) (a2 : Int) (a3 : Int) (a4 : Int) (h : HP) (K : Int → HP → Prop)  (H : S_X8_when a1 a2 a3 a4 h K) : Ev w Y_X8_when 0 [some (vR 0), some (vI a1), some (vI a2), some (vI a3), some (vI a4)] [] h (rI K) := v_X8_when w a1 a2 a3 a4 h K  H
def S_X8_at (a1 : Int) (a2 : Int) (a3 : Int) (h : HP) (K : Int → HP → Prop) : Prop :=
  ((((¬ (0 ≤ a1 ∧ a1 ≤ 23) → True) ∧ ((0 ≤ a1 ∧ a1 ≤ 23) → ((HOK h) ∧ True)))) ∧ (((((0 ≤ a1 ∧ a1 ≤ 23)) ∧ (((0 ≤ a2 ∧ a2 < h 1 7) ∧ 0 ≤ a3 ∧ a3 ≤ top (h 10 a2)))) → (S_X6_add (-1) a1 a2 a3 h (fun r21 h21 => K r21 h21))) ∧ (¬ (((0 ≤ a1 ∧ a1 ≤ 23)) ∧ (((0 ≤ a2 ∧ a2 < h 1 7) ∧ 0 ≤ a3 ∧ a3 ≤ top (h 10 a2)))) → K (-1) h)))
set_option maxRecDepth 100000 in
set_option maxHeartbeats 4000000 in
theorem v_X8_at (w : WD) (a1 : Int) (a2 : Int) (a3 : Int) (h : HP) (K : Int → HP → Prop) 
    (H : ((((¬ (0 ≤ a1 ∧ a1 ≤ 23) → True) ∧ ((0 ≤ a1 ∧ a1 ≤ 23) → ((HOK h) ∧ True)))) ∧ (((((0 ≤ a1 ∧ a1 ≤ 23)) ∧ (((0 ≤ a2 ∧ a2 < h 1 7) ∧ 0 ≤ a3 ∧ a3 ≤ top (h 10 a2)))) → (S_X6_add (-1) a1 a2 a3 h (fun r21 h21 => K r21 h21))) ∧ (¬ (((0 ≤ a1 ∧ a1 ≤ 23)) ∧ (((0 ≤ a2 ∧ a2 < h 1 7) ∧ 0 ≤ a3 ∧ a3 ≤ top (h 10 a2)))) → K (-1) h)))) :
    Ev w Y_X8_at 0 [some (vR 0), some (vI a1), some (vI a2), some (vI a3)] [] h (rI K) := by
  refine e_iload_n (pc := 0) dX8_at_0 rfl rfl ?_
  refine e_iconst (pc := 1) dX8_at_1 ⟨by decide, by decide⟩ ?_
  refine e_bipush (pc := 2) dX8_at_2 ⟨by decide, by decide⟩ (by decide) ?_
  refine e_invS (pc := 4) (Y' := Y_X8_within) (as := [vI a1, vI 0, vI 23]) (st := []) (lv0 := [some (vI a1), some (vI 0), some (vI 23)]) dX8_at_4 m_X8_within ul_2_130 ul_2_131 ⟨rfl, rfl⟩ rfl rfl rfl rfl rfl (c_X8_within w a1 0 23 h) ?_
  rintro _ hz ⟨_, rfl, rfl, hh⟩
  rw [hh]
  show Ev w Y_X8_at 7 [some (vR 0), some (vI a1), some (vI a2), some (vI a3)] [vI (b2i (0 ≤ a1 ∧ a1 ≤ 23))] h (rI K)
  have Ho := H.1
  have H := H.2
  have J1 : (((0 ≤ a1 ∧ a1 ≤ 23)) ∧ (((0 ≤ a2 ∧ a2 < h 1 7) ∧ 0 ≤ a3 ∧ a3 ≤ top (h 10 a2)))) → Ev w Y_X8_at 24 [some (vR 0), some (vI a1), some (vI a2), some (vI a3)] [] h (rI K) := by
    intro hp
    have H := H.1 hp
    refine e_aload_n (pc := 24) dX8_at_24 rfl rfl ?_
    refine e_getR (q := 0) (ci := 8) (k := 5) (y := 6) (C := RX8) (T := TX8) (N := 9) (pc := 25) dX8_at_25 rfl rfl ev_in8 rfl ul_2_103 ⟨rfl, rfl⟩ rfl ?_
    refine e_iconst (pc := 28) dX8_at_28 ⟨by decide, by decide⟩ ?_
    refine e_iload_n (pc := 29) dX8_at_29 rfl rfl ?_
    refine e_iload_n (pc := 30) dX8_at_30 rfl rfl ?_
    refine e_iload_n (pc := 31) dX8_at_31 rfl rfl ?_
    refine e_invV (pc := 32) (Y' := Y_X6_add) (as := [vI (-1), vI a1, vI a2, vI a3]) (st := []) (lv0 := [some (vR 6), some (vI (-1)), some (vI a1), some (vI a2), some (vI a3)]) (q := 6) (ci := 6) (T := TX6) (N := 10) dX8_at_32 m_X6_add ul_4_49 ⟨ul_4_50, ul_4_51⟩ ⟨rfl, rfl⟩ rfl rfl rfl rfl rfl rfl rfl (c_X6_add w (-1) a1 a2 a3 h _ H) ?_
    rintro _ h21 ⟨r21, rfl, H⟩
    show Ev w Y_X8_at 35 [some (vR 0), some (vI a1), some (vI a2), some (vI a3)] [vI r21] h21 (rI K)
    exact e_ret (pc := 35) (v := some (vI r21)) dX8_at_35 rfl trivial ⟨_, rfl, H⟩
  have J2 : ¬ (((0 ≤ a1 ∧ a1 ≤ 23)) ∧ (((0 ≤ a2 ∧ a2 < h 1 7) ∧ 0 ≤ a3 ∧ a3 ≤ top (h 10 a2)))) → Ev w Y_X8_at 22 [some (vR 0), some (vI a1), some (vI a2), some (vI a3)] [] h (rI K) := by
    intro hp
    have H := H.2 hp
    refine e_iconst (pc := 22) dX8_at_22 ⟨by decide, by decide⟩ ?_
    exact e_ret (pc := 23) (v := some (vI (-1))) dX8_at_23 rfl trivial ⟨_, rfl, H⟩
  refine e_ifb_eq (pc := 7) (tgt := 22) dX8_at_7 (by decide) (fun c1 => ?_) (fun c1 => ?_)
  · have Ho := Ho.1 c1
    exact J2 (fun z => c1 z.1)
  · have Ho := Ho.2 c1
    refine e_aload_n (pc := 10) dX8_at_10 rfl rfl ?_
    refine e_getR (q := 0) (ci := 8) (k := 0) (y := 1) (C := RX8) (T := TX8) (N := 9) (pc := 11) dX8_at_11 rfl rfl ev_in8 rfl ul_2_98 ⟨rfl, rfl⟩ rfl ?_
    refine e_iload_n (pc := 14) dX8_at_14 rfl rfl ?_
    refine e_iload_n (pc := 15) dX8_at_15 rfl rfl ?_
    refine e_invV (pc := 16) (Y' := Y_X4_canBe) (as := [vI a2, vI a3]) (st := []) (lv0 := [some (vR 1), some (vI a2), some (vI a3)]) (q := 1) (ci := 4) (T := TX4) (N := 10) dX8_at_16 m_X4_canBe ul_4_48 ⟨ul_3_105, ul_3_106⟩ ⟨rfl, rfl⟩ rfl rfl rfl rfl rfl rfl rfl (c_X4_canBe w a2 a3 h Ho.1) ?_
    rintro _ hz ⟨_, rfl, rfl, hh⟩
    rw [hh]
    show Ev w Y_X8_at 19 [some (vR 0), some (vI a1), some (vI a2), some (vI a3)] [vI (b2i ((0 ≤ a2 ∧ a2 < h 1 7) ∧ 0 ≤ a3 ∧ a3 ≤ top (h 10 a2)))] h (rI K)
    have Ho := Ho.2
    refine e_ifb_ne (pc := 19) (tgt := 24) dX8_at_19 (by decide) (fun c2 => ?_) (fun c2 => ?_)
    · exact J1 ⟨c1, c2⟩
    · exact J2 (fun z => c2 z.2)
theorem c_X8_at (w : WD) (a1 : Int) (a2 : Int) (a3 : Int) (h : HP) (K : Int → HP → Prop)  (H : S_X8_at a1 a2 a3 h K) : Ev w Y_X8_at 0 [some (vR 0), some (vI a1), some (vI a2), some (vI a3)] [] h (rI K) := v_X8_at w a1 a2 a3 h K  H
def S_X8_quarrel  (h : HP) (K : Int → HP → Prop) : Prop :=
  ((0 ≤ h 6 7 ∧ h 6 7 ≤ 8) ∧ K (qrl (fun a b => h 39 a = h 39 b ∧ h 40 a = h 40 b ∧ h 41 a = h 41 b ∧ ¬ h 42 a = h 42 b) (h 6 7).toNat) h)
set_option maxRecDepth 100000 in
set_option maxHeartbeats 4000000 in
theorem v_X8_quarrel (w : WD)  (h : HP) (K : Int → HP → Prop) 
    (H : ((0 ≤ h 6 7 ∧ h 6 7 ≤ 8) ∧ K (qrl (fun a b => h 39 a = h 39 b ∧ h 40 a = h 40 b ∧ h 41 a = h 41 b ∧ ¬ h 42 a = h 42 b) (h 6 7).toNat) h)) :
    Ev w Y_X8_quarrel 0 [some (vR 0)] [] h (rI K) := by
  refine e_aload_n (pc := 0) dX8_quarrel_0 rfl rfl ?_
  refine e_getR (q := 0) (ci := 8) (k := 5) (y := 6) (C := RX8) (T := TX8) (N := 9) (pc := 1) dX8_quarrel_1 rfl rfl ev_in8 rfl ul_2_103 ⟨rfl, rfl⟩ rfl ?_
  refine e_invV (pc := 4) (Y' := Y_X6_firstQuarrel) (as := []) (st := []) (lv0 := [some (vR 6), none, none]) (q := 6) (ci := 6) (T := TX6) (N := 10) dX8_quarrel_4 m_X6_firstQuarrel ul_4_75 ⟨ul_4_76, ul_4_77⟩ ⟨rfl, rfl⟩ rfl rfl rfl rfl rfl rfl rfl (c_X6_firstQuarrel w h H.1) ?_
  rintro _ hz ⟨_, rfl, rfl, hh⟩
  rw [hh]
  show Ev w Y_X8_quarrel 7 [some (vR 0)] [vI (qrl (fun a b => h 39 a = h 39 b ∧ h 40 a = h 40 b ∧ h 41 a = h 41 b ∧ ¬ h 42 a = h 42 b) (h 6 7).toNat)] h (rI K)
  have H := H.2
  exact e_ret (pc := 7) (v := some (vI (qrl (fun a b => h 39 a = h 39 b ∧ h 40 a = h 40 b ∧ h 41 a = h 41 b ∧ ¬ h 42 a = h 42 b) (h 6 7).toNat))) dX8_quarrel_7 rfl trivial ⟨_, rfl, H⟩
theorem c_X8_quarrel (w : WD)  (h : HP) (K : Int → HP → Prop)  (H : S_X8_quarrel  h K) : Ev w Y_X8_quarrel 0 [some (vR 0)] [] h (rI K) := v_X8_quarrel w  h K  H
def S_X8_keepHabit (a1 : Int) (h : HP) (K : Int → HP → Prop) : Prop :=
  ((0 ≤ a1 → ((0 ≤ a1) ∧ ((0 ≤ a1) ∧ ((0 ≤ (a1 / 10)) ∧ ((0 ≤ a1) ∧ ((((¬ (0 ≤ (a1 / 100) ∧ (a1 / 100) ≤ 23) → True) ∧ ((0 ≤ (a1 / 100) ∧ (a1 / 100) ≤ 23) → ((HOK h) ∧ True)))) ∧ (((((0 ≤ (a1 / 100) ∧ (a1 / 100) ≤ 23)) ∧ (((0 ≤ ((a1 / 10) % 10) ∧ ((a1 / 10) % 10) < h 1 7) ∧ 0 ≤ (a1 % 10) ∧ (a1 % 10) ≤ top (h 10 ((a1 / 10) % 10))))) → (S_X6_add (-1) (a1 / 100) ((a1 / 10) % 10) (a1 % 10) h (fun r21 h21 => K r21 h21))) ∧ (¬ (((0 ≤ (a1 / 100) ∧ (a1 / 100) ≤ 23)) ∧ (((0 ≤ ((a1 / 10) % 10) ∧ ((a1 / 10) % 10) < h 1 7) ∧ 0 ≤ (a1 % 10) ∧ (a1 % 10) ≤ top (h 10 ((a1 / 10) % 10))))) → K (-1) h)))))))) ∧ (¬ 0 ≤ a1 → K (-1) h))
set_option maxRecDepth 100000 in
set_option maxHeartbeats 4000000 in
theorem v_X8_keepHabit (w : WD) (a1 : Int) (h : HP) (K : Int → HP → Prop) 
    (H : ((0 ≤ a1 → ((0 ≤ a1) ∧ ((0 ≤ a1) ∧ ((0 ≤ (a1 / 10)) ∧ ((0 ≤ a1) ∧ ((((¬ (0 ≤ (a1 / 100) ∧ (a1 / 100) ≤ 23) → True) ∧ ((0 ≤ (a1 / 100) ∧ (a1 / 100) ≤ 23) → ((HOK h) ∧ True)))) ∧ (((((0 ≤ (a1 / 100) ∧ (a1 / 100) ≤ 23)) ∧ (((0 ≤ ((a1 / 10) % 10) ∧ ((a1 / 10) % 10) < h 1 7) ∧ 0 ≤ (a1 % 10) ∧ (a1 % 10) ≤ top (h 10 ((a1 / 10) % 10))))) → (S_X6_add (-1) (a1 / 100) ((a1 / 10) % 10) (a1 % 10) h (fun r21 h21 => K r21 h21))) ∧ (¬ (((0 ≤ (a1 / 100) ∧ (a1 / 100) ≤ 23)) ∧ (((0 ≤ ((a1 / 10) % 10) ∧ ((a1 / 10) % 10) < h 1 7) ∧ 0 ≤ (a1 % 10) ∧ (a1 % 10) ≤ top (h 10 ((a1 / 10) % 10))))) → K (-1) h)))))))) ∧ (¬ 0 ≤ a1 → K (-1) h))) :
    Ev w Y_X8_keepHabit 0 [some (vR 0), some (vI a1), none, none, none] [] h (rI K) := by
  refine e_iload_n (pc := 0) dX8_keepHabit_0 rfl rfl ?_
  refine e_if_ge (pc := 1) (tgt := 6) dX8_keepHabit_1 (by decide) (fun c1 => ?_) (fun c1 => ?_)
  · have H := H.1 c1
    refine e_iload_n (pc := 6) dX8_keepHabit_6 rfl rfl ?_
    refine e_bipush (pc := 7) dX8_keepHabit_7 ⟨by decide, by decide⟩ (by decide) ?_
    refine e_idiv (pc := 9) dX8_keepHabit_9 ⟨H.1, by decide⟩ ?_
    have H := H.2
    refine e_istore_n (lv' := [some (vR 0), some (vI a1), some (vI (a1 / 100)), none, none]) (pc := 10) dX8_keepHabit_10 rfl rfl rfl ?_
    refine e_iload_n (pc := 11) dX8_keepHabit_11 rfl rfl ?_
    refine e_bipush (pc := 12) dX8_keepHabit_12 ⟨by decide, by decide⟩ (by decide) ?_
    refine e_idiv (pc := 14) dX8_keepHabit_14 ⟨H.1, by decide⟩ ?_
    have H := H.2
    refine e_bipush (pc := 15) dX8_keepHabit_15 ⟨by decide, by decide⟩ (by decide) ?_
    refine e_irem (pc := 17) dX8_keepHabit_17 ⟨H.1, by decide⟩ ?_
    have H := H.2
    refine e_istore_n (lv' := [some (vR 0), some (vI a1), some (vI (a1 / 100)), some (vI ((a1 / 10) % 10)), none]) (pc := 18) dX8_keepHabit_18 rfl rfl rfl ?_
    refine e_iload_n (pc := 19) dX8_keepHabit_19 rfl rfl ?_
    refine e_bipush (pc := 20) dX8_keepHabit_20 ⟨by decide, by decide⟩ (by decide) ?_
    refine e_irem (pc := 22) dX8_keepHabit_22 ⟨H.1, by decide⟩ ?_
    have H := H.2
    refine e_istore (lv' := [some (vR 0), some (vI a1), some (vI (a1 / 100)), some (vI ((a1 / 10) % 10)), some (vI (a1 % 10))]) (pc := 23) dX8_keepHabit_23 rfl rfl ?_
    refine e_iload_n (pc := 25) dX8_keepHabit_25 rfl rfl ?_
    refine e_iconst (pc := 26) dX8_keepHabit_26 ⟨by decide, by decide⟩ ?_
    refine e_bipush (pc := 27) dX8_keepHabit_27 ⟨by decide, by decide⟩ (by decide) ?_
    refine e_invS (pc := 29) (Y' := Y_X8_within) (as := [vI (a1 / 100), vI 0, vI 23]) (st := []) (lv0 := [some (vI (a1 / 100)), some (vI 0), some (vI 23)]) dX8_keepHabit_29 m_X8_within ul_2_130 ul_2_131 ⟨rfl, rfl⟩ rfl rfl rfl rfl rfl (c_X8_within w (a1 / 100) 0 23 h) ?_
    rintro _ hz ⟨_, rfl, rfl, hh⟩
    rw [hh]
    show Ev w Y_X8_keepHabit 32 [some (vR 0), some (vI a1), some (vI (a1 / 100)), some (vI ((a1 / 10) % 10)), some (vI (a1 % 10))] [vI (b2i (0 ≤ (a1 / 100) ∧ (a1 / 100) ≤ 23))] h (rI K)
    have Ho := H.1
    have H := H.2
    have J1 : (((0 ≤ (a1 / 100) ∧ (a1 / 100) ≤ 23)) ∧ (((0 ≤ ((a1 / 10) % 10) ∧ ((a1 / 10) % 10) < h 1 7) ∧ 0 ≤ (a1 % 10) ∧ (a1 % 10) ≤ top (h 10 ((a1 / 10) % 10))))) → Ev w Y_X8_keepHabit 50 [some (vR 0), some (vI a1), some (vI (a1 / 100)), some (vI ((a1 / 10) % 10)), some (vI (a1 % 10))] [] h (rI K) := by
      intro hp
      have H := H.1 hp
      refine e_aload_n (pc := 50) dX8_keepHabit_50 rfl rfl ?_
      refine e_getR (q := 0) (ci := 8) (k := 5) (y := 6) (C := RX8) (T := TX8) (N := 9) (pc := 51) dX8_keepHabit_51 rfl rfl ev_in8 rfl ul_2_103 ⟨rfl, rfl⟩ rfl ?_
      refine e_iconst (pc := 54) dX8_keepHabit_54 ⟨by decide, by decide⟩ ?_
      refine e_iload_n (pc := 55) dX8_keepHabit_55 rfl rfl ?_
      refine e_iload_n (pc := 56) dX8_keepHabit_56 rfl rfl ?_
      refine e_iload (pc := 57) dX8_keepHabit_57 rfl ?_
      refine e_invV (pc := 59) (Y' := Y_X6_add) (as := [vI (-1), vI (a1 / 100), vI ((a1 / 10) % 10), vI (a1 % 10)]) (st := []) (lv0 := [some (vR 6), some (vI (-1)), some (vI (a1 / 100)), some (vI ((a1 / 10) % 10)), some (vI (a1 % 10))]) (q := 6) (ci := 6) (T := TX6) (N := 10) dX8_keepHabit_59 m_X6_add ul_4_49 ⟨ul_4_50, ul_4_51⟩ ⟨rfl, rfl⟩ rfl rfl rfl rfl rfl rfl rfl (c_X6_add w (-1) (a1 / 100) ((a1 / 10) % 10) (a1 % 10) h _ H) ?_
      rintro _ h21 ⟨r21, rfl, H⟩
      show Ev w Y_X8_keepHabit 62 [some (vR 0), some (vI a1), some (vI (a1 / 100)), some (vI ((a1 / 10) % 10)), some (vI (a1 % 10))] [vI r21] h21 (rI K)
      exact e_ret (pc := 62) (v := some (vI r21)) dX8_keepHabit_62 rfl trivial ⟨_, rfl, H⟩
    have J2 : ¬ (((0 ≤ (a1 / 100) ∧ (a1 / 100) ≤ 23)) ∧ (((0 ≤ ((a1 / 10) % 10) ∧ ((a1 / 10) % 10) < h 1 7) ∧ 0 ≤ (a1 % 10) ∧ (a1 % 10) ≤ top (h 10 ((a1 / 10) % 10))))) → Ev w Y_X8_keepHabit 48 [some (vR 0), some (vI a1), some (vI (a1 / 100)), some (vI ((a1 / 10) % 10)), some (vI (a1 % 10))] [] h (rI K) := by
      intro hp
      have H := H.2 hp
      refine e_iconst (pc := 48) dX8_keepHabit_48 ⟨by decide, by decide⟩ ?_
      exact e_ret (pc := 49) (v := some (vI (-1))) dX8_keepHabit_49 rfl trivial ⟨_, rfl, H⟩
    refine e_ifb_eq (pc := 32) (tgt := 48) dX8_keepHabit_32 (by decide) (fun c2 => ?_) (fun c2 => ?_)
    · have Ho := Ho.1 c2
      exact J2 (fun z => c2 z.1)
    · have Ho := Ho.2 c2
      refine e_aload_n (pc := 35) dX8_keepHabit_35 rfl rfl ?_
      refine e_getR (q := 0) (ci := 8) (k := 0) (y := 1) (C := RX8) (T := TX8) (N := 9) (pc := 36) dX8_keepHabit_36 rfl rfl ev_in8 rfl ul_2_98 ⟨rfl, rfl⟩ rfl ?_
      refine e_iload_n (pc := 39) dX8_keepHabit_39 rfl rfl ?_
      refine e_iload (pc := 40) dX8_keepHabit_40 rfl ?_
      refine e_invV (pc := 42) (Y' := Y_X4_canBe) (as := [vI ((a1 / 10) % 10), vI (a1 % 10)]) (st := []) (lv0 := [some (vR 1), some (vI ((a1 / 10) % 10)), some (vI (a1 % 10))]) (q := 1) (ci := 4) (T := TX4) (N := 10) dX8_keepHabit_42 m_X4_canBe ul_4_48 ⟨ul_3_105, ul_3_106⟩ ⟨rfl, rfl⟩ rfl rfl rfl rfl rfl rfl rfl (c_X4_canBe w ((a1 / 10) % 10) (a1 % 10) h Ho.1) ?_
      rintro _ hz ⟨_, rfl, rfl, hh⟩
      rw [hh]
      show Ev w Y_X8_keepHabit 45 [some (vR 0), some (vI a1), some (vI (a1 / 100)), some (vI ((a1 / 10) % 10)), some (vI (a1 % 10))] [vI (b2i ((0 ≤ ((a1 / 10) % 10) ∧ ((a1 / 10) % 10) < h 1 7) ∧ 0 ≤ (a1 % 10) ∧ (a1 % 10) ≤ top (h 10 ((a1 / 10) % 10))))] h (rI K)
      have Ho := Ho.2
      refine e_ifb_ne (pc := 45) (tgt := 50) dX8_keepHabit_45 (by decide) (fun c3 => ?_) (fun c3 => ?_)
      · exact J1 ⟨c2, c3⟩
      · exact J2 (fun z => c3 z.2)
  · have H := H.2 c1
    refine e_iconst (pc := 4) dX8_keepHabit_4 ⟨by decide, by decide⟩ ?_
    exact e_ret (pc := 5) (v := some (vI (-1))) dX8_keepHabit_5 rfl trivial ⟨_, rfl, H⟩
theorem c_X8_keepHabit (w : WD) (a1 : Int) (h : HP) (K : Int → HP → Prop)  (H : S_X8_keepHabit a1 h K) : Ev w Y_X8_keepHabit 0 [some (vR 0), some (vI a1), none, none, none] [] h (rI K) := v_X8_keepHabit w a1 h K  H
def S_X8_why (a1 : Int) (h : HP) (K : Int → HP → Prop) : Prop :=
  ((((¬ (0 ≤ a1 ∧ a1 < h 1 7) → True) ∧ ((0 ≤ a1 ∧ a1 < h 1 7) → ((0 ≤ a1 ∧ a1 < 10) ∧ True)))) ∧ K (cif (¬ (0 ≤ a1 ∧ a1 < h 1 7)) (-1) (h 13 a1)) h)
set_option maxRecDepth 100000 in
set_option maxHeartbeats 4000000 in
theorem v_X8_why (w : WD) (a1 : Int) (h : HP) (K : Int → HP → Prop) 
    (H : ((((¬ (0 ≤ a1 ∧ a1 < h 1 7) → True) ∧ ((0 ≤ a1 ∧ a1 < h 1 7) → ((0 ≤ a1 ∧ a1 < 10) ∧ True)))) ∧ K (cif (¬ (0 ≤ a1 ∧ a1 < h 1 7)) (-1) (h 13 a1)) h)) :
    Ev w Y_X8_why 0 [some (vR 0), some (vI a1)] [] h (rI K) := by
  refine e_aload_n (pc := 0) dX8_why_0 rfl rfl ?_
  refine e_getR (q := 0) (ci := 8) (k := 0) (y := 1) (C := RX8) (T := TX8) (N := 9) (pc := 1) dX8_why_1 rfl rfl ev_in8 rfl ul_2_98 ⟨rfl, rfl⟩ rfl ?_
  refine e_iload_n (pc := 4) dX8_why_4 rfl rfl ?_
  refine e_invV (pc := 5) (Y' := Y_X4_isThing) (as := [vI a1]) (st := []) (lv0 := [some (vR 1), some (vI a1)]) (q := 1) (ci := 4) (T := TX4) (N := 10) dX8_why_5 m_X4_isThing ul_2_149 ⟨ul_2_150, ul_2_151⟩ ⟨rfl, rfl⟩ rfl rfl rfl rfl rfl rfl rfl (c_X4_isThing w a1 h) ?_
  rintro _ hz ⟨_, rfl, rfl, hh⟩
  rw [hh]
  show Ev w Y_X8_why 8 [some (vR 0), some (vI a1)] [vI (b2i (0 ≤ a1 ∧ a1 < h 1 7))] h (rI K)
  have J : Ev w Y_X8_why 24 [some (vR 0), some (vI a1)] [vI (cif (¬ (0 ≤ a1 ∧ a1 < h 1 7)) (-1) (h 13 a1))] h (rI K) := by
    have H := H.2
    exact e_ret (pc := 24) (v := some (vI (cif (¬ (0 ≤ a1 ∧ a1 < h 1 7)) (-1) (h 13 a1)))) dX8_why_24 rfl trivial ⟨_, rfl, H⟩
  have Ho := H.1
  refine e_ifb_eq (pc := 8) (tgt := 23) dX8_why_8 (by decide) (fun c1 => ?_) (fun c1 => ?_)
  · have Ho := Ho.1 c1
    refine e_iconst (pc := 23) dX8_why_23 ⟨by decide, by decide⟩ ?_
    exact e_top (cif_t c1) J
  · have Ho := Ho.2 c1
    refine e_aload_n (pc := 11) dX8_why_11 rfl rfl ?_
    refine e_getR (q := 0) (ci := 8) (k := 0) (y := 1) (C := RX8) (T := TX8) (N := 9) (pc := 12) dX8_why_12 rfl rfl ev_in8 rfl ul_2_98 ⟨rfl, rfl⟩ rfl ?_
    refine e_getR (q := 1) (ci := 4) (k := 4) (y := 13) (C := RX4) (T := TX4) (N := 10) (pc := 15) dX8_why_15 rfl rfl ev_in4 rfl ul_1_41 ⟨rfl, rfl⟩ rfl ?_
    refine e_iload_n (pc := 18) dX8_why_18 rfl rfl ?_
    refine e_iald (q := 13) (x := (h 13 a1)) (pc := 19) dX8_why_19 rfl Ho.1 rfl ?_
    have Ho := Ho.2
    refine e_goto (pc := 20) (tgt := 24) dX8_why_20 (by decide) ?_
    exact e_top (cif_f (fun z => z c1)) J
theorem c_X8_why (w : WD) (a1 : Int) (h : HP) (K : Int → HP → Prop)  (H : S_X8_why a1 h K) : Ev w Y_X8_why 0 [some (vR 0), some (vI a1)] [] h (rI K) := v_X8_why w a1 h K  H
def S_X8_count (a1 : Int) (h : HP) (K : Int → HP → Prop) : Prop :=
  ((a1 = 0 → K (h 1 7) h) ∧ ((a1 = 1 → K (h 3 6) h) ∧ ((a1 = 2 → K (h 2 5) h) ∧ ((a1 = 3 → K (h 2 6) h) ∧ ((a1 = 4 → K (h 6 7) h) ∧ ((a1 = 5 → K (h 6 8) h) ∧ ((a1 = 6 → K (h 5 3) h) ∧ ((a1 = 7 → K (h 8 6) h) ∧ ((a1 = 8 → K (h 1 9) h) ∧ ((a1 = 9 → K (h 8 7) h) ∧ ((a1 < 0 ∨ 9 < a1) → K (-1) h)))))))))))
set_option maxRecDepth 100000 in
set_option maxHeartbeats 4000000 in
theorem v_X8_count (w : WD) (a1 : Int) (h : HP) (K : Int → HP → Prop) 
    (H : ((a1 = 0 → K (h 1 7) h) ∧ ((a1 = 1 → K (h 3 6) h) ∧ ((a1 = 2 → K (h 2 5) h) ∧ ((a1 = 3 → K (h 2 6) h) ∧ ((a1 = 4 → K (h 6 7) h) ∧ ((a1 = 5 → K (h 6 8) h) ∧ ((a1 = 6 → K (h 5 3) h) ∧ ((a1 = 7 → K (h 8 6) h) ∧ ((a1 = 8 → K (h 1 9) h) ∧ ((a1 = 9 → K (h 8 7) h) ∧ ((a1 < 0 ∨ 9 < a1) → K (-1) h)))))))))))) :
    Ev w Y_X8_count 0 [some (vR 0), some (vI a1)] [] h (rI K) := by
  refine e_iload_n (pc := 0) dX8_count_0 rfl rfl ?_
  refine e_table (pc := 1) dX8_count_1 (fun c1 => ?_) (fun c2 c3 => ?_)
  · have H := H.2.2.2.2.2.2.2.2.2.2 c1
    refine ⟨136, by decide, ?_⟩
    refine e_iconst (pc := 136) dX8_count_136 ⟨by decide, by decide⟩ ?_
    exact e_ret (pc := 137) (v := some (vI (-1))) dX8_count_137 rfl trivial ⟨_, rfl, H⟩
  · have c1 : a1 = 0 ∨ a1 = 1 ∨ a1 = 2 ∨ a1 = 3 ∨ a1 = 4 ∨ a1 = 5 ∨ a1 = 6 ∨ a1 = 7 ∨ a1 = 8 ∨ a1 = 9 := by omega
    rcases c1 with c1 | c1 | c1 | c1 | c1 | c1 | c1 | c1 | c1 | c1
    · have H := H.1 c1
      refine ⟨55, 56, by rw [c1]; rfl, by decide, ?_⟩
      refine e_aload_n (pc := 56) dX8_count_56 rfl rfl ?_
      refine e_getR (q := 0) (ci := 8) (k := 0) (y := 1) (C := RX8) (T := TX8) (N := 9) (pc := 57) dX8_count_57 rfl rfl ev_in8 rfl ul_2_98 ⟨rfl, rfl⟩ rfl ?_
      refine e_getI (q := 1) (ci := 4) (k := 7) (kz := 7) (C := RX4) (T := TX4) (N := 10) (x := (h 1 7)) (pc := 60) dX8_count_60 rfl rfl rfl ev_in4 rfl ul_1_48 ⟨rfl, by decide⟩ rfl ?_
      exact e_ret (pc := 63) (v := some (vI (h 1 7))) dX8_count_63 rfl trivial ⟨_, rfl, H⟩
    · have H := H.2.1 c1
      refine ⟨63, 64, by rw [c1]; rfl, by decide, ?_⟩
      refine e_aload_n (pc := 64) dX8_count_64 rfl rfl ?_
      refine e_getR (q := 0) (ci := 8) (k := 2) (y := 3) (C := RX8) (T := TX8) (N := 9) (pc := 65) dX8_count_65 rfl rfl ev_in8 rfl ul_2_100 ⟨rfl, rfl⟩ rfl ?_
      refine e_getI (q := 3) (ci := 7) (k := 6) (kz := 6) (C := RX7) (T := TX7) (N := 8) (x := (h 3 6)) (pc := 68) dX8_count_68 rfl rfl rfl ev_in7 rfl ul_1_125 ⟨rfl, by decide⟩ rfl ?_
      exact e_ret (pc := 71) (v := some (vI (h 3 6))) dX8_count_71 rfl trivial ⟨_, rfl, H⟩
    · have H := H.2.2.1 c1
      refine ⟨71, 72, by rw [c1]; rfl, by decide, ?_⟩
      refine e_aload_n (pc := 72) dX8_count_72 rfl rfl ?_
      refine e_getR (q := 0) (ci := 8) (k := 1) (y := 2) (C := RX8) (T := TX8) (N := 9) (pc := 73) dX8_count_73 rfl rfl ev_in8 rfl ul_2_99 ⟨rfl, rfl⟩ rfl ?_
      refine e_getI (q := 2) (ci := 5) (k := 5) (kz := 5) (C := RX5) (T := TX5) (N := 7) (x := (h 2 5)) (pc := 76) dX8_count_76 rfl rfl rfl ev_in5 rfl ul_1_90 ⟨rfl, by decide⟩ rfl ?_
      exact e_ret (pc := 79) (v := some (vI (h 2 5))) dX8_count_79 rfl trivial ⟨_, rfl, H⟩
    · have H := H.2.2.2.1 c1
      refine ⟨79, 80, by rw [c1]; rfl, by decide, ?_⟩
      refine e_aload_n (pc := 80) dX8_count_80 rfl rfl ?_
      refine e_getR (q := 0) (ci := 8) (k := 1) (y := 2) (C := RX8) (T := TX8) (N := 9) (pc := 81) dX8_count_81 rfl rfl ev_in8 rfl ul_2_99 ⟨rfl, rfl⟩ rfl ?_
      refine e_getI (q := 2) (ci := 5) (k := 6) (kz := 6) (C := RX5) (T := TX5) (N := 7) (x := (h 2 6)) (pc := 84) dX8_count_84 rfl rfl rfl ev_in5 rfl ul_1_93 ⟨rfl, by decide⟩ rfl ?_
      exact e_ret (pc := 87) (v := some (vI (h 2 6))) dX8_count_87 rfl trivial ⟨_, rfl, H⟩
    · have H := H.2.2.2.2.1 c1
      refine ⟨87, 88, by rw [c1]; rfl, by decide, ?_⟩
      refine e_aload_n (pc := 88) dX8_count_88 rfl rfl ?_
      refine e_getR (q := 0) (ci := 8) (k := 5) (y := 6) (C := RX8) (T := TX8) (N := 9) (pc := 89) dX8_count_89 rfl rfl ev_in8 rfl ul_2_103 ⟨rfl, rfl⟩ rfl ?_
      refine e_getI (q := 6) (ci := 6) (k := 7) (kz := 7) (C := RX6) (T := TX6) (N := 10) (x := (h 6 7)) (pc := 92) dX8_count_92 rfl rfl rfl ev_in6 rfl ul_2_9 ⟨rfl, by decide⟩ rfl ?_
      exact e_ret (pc := 95) (v := some (vI (h 6 7))) dX8_count_95 rfl trivial ⟨_, rfl, H⟩
    · have H := H.2.2.2.2.2.1 c1
      refine ⟨95, 96, by rw [c1]; rfl, by decide, ?_⟩
      refine e_aload_n (pc := 96) dX8_count_96 rfl rfl ?_
      refine e_getR (q := 0) (ci := 8) (k := 5) (y := 6) (C := RX8) (T := TX8) (N := 9) (pc := 97) dX8_count_97 rfl rfl ev_in8 rfl ul_2_103 ⟨rfl, rfl⟩ rfl ?_
      refine e_getI (q := 6) (ci := 6) (k := 8) (kz := 8) (C := RX6) (T := TX6) (N := 10) (x := (h 6 8)) (pc := 100) dX8_count_100 rfl rfl rfl ev_in6 rfl ul_2_11 ⟨rfl, by decide⟩ rfl ?_
      exact e_ret (pc := 103) (v := some (vI (h 6 8))) dX8_count_103 rfl trivial ⟨_, rfl, H⟩
    · have H := H.2.2.2.2.2.2.1 c1
      refine ⟨103, 104, by rw [c1]; rfl, by decide, ?_⟩
      refine e_aload_n (pc := 104) dX8_count_104 rfl rfl ?_
      refine e_getR (q := 0) (ci := 8) (k := 4) (y := 5) (C := RX8) (T := TX8) (N := 9) (pc := 105) dX8_count_105 rfl rfl ev_in8 rfl ul_2_102 ⟨rfl, rfl⟩ rfl ?_
      refine e_getI (q := 5) (ci := 0) (k := 3) (kz := 3) (C := RX0) (T := TX0) (N := 5) (x := (h 5 3)) (pc := 108) dX8_count_108 rfl rfl rfl ev_in0 rfl ul_1_220 ⟨rfl, by decide⟩ rfl ?_
      exact e_ret (pc := 111) (v := some (vI (h 5 3))) dX8_count_111 rfl trivial ⟨_, rfl, H⟩
    · have H := H.2.2.2.2.2.2.2.1 c1
      refine ⟨111, 112, by rw [c1]; rfl, by decide, ?_⟩
      refine e_aload_n (pc := 112) dX8_count_112 rfl rfl ?_
      refine e_getR (q := 0) (ci := 8) (k := 7) (y := 8) (C := RX8) (T := TX8) (N := 9) (pc := 113) dX8_count_113 rfl rfl ev_in8 rfl ul_2_105 ⟨rfl, rfl⟩ rfl ?_
      refine e_getI (q := 8) (ci := 1) (k := 6) (kz := 6) (C := RX1) (T := TX1) (N := 8) (x := (h 8 6)) (pc := 116) dX8_count_116 rfl rfl rfl ev_in1 rfl ul_2_78 ⟨rfl, by decide⟩ rfl ?_
      exact e_ret (pc := 119) (v := some (vI (h 8 6))) dX8_count_119 rfl trivial ⟨_, rfl, H⟩
    · have H := H.2.2.2.2.2.2.2.2.1 c1
      refine ⟨119, 120, by rw [c1]; rfl, by decide, ?_⟩
      refine e_aload_n (pc := 120) dX8_count_120 rfl rfl ?_
      refine e_getR (q := 0) (ci := 8) (k := 0) (y := 1) (C := RX8) (T := TX8) (N := 9) (pc := 121) dX8_count_121 rfl rfl ev_in8 rfl ul_2_98 ⟨rfl, rfl⟩ rfl ?_
      refine e_getI (q := 1) (ci := 4) (k := 9) (kz := 9) (C := RX4) (T := TX4) (N := 10) (x := (h 1 9)) (pc := 124) dX8_count_124 rfl rfl rfl ev_in4 rfl ul_1_55 ⟨rfl, by decide⟩ rfl ?_
      exact e_ret (pc := 127) (v := some (vI (h 1 9))) dX8_count_127 rfl trivial ⟨_, rfl, H⟩
    · have H := H.2.2.2.2.2.2.2.2.2.1 c1
      refine ⟨127, 128, by rw [c1]; rfl, by decide, ?_⟩
      refine e_aload_n (pc := 128) dX8_count_128 rfl rfl ?_
      refine e_getR (q := 0) (ci := 8) (k := 7) (y := 8) (C := RX8) (T := TX8) (N := 9) (pc := 129) dX8_count_129 rfl rfl ev_in8 rfl ul_2_105 ⟨rfl, rfl⟩ rfl ?_
      refine e_getI (q := 8) (ci := 1) (k := 7) (kz := 7) (C := RX1) (T := TX1) (N := 8) (x := (h 8 7)) (pc := 132) dX8_count_132 rfl rfl rfl ev_in1 rfl ul_2_80 ⟨rfl, by decide⟩ rfl ?_
      exact e_ret (pc := 135) (v := some (vI (h 8 7))) dX8_count_135 rfl trivial ⟨_, rfl, H⟩
theorem c_X8_count (w : WD) (a1 : Int) (h : HP) (K : Int → HP → Prop)  (H : S_X8_count a1 h K) : Ev w Y_X8_count 0 [some (vR 0), some (vI a1)] [] h (rI K) := v_X8_count w a1 h K  H
def S_X9_thing (a1 : Int) (a2 : Int) (a3 : Int) (h : HP) (K : Int → HP → Prop) : Prop :=
  (((((0 ≤ a1 ∧ a1 ≤ 4)) ∧ (((0 ≤ a2 ∧ a2 ≤ 3)) ∧ ((0 ≤ a3 ∧ a3 ≤ 100)))) → ((¬ (h 55 0) = 10 → ((0 ≤ (h 55 0) ∧ (h 55 0) < 10) ∧ ((0 ≤ (h 55 0) ∧ (h 55 0) < 10) ∧ ((0 ≤ (h 55 0) ∧ (h 55 0) < 10) ∧ ((0 ≤ (h 55 0) ∧ (h 55 0) < 10) ∧ ((iR ((h 55 0) + 1)) ∧ ((iR (((h 55 0) + 1) - 1)) ∧ K (((h 55 0) + 1) - 1) (sth (sth (sth (sth (sth h 56 (h 55 0) a1) 57 (h 55 0) a2) 58 (h 55 0) a3) 61 (h 55 0) (-4)) 55 0 ((h 55 0) + 1))))))))) ∧ ((h 55 0) = 10 → K (-3) h))) ∧ (¬ (((0 ≤ a1 ∧ a1 ≤ 4)) ∧ (((0 ≤ a2 ∧ a2 ≤ 3)) ∧ ((0 ≤ a3 ∧ a3 ≤ 100)))) → K (-1) h))
set_option maxRecDepth 100000 in
set_option maxHeartbeats 4000000 in
theorem v_X9_thing (w : WD) (a1 : Int) (a2 : Int) (a3 : Int) (h : HP) (K : Int → HP → Prop) 
    (H : (((((0 ≤ a1 ∧ a1 ≤ 4)) ∧ (((0 ≤ a2 ∧ a2 ≤ 3)) ∧ ((0 ≤ a3 ∧ a3 ≤ 100)))) → ((¬ (h 55 0) = 10 → ((0 ≤ (h 55 0) ∧ (h 55 0) < 10) ∧ ((0 ≤ (h 55 0) ∧ (h 55 0) < 10) ∧ ((0 ≤ (h 55 0) ∧ (h 55 0) < 10) ∧ ((0 ≤ (h 55 0) ∧ (h 55 0) < 10) ∧ ((iR ((h 55 0) + 1)) ∧ ((iR (((h 55 0) + 1) - 1)) ∧ K (((h 55 0) + 1) - 1) (sth (sth (sth (sth (sth h 56 (h 55 0) a1) 57 (h 55 0) a2) 58 (h 55 0) a3) 61 (h 55 0) (-4)) 55 0 ((h 55 0) + 1))))))))) ∧ ((h 55 0) = 10 → K (-3) h))) ∧ (¬ (((0 ≤ a1 ∧ a1 ≤ 4)) ∧ (((0 ≤ a2 ∧ a2 ≤ 3)) ∧ ((0 ≤ a3 ∧ a3 ≤ 100)))) → K (-1) h))) :
    Ev w Y_X9_thing 0 [some (vR 55), some (vI a1), some (vI a2), some (vI a3)] [] h (rI K) := by
  refine e_iload_n (pc := 0) dX9_thing_0 rfl rfl ?_
  refine e_i2l (pc := 1) dX9_thing_1 ?_
  refine e_lconst (x := 0) (pc := 2) dX9_thing_2 ⟨by decide, by decide⟩ (by decide) ?_
  refine e_ldc2 (x := 4) (pc := 3) dX9_thing_3 ul_5_103 ⟨by decide, by decide⟩ ?_
  refine e_invS (pc := 6) (Y' := Y_X9_in) (as := [vL a1, vL 0, vL 4]) (st := []) (lv0 := [some (vL a1), none, some (vL 0), none, some (vL 4), none]) dX9_thing_6 m_X9_in ul_5_104 ul_5_105 ⟨rfl, rfl⟩ rfl rfl rfl rfl rfl (c_X9_in w a1 0 4 h) ?_
  rintro _ hz ⟨_, rfl, rfl, hh⟩
  rw [hh]
  show Ev w Y_X9_thing 9 [some (vR 55), some (vI a1), some (vI a2), some (vI a3)] [vI (b2i (0 ≤ a1 ∧ a1 ≤ 4))] h (rI K)
  have J1 : (((0 ≤ a1 ∧ a1 ≤ 4)) ∧ (((0 ≤ a2 ∧ a2 ≤ 3)) ∧ ((0 ≤ a3 ∧ a3 ≤ 100)))) → Ev w Y_X9_thing 38 [some (vR 55), some (vI a1), some (vI a2), some (vI a3)] [] h (rI K) := by
    intro hp
    have H := H.1 hp
    refine e_aload_n (pc := 38) dX9_thing_38 rfl rfl ?_
    refine e_getI (q := 55) (ci := 9) (k := 0) (kz := 0) (C := RX9) (T := TX9) (N := 52) (x := (h 55 0)) (pc := 39) dX9_thing_39 rfl rfl rfl ev_in9 rfl ul_4_182 ⟨rfl, by decide⟩ rfl ?_
    refine e_bipush (pc := 42) dX9_thing_42 ⟨by decide, by decide⟩ (by decide) ?_
    refine e_icmp_ne (pc := 44) (tgt := 50) dX9_thing_44 (by decide) (fun c1 => ?_) (fun c1 => ?_)
    · have H := H.1 c1
      refine e_aload_n (pc := 50) dX9_thing_50 rfl rfl ?_
      refine e_getR (q := 55) (ci := 9) (k := 1) (y := 56) (C := RX9) (T := TX9) (N := 52) (pc := 51) dX9_thing_51 rfl rfl ev_in9 rfl ul_4_183 ⟨rfl, rfl⟩ rfl ?_
      refine e_aload_n (pc := 54) dX9_thing_54 rfl rfl ?_
      refine e_getI (q := 55) (ci := 9) (k := 0) (kz := 0) (C := RX9) (T := TX9) (N := 52) (x := (h 55 0)) (pc := 55) dX9_thing_55 rfl rfl rfl ev_in9 rfl ul_4_182 ⟨rfl, by decide⟩ rfl ?_
      refine e_iload_n (pc := 58) dX9_thing_58 rfl rfl ?_
      refine e_iast (q := 56) (pc := 59) dX9_thing_59 rfl H.1 ?_
      have H := H.2
      refine e_aload_n (pc := 60) dX9_thing_60 rfl rfl ?_
      refine e_getR (q := 55) (ci := 9) (k := 2) (y := 57) (C := RX9) (T := TX9) (N := 52) (pc := 61) dX9_thing_61 rfl rfl ev_in9 rfl ul_4_184 ⟨rfl, rfl⟩ rfl ?_
      refine e_aload_n (pc := 64) dX9_thing_64 rfl rfl ?_
      refine e_getI (q := 55) (ci := 9) (k := 0) (kz := 0) (C := RX9) (T := TX9) (N := 52) (x := (h 55 0)) (pc := 65) dX9_thing_65 rfl rfl rfl ev_in9 rfl ul_4_182 ⟨rfl, by decide⟩ rfl ?_
      refine e_iload_n (pc := 68) dX9_thing_68 rfl rfl ?_
      refine e_iast (q := 57) (pc := 69) dX9_thing_69 rfl H.1 ?_
      have H := H.2
      refine e_aload_n (pc := 70) dX9_thing_70 rfl rfl ?_
      refine e_getR (q := 55) (ci := 9) (k := 3) (y := 58) (C := RX9) (T := TX9) (N := 52) (pc := 71) dX9_thing_71 rfl rfl ev_in9 rfl ul_4_185 ⟨rfl, rfl⟩ rfl ?_
      refine e_aload_n (pc := 74) dX9_thing_74 rfl rfl ?_
      refine e_getI (q := 55) (ci := 9) (k := 0) (kz := 0) (C := RX9) (T := TX9) (N := 52) (x := (h 55 0)) (pc := 75) dX9_thing_75 rfl rfl rfl ev_in9 rfl ul_4_182 ⟨rfl, by decide⟩ rfl ?_
      refine e_iload_n (pc := 78) dX9_thing_78 rfl rfl ?_
      refine e_iast (q := 58) (pc := 79) dX9_thing_79 rfl H.1 ?_
      have H := H.2
      refine e_aload_n (pc := 80) dX9_thing_80 rfl rfl ?_
      refine e_getR (q := 55) (ci := 9) (k := 6) (y := 61) (C := RX9) (T := TX9) (N := 52) (pc := 81) dX9_thing_81 rfl rfl ev_in9 rfl ul_4_188 ⟨rfl, rfl⟩ rfl ?_
      refine e_aload_n (pc := 84) dX9_thing_84 rfl rfl ?_
      refine e_getI (q := 55) (ci := 9) (k := 0) (kz := 0) (C := RX9) (T := TX9) (N := 52) (x := (h 55 0)) (pc := 85) dX9_thing_85 rfl rfl rfl ev_in9 rfl ul_4_182 ⟨rfl, by decide⟩ rfl ?_
      refine e_bipush (pc := 88) dX9_thing_88 ⟨by decide, by decide⟩ (by decide) ?_
      refine e_iast (q := 61) (pc := 90) dX9_thing_90 rfl H.1 ?_
      have H := H.2
      refine e_aload_n (pc := 91) dX9_thing_91 rfl rfl ?_
      refine e_dup (pc := 92) dX9_thing_92 rfl ?_
      refine e_getI (q := 55) (ci := 9) (k := 0) (kz := 0) (C := RX9) (T := TX9) (N := 52) (x := (h 55 0)) (pc := 93) dX9_thing_93 rfl rfl rfl ev_in9 rfl ul_4_182 ⟨rfl, by decide⟩ rfl ?_
      refine e_iconst (pc := 96) dX9_thing_96 ⟨by decide, by decide⟩ ?_
      refine e_iadd (pc := 97) dX9_thing_97 H.1 ?_
      have H := H.2
      refine e_put (q := 55) (ci := 9) (k := 0) (kz := 0) (C := RX9) (T := TX9) (N := 52) (ty := .int) (pc := 98) dX9_thing_98 rfl rfl rfl ev_in9 tyX9 tyX9_ok nmX9 rfl ul_4_182 ⟨rfl, by decide⟩ rfl (tyX9_ok 0 (by decide)) (Or.inl rfl) ?_
      refine e_aload_n (pc := 101) dX9_thing_101 rfl rfl ?_
      refine e_getI (q := 55) (ci := 9) (k := 0) (kz := 0) (C := RX9) (T := TX9) (N := 52) (x := ((h 55 0) + 1)) (pc := 102) dX9_thing_102 rfl rfl rfl ev_in9 rfl ul_4_182 ⟨rfl, by decide⟩ rfl ?_
      refine e_iconst (pc := 105) dX9_thing_105 ⟨by decide, by decide⟩ ?_
      refine e_isub (pc := 106) dX9_thing_106 H.1 ?_
      have H := H.2
      exact e_ret (pc := 107) (v := some (vI (((h 55 0) + 1) - 1))) dX9_thing_107 rfl trivial ⟨_, rfl, H⟩
    · have H := H.2 c1
      refine e_bipush (pc := 47) dX9_thing_47 ⟨by decide, by decide⟩ (by decide) ?_
      exact e_ret (pc := 49) (v := some (vI (-3))) dX9_thing_49 rfl trivial ⟨_, rfl, H⟩
  have J2 : ¬ (((0 ≤ a1 ∧ a1 ≤ 4)) ∧ (((0 ≤ a2 ∧ a2 ≤ 3)) ∧ ((0 ≤ a3 ∧ a3 ≤ 100)))) → Ev w Y_X9_thing 36 [some (vR 55), some (vI a1), some (vI a2), some (vI a3)] [] h (rI K) := by
    intro hp
    have H := H.2 hp
    refine e_iconst (pc := 36) dX9_thing_36 ⟨by decide, by decide⟩ ?_
    exact e_ret (pc := 37) (v := some (vI (-1))) dX9_thing_37 rfl trivial ⟨_, rfl, H⟩
  refine e_ifb_eq (pc := 9) (tgt := 36) dX9_thing_9 (by decide) (fun c2 => ?_) (fun c2 => ?_)
  · exact J2 (fun z => c2 z.1)
  · refine e_iload_n (pc := 12) dX9_thing_12 rfl rfl ?_
    refine e_i2l (pc := 13) dX9_thing_13 ?_
    refine e_lconst (x := 0) (pc := 14) dX9_thing_14 ⟨by decide, by decide⟩ (by decide) ?_
    refine e_ldc2 (x := 3) (pc := 15) dX9_thing_15 ul_5_107 ⟨by decide, by decide⟩ ?_
    refine e_invS (pc := 18) (Y' := Y_X9_in) (as := [vL a2, vL 0, vL 3]) (st := []) (lv0 := [some (vL a2), none, some (vL 0), none, some (vL 3), none]) dX9_thing_18 m_X9_in ul_5_104 ul_5_105 ⟨rfl, rfl⟩ rfl rfl rfl rfl rfl (c_X9_in w a2 0 3 h) ?_
    rintro _ hz ⟨_, rfl, rfl, hh⟩
    rw [hh]
    show Ev w Y_X9_thing 21 [some (vR 55), some (vI a1), some (vI a2), some (vI a3)] [vI (b2i (0 ≤ a2 ∧ a2 ≤ 3))] h (rI K)
    refine e_ifb_eq (pc := 21) (tgt := 36) dX9_thing_21 (by decide) (fun c3 => ?_) (fun c3 => ?_)
    · exact J2 (fun z => (fun z => c3 z.1) z.2)
    · refine e_iload_n (pc := 24) dX9_thing_24 rfl rfl ?_
      refine e_i2l (pc := 25) dX9_thing_25 ?_
      refine e_lconst (x := 0) (pc := 26) dX9_thing_26 ⟨by decide, by decide⟩ (by decide) ?_
      refine e_ldc2 (x := 100) (pc := 27) dX9_thing_27 ul_5_108 ⟨by decide, by decide⟩ ?_
      refine e_invS (pc := 30) (Y' := Y_X9_in) (as := [vL a3, vL 0, vL 100]) (st := []) (lv0 := [some (vL a3), none, some (vL 0), none, some (vL 100), none]) dX9_thing_30 m_X9_in ul_5_104 ul_5_105 ⟨rfl, rfl⟩ rfl rfl rfl rfl rfl (c_X9_in w a3 0 100 h) ?_
      rintro _ hz ⟨_, rfl, rfl, hh⟩
      rw [hh]
      show Ev w Y_X9_thing 33 [some (vR 55), some (vI a1), some (vI a2), some (vI a3)] [vI (b2i (0 ≤ a3 ∧ a3 ≤ 100))] h (rI K)
      refine e_ifb_ne (pc := 33) (tgt := 38) dX9_thing_33 (by decide) (fun c4 => ?_) (fun c4 => ?_)
      · exact J1 ⟨c2, ⟨c3, c4⟩⟩
      · exact J2 (fun z => (fun z => c4 z.2) z.2)
theorem c_X9_thing (w : WD) (a1 : Int) (a2 : Int) (a3 : Int) (h : HP) (K : Int → HP → Prop)  (H : S_X9_thing a1 a2 a3 h K) : Ev w Y_X9_thing 0 [some (vR 55), some (vI a1), some (vI a2), some (vI a3)] [] h (rI K) := v_X9_thing w a1 a2 a3 h K  H
def S_X9_go (a1 : Int) (a2 : Int) (h : HP) (K : Int → HP → Prop) : Prop :=
  (((((0 ≤ a1 ∧ a1 ≤ 5)) ∧ (((-1) ≤ a2 ∧ a2 ≤ 4))) → ((0 ≤ a1 ∧ a1 < 6) ∧ ((0 ≤ a1 ∧ a1 < 6) ∧ K (h 62 a1) (sth h 62 a1 a2)))) ∧ (¬ (((0 ≤ a1 ∧ a1 ≤ 5)) ∧ (((-1) ≤ a2 ∧ a2 ≤ 4))) → K (-100) h))
set_option maxRecDepth 100000 in
set_option maxHeartbeats 4000000 in
theorem v_X9_go (w : WD) (a1 : Int) (a2 : Int) (h : HP) (K : Int → HP → Prop) 
    (H : (((((0 ≤ a1 ∧ a1 ≤ 5)) ∧ (((-1) ≤ a2 ∧ a2 ≤ 4))) → ((0 ≤ a1 ∧ a1 < 6) ∧ ((0 ≤ a1 ∧ a1 < 6) ∧ K (h 62 a1) (sth h 62 a1 a2)))) ∧ (¬ (((0 ≤ a1 ∧ a1 ≤ 5)) ∧ (((-1) ≤ a2 ∧ a2 ≤ 4))) → K (-100) h))) :
    Ev w Y_X9_go 0 [some (vR 55), some (vI a1), some (vI a2), none] [] h (rI K) := by
  refine e_iload_n (pc := 0) dX9_go_0 rfl rfl ?_
  refine e_i2l (pc := 1) dX9_go_1 ?_
  refine e_lconst (x := 0) (pc := 2) dX9_go_2 ⟨by decide, by decide⟩ (by decide) ?_
  refine e_ldc2 (x := 5) (pc := 3) dX9_go_3 ul_5_113 ⟨by decide, by decide⟩ ?_
  refine e_invS (pc := 6) (Y' := Y_X9_in) (as := [vL a1, vL 0, vL 5]) (st := []) (lv0 := [some (vL a1), none, some (vL 0), none, some (vL 5), none]) dX9_go_6 m_X9_in ul_5_104 ul_5_105 ⟨rfl, rfl⟩ rfl rfl rfl rfl rfl (c_X9_in w a1 0 5 h) ?_
  rintro _ hz ⟨_, rfl, rfl, hh⟩
  rw [hh]
  show Ev w Y_X9_go 9 [some (vR 55), some (vI a1), some (vI a2), none] [vI (b2i (0 ≤ a1 ∧ a1 ≤ 5))] h (rI K)
  have J1 : (((0 ≤ a1 ∧ a1 ≤ 5)) ∧ (((-1) ≤ a2 ∧ a2 ≤ 4))) → Ev w Y_X9_go 29 [some (vR 55), some (vI a1), some (vI a2), none] [] h (rI K) := by
    intro hp
    have H := H.1 hp
    refine e_aload_n (pc := 29) dX9_go_29 rfl rfl ?_
    refine e_getR (q := 55) (ci := 9) (k := 7) (y := 62) (C := RX9) (T := TX9) (N := 52) (pc := 30) dX9_go_30 rfl rfl ev_in9 rfl ul_4_189 ⟨rfl, rfl⟩ rfl ?_
    refine e_iload_n (pc := 33) dX9_go_33 rfl rfl ?_
    refine e_iald (q := 62) (x := (h 62 a1)) (pc := 34) dX9_go_34 rfl H.1 rfl ?_
    have H := H.2
    refine e_istore_n (lv' := [some (vR 55), some (vI a1), some (vI a2), some (vI (h 62 a1))]) (pc := 35) dX9_go_35 rfl rfl rfl ?_
    refine e_aload_n (pc := 36) dX9_go_36 rfl rfl ?_
    refine e_getR (q := 55) (ci := 9) (k := 7) (y := 62) (C := RX9) (T := TX9) (N := 52) (pc := 37) dX9_go_37 rfl rfl ev_in9 rfl ul_4_189 ⟨rfl, rfl⟩ rfl ?_
    refine e_iload_n (pc := 40) dX9_go_40 rfl rfl ?_
    refine e_iload_n (pc := 41) dX9_go_41 rfl rfl ?_
    refine e_iast (q := 62) (pc := 42) dX9_go_42 rfl H.1 ?_
    have H := H.2
    refine e_iload_n (pc := 43) dX9_go_43 rfl rfl ?_
    exact e_ret (pc := 44) (v := some (vI (h 62 a1))) dX9_go_44 rfl trivial ⟨_, rfl, H⟩
  have J2 : ¬ (((0 ≤ a1 ∧ a1 ≤ 5)) ∧ (((-1) ≤ a2 ∧ a2 ≤ 4))) → Ev w Y_X9_go 26 [some (vR 55), some (vI a1), some (vI a2), none] [] h (rI K) := by
    intro hp
    have H := H.2 hp
    refine e_bipush (pc := 26) dX9_go_26 ⟨by decide, by decide⟩ (by decide) ?_
    exact e_ret (pc := 28) (v := some (vI (-100))) dX9_go_28 rfl trivial ⟨_, rfl, H⟩
  refine e_ifb_eq (pc := 9) (tgt := 26) dX9_go_9 (by decide) (fun c1 => ?_) (fun c1 => ?_)
  · exact J2 (fun z => c1 z.1)
  · refine e_iload_n (pc := 12) dX9_go_12 rfl rfl ?_
    refine e_i2l (pc := 13) dX9_go_13 ?_
    refine e_ldc2 (x := (-1)) (pc := 14) dX9_go_14 ul_5_114 ⟨by decide, by decide⟩ ?_
    refine e_ldc2 (x := 4) (pc := 17) dX9_go_17 ul_5_103 ⟨by decide, by decide⟩ ?_
    refine e_invS (pc := 20) (Y' := Y_X9_in) (as := [vL a2, vL (-1), vL 4]) (st := []) (lv0 := [some (vL a2), none, some (vL (-1)), none, some (vL 4), none]) dX9_go_20 m_X9_in ul_5_104 ul_5_105 ⟨rfl, rfl⟩ rfl rfl rfl rfl rfl (c_X9_in w a2 (-1) 4 h) ?_
    rintro _ hz ⟨_, rfl, rfl, hh⟩
    rw [hh]
    show Ev w Y_X9_go 23 [some (vR 55), some (vI a1), some (vI a2), none] [vI (b2i ((-1) ≤ a2 ∧ a2 ≤ 4))] h (rI K)
    refine e_ifb_ne (pc := 23) (tgt := 29) dX9_go_23 (by decide) (fun c2 => ?_) (fun c2 => ?_)
    · exact J1 ⟨c1, c2⟩
    · exact J2 (fun z => c2 z.2)
theorem c_X9_go (w : WD) (a1 : Int) (a2 : Int) (h : HP) (K : Int → HP → Prop)  (H : S_X9_go a1 a2 h K) : Ev w Y_X9_go 0 [some (vR 55), some (vI a1), some (vI a2), none] [] h (rI K) := v_X9_go w a1 a2 h K  H
def S_X9_state (a1 : Int) (h : HP) (K : Int → HP → Prop) : Prop :=
  ((0 ≤ h 55 0 ∧ h 55 0 ≤ 10) ∧ ((((¬ (0 ≤ a1 ∧ a1 < h 55 0) → True) ∧ ((0 ≤ a1 ∧ a1 < h 55 0) → ((0 ≤ a1 ∧ a1 < 10) ∧ True)))) ∧ K (cif (¬ (0 ≤ a1 ∧ a1 < h 55 0)) (-1) (h 60 a1)) h))
set_option maxRecDepth 100000 in
set_option maxHeartbeats 4000000 in
theorem v_X9_state (w : WD) (a1 : Int) (h : HP) (K : Int → HP → Prop) 
    (H : ((0 ≤ h 55 0 ∧ h 55 0 ≤ 10) ∧ ((((¬ (0 ≤ a1 ∧ a1 < h 55 0) → True) ∧ ((0 ≤ a1 ∧ a1 < h 55 0) → ((0 ≤ a1 ∧ a1 < 10) ∧ True)))) ∧ K (cif (¬ (0 ≤ a1 ∧ a1 < h 55 0)) (-1) (h 60 a1)) h))) :
    Ev w Y_X9_state 0 [some (vR 55), some (vI a1)] [] h (rI K) := by
  refine e_aload_n (pc := 0) dX9_state_0 rfl rfl ?_
  refine e_iload_n (pc := 1) dX9_state_1 rfl rfl ?_
  refine e_invV (pc := 2) (Y' := Y_X9_isThing) (as := [vI a1]) (st := []) (lv0 := [some (vR 55), some (vI a1)]) (q := 55) (ci := 9) (T := TX9) (N := 52) dX9_state_2 m_X9_isThing ul_5_119 ⟨ul_5_121, us_X9_isThing⟩ ⟨rfl, rfl⟩ rfl rfl rfl rfl rfl rfl rfl (c_X9_isThing w a1 h H.1) ?_
  rintro _ hz ⟨_, rfl, rfl, hh⟩
  rw [hh]
  show Ev w Y_X9_state 5 [some (vR 55), some (vI a1)] [vI (b2i (0 ≤ a1 ∧ a1 < h 55 0))] h (rI K)
  have H := H.2
  have J : Ev w Y_X9_state 18 [some (vR 55), some (vI a1)] [vI (cif (¬ (0 ≤ a1 ∧ a1 < h 55 0)) (-1) (h 60 a1))] h (rI K) := by
    have H := H.2
    exact e_ret (pc := 18) (v := some (vI (cif (¬ (0 ≤ a1 ∧ a1 < h 55 0)) (-1) (h 60 a1)))) dX9_state_18 rfl trivial ⟨_, rfl, H⟩
  have Ho := H.1
  refine e_ifb_eq (pc := 5) (tgt := 17) dX9_state_5 (by decide) (fun c1 => ?_) (fun c1 => ?_)
  · have Ho := Ho.1 c1
    refine e_iconst (pc := 17) dX9_state_17 ⟨by decide, by decide⟩ ?_
    exact e_top (cif_t c1) J
  · have Ho := Ho.2 c1
    refine e_aload_n (pc := 8) dX9_state_8 rfl rfl ?_
    refine e_getR (q := 55) (ci := 9) (k := 5) (y := 60) (C := RX9) (T := TX9) (N := 52) (pc := 9) dX9_state_9 rfl rfl ev_in9 rfl ul_4_187 ⟨rfl, rfl⟩ rfl ?_
    refine e_iload_n (pc := 12) dX9_state_12 rfl rfl ?_
    refine e_iald (q := 60) (x := (h 60 a1)) (pc := 13) dX9_state_13 rfl Ho.1 rfl ?_
    have Ho := Ho.2
    refine e_goto (pc := 14) (tgt := 18) dX9_state_14 (by decide) ?_
    exact e_top (cif_f (fun z => z c1)) J
theorem c_X9_state (w : WD) (a1 : Int) (h : HP) (K : Int → HP → Prop)  (H : S_X9_state a1 h K) : Ev w Y_X9_state 0 [some (vR 55), some (vI a1)] [] h (rI K) := v_X9_state w a1 h K  H
def S_X9_doubt (a1 : Int) (a2 : Int) (a3 : Int) (h : HP) (K : Int → HP → Prop) : Prop :=
  (((((0 ≤ a1 ∧ a1 ≤ 15)) ∧ (((0 ≤ a2 ∧ a2 ≤ 15)) ∧ ((¬ a1 = a2) ∧ ((0 ≤ a3 ∧ a3 ≤ 9))))) → ((iR (16 * a1)) ∧ ((iR ((16 * a1) + a2)) ∧ ((0 ≤ ((16 * a1) + a2) ∧ ((16 * a1) + a2) < 256) ∧ ((iR (16 * a1)) ∧ ((iR ((16 * a1) + a2)) ∧ ((0 ≤ ((16 * a1) + a2) ∧ ((16 * a1) + a2) < 256) ∧ K (h 63 ((16 * a1) + a2)) (sth h 63 ((16 * a1) + a2) a3)))))))) ∧ (¬ (((0 ≤ a1 ∧ a1 ≤ 15)) ∧ (((0 ≤ a2 ∧ a2 ≤ 15)) ∧ ((¬ a1 = a2) ∧ ((0 ≤ a3 ∧ a3 ≤ 9))))) → K (-1) h))
set_option maxRecDepth 100000 in
set_option maxHeartbeats 4000000 in
theorem v_X9_doubt (w : WD) (a1 : Int) (a2 : Int) (a3 : Int) (h : HP) (K : Int → HP → Prop) 
    (H : (((((0 ≤ a1 ∧ a1 ≤ 15)) ∧ (((0 ≤ a2 ∧ a2 ≤ 15)) ∧ ((¬ a1 = a2) ∧ ((0 ≤ a3 ∧ a3 ≤ 9))))) → ((iR (16 * a1)) ∧ ((iR ((16 * a1) + a2)) ∧ ((0 ≤ ((16 * a1) + a2) ∧ ((16 * a1) + a2) < 256) ∧ ((iR (16 * a1)) ∧ ((iR ((16 * a1) + a2)) ∧ ((0 ≤ ((16 * a1) + a2) ∧ ((16 * a1) + a2) < 256) ∧ K (h 63 ((16 * a1) + a2)) (sth h 63 ((16 * a1) + a2) a3)))))))) ∧ (¬ (((0 ≤ a1 ∧ a1 ≤ 15)) ∧ (((0 ≤ a2 ∧ a2 ≤ 15)) ∧ ((¬ a1 = a2) ∧ ((0 ≤ a3 ∧ a3 ≤ 9))))) → K (-1) h))) :
    Ev w Y_X9_doubt 0 [some (vR 55), some (vI a1), some (vI a2), some (vI a3), none] [] h (rI K) := by
  refine e_iload_n (pc := 0) dX9_doubt_0 rfl rfl ?_
  refine e_i2l (pc := 1) dX9_doubt_1 ?_
  refine e_lconst (x := 0) (pc := 2) dX9_doubt_2 ⟨by decide, by decide⟩ (by decide) ?_
  refine e_ldc2 (x := 15) (pc := 3) dX9_doubt_3 ul_5_127 ⟨by decide, by decide⟩ ?_
  refine e_invS (pc := 6) (Y' := Y_X9_in) (as := [vL a1, vL 0, vL 15]) (st := []) (lv0 := [some (vL a1), none, some (vL 0), none, some (vL 15), none]) dX9_doubt_6 m_X9_in ul_5_104 ul_5_105 ⟨rfl, rfl⟩ rfl rfl rfl rfl rfl (c_X9_in w a1 0 15 h) ?_
  rintro _ hz ⟨_, rfl, rfl, hh⟩
  rw [hh]
  show Ev w Y_X9_doubt 9 [some (vR 55), some (vI a1), some (vI a2), some (vI a3), none] [vI (b2i (0 ≤ a1 ∧ a1 ≤ 15))] h (rI K)
  have J1 : (((0 ≤ a1 ∧ a1 ≤ 15)) ∧ (((0 ≤ a2 ∧ a2 ≤ 15)) ∧ ((¬ a1 = a2) ∧ ((0 ≤ a3 ∧ a3 ≤ 9))))) → Ev w Y_X9_doubt 43 [some (vR 55), some (vI a1), some (vI a2), some (vI a3), none] [] h (rI K) := by
    intro hp
    have H := H.1 hp
    refine e_aload_n (pc := 43) dX9_doubt_43 rfl rfl ?_
    refine e_getR (q := 55) (ci := 9) (k := 9) (y := 63) (C := RX9) (T := TX9) (N := 52) (pc := 44) dX9_doubt_44 rfl rfl ev_in9 rfl ul_4_191 ⟨rfl, rfl⟩ rfl ?_
    refine e_bipush (pc := 47) dX9_doubt_47 ⟨by decide, by decide⟩ (by decide) ?_
    refine e_iload_n (pc := 49) dX9_doubt_49 rfl rfl ?_
    refine e_imul (pc := 50) dX9_doubt_50 H.1 ?_
    have H := H.2
    refine e_iload_n (pc := 51) dX9_doubt_51 rfl rfl ?_
    refine e_iadd (pc := 52) dX9_doubt_52 H.1 ?_
    have H := H.2
    refine e_iald (q := 63) (x := (h 63 ((16 * a1) + a2))) (pc := 53) dX9_doubt_53 rfl H.1 rfl ?_
    have H := H.2
    refine e_istore (lv' := [some (vR 55), some (vI a1), some (vI a2), some (vI a3), some (vI (h 63 ((16 * a1) + a2)))]) (pc := 54) dX9_doubt_54 rfl rfl ?_
    refine e_aload_n (pc := 56) dX9_doubt_56 rfl rfl ?_
    refine e_getR (q := 55) (ci := 9) (k := 9) (y := 63) (C := RX9) (T := TX9) (N := 52) (pc := 57) dX9_doubt_57 rfl rfl ev_in9 rfl ul_4_191 ⟨rfl, rfl⟩ rfl ?_
    refine e_bipush (pc := 60) dX9_doubt_60 ⟨by decide, by decide⟩ (by decide) ?_
    refine e_iload_n (pc := 62) dX9_doubt_62 rfl rfl ?_
    refine e_imul (pc := 63) dX9_doubt_63 H.1 ?_
    have H := H.2
    refine e_iload_n (pc := 64) dX9_doubt_64 rfl rfl ?_
    refine e_iadd (pc := 65) dX9_doubt_65 H.1 ?_
    have H := H.2
    refine e_iload_n (pc := 66) dX9_doubt_66 rfl rfl ?_
    refine e_iast (q := 63) (pc := 67) dX9_doubt_67 rfl H.1 ?_
    have H := H.2
    refine e_iload (pc := 68) dX9_doubt_68 rfl ?_
    exact e_ret (pc := 70) (v := some (vI (h 63 ((16 * a1) + a2)))) dX9_doubt_70 rfl trivial ⟨_, rfl, H⟩
  have J2 : ¬ (((0 ≤ a1 ∧ a1 ≤ 15)) ∧ (((0 ≤ a2 ∧ a2 ≤ 15)) ∧ ((¬ a1 = a2) ∧ ((0 ≤ a3 ∧ a3 ≤ 9))))) → Ev w Y_X9_doubt 41 [some (vR 55), some (vI a1), some (vI a2), some (vI a3), none] [] h (rI K) := by
    intro hp
    have H := H.2 hp
    refine e_iconst (pc := 41) dX9_doubt_41 ⟨by decide, by decide⟩ ?_
    exact e_ret (pc := 42) (v := some (vI (-1))) dX9_doubt_42 rfl trivial ⟨_, rfl, H⟩
  refine e_ifb_eq (pc := 9) (tgt := 41) dX9_doubt_9 (by decide) (fun c1 => ?_) (fun c1 => ?_)
  · exact J2 (fun z => c1 z.1)
  · refine e_iload_n (pc := 12) dX9_doubt_12 rfl rfl ?_
    refine e_i2l (pc := 13) dX9_doubt_13 ?_
    refine e_lconst (x := 0) (pc := 14) dX9_doubt_14 ⟨by decide, by decide⟩ (by decide) ?_
    refine e_ldc2 (x := 15) (pc := 15) dX9_doubt_15 ul_5_127 ⟨by decide, by decide⟩ ?_
    refine e_invS (pc := 18) (Y' := Y_X9_in) (as := [vL a2, vL 0, vL 15]) (st := []) (lv0 := [some (vL a2), none, some (vL 0), none, some (vL 15), none]) dX9_doubt_18 m_X9_in ul_5_104 ul_5_105 ⟨rfl, rfl⟩ rfl rfl rfl rfl rfl (c_X9_in w a2 0 15 h) ?_
    rintro _ hz ⟨_, rfl, rfl, hh⟩
    rw [hh]
    show Ev w Y_X9_doubt 21 [some (vR 55), some (vI a1), some (vI a2), some (vI a3), none] [vI (b2i (0 ≤ a2 ∧ a2 ≤ 15))] h (rI K)
    refine e_ifb_eq (pc := 21) (tgt := 41) dX9_doubt_21 (by decide) (fun c2 => ?_) (fun c2 => ?_)
    · exact J2 (fun z => (fun z => c2 z.1) z.2)
    · refine e_iload_n (pc := 24) dX9_doubt_24 rfl rfl ?_
      refine e_iload_n (pc := 25) dX9_doubt_25 rfl rfl ?_
      refine e_icmp_eq (pc := 26) (tgt := 41) dX9_doubt_26 (by decide) (fun c3 => ?_) (fun c3 => ?_)
      · exact J2 (fun z => (fun z => (fun z => (fun z => z c3) z.1) z.2) z.2)
      · refine e_iload_n (pc := 29) dX9_doubt_29 rfl rfl ?_
        refine e_i2l (pc := 30) dX9_doubt_30 ?_
        refine e_lconst (x := 0) (pc := 31) dX9_doubt_31 ⟨by decide, by decide⟩ (by decide) ?_
        refine e_ldc2 (x := 9) (pc := 32) dX9_doubt_32 ul_5_128 ⟨by decide, by decide⟩ ?_
        refine e_invS (pc := 35) (Y' := Y_X9_in) (as := [vL a3, vL 0, vL 9]) (st := []) (lv0 := [some (vL a3), none, some (vL 0), none, some (vL 9), none]) dX9_doubt_35 m_X9_in ul_5_104 ul_5_105 ⟨rfl, rfl⟩ rfl rfl rfl rfl rfl (c_X9_in w a3 0 9 h) ?_
        rintro _ hz ⟨_, rfl, rfl, hh⟩
        rw [hh]
        show Ev w Y_X9_doubt 38 [some (vR 55), some (vI a1), some (vI a2), some (vI a3), none] [vI (b2i (0 ≤ a3 ∧ a3 ≤ 9))] h (rI K)
        refine e_ifb_ne (pc := 38) (tgt := 43) dX9_doubt_38 (by decide) (fun c4 => ?_) (fun c4 => ?_)
        · exact J1 ⟨c1, ⟨c2, ⟨c3, c4⟩⟩⟩
        · exact J2 (fun z => (fun z => (fun z => c4 z.2) z.2) z.2)
theorem c_X9_doubt (w : WD) (a1 : Int) (a2 : Int) (a3 : Int) (h : HP) (K : Int → HP → Prop)  (H : S_X9_doubt a1 a2 a3 h K) : Ev w Y_X9_doubt 0 [some (vR 55), some (vI a1), some (vI a2), some (vI a3), none] [] h (rI K) := v_X9_doubt w a1 a2 a3 h K  H
def S_X9_rule (a1 : Int) (a2 : Int) (h : HP) (K : Int → HP → Prop) : Prop :=
  ((¬ (0 ≤ a1 ∧ a1 ≤ 2) → K (-1) h) ∧ ((0 ≤ a1 ∧ a1 ≤ 2) → ((¬ a1 = 0 → ((¬ a1 = 1 → (((0 ≤ a2 ∧ a2 ≤ 100) → ((0 ≤ a1 ∧ a1 < 3) ∧ ((0 ≤ a1 ∧ a1 < 3) ∧ K (h 68 a1) (sth h 68 a1 a2)))) ∧ (¬ (0 ≤ a2 ∧ a2 ≤ 100) → K (-1) h))) ∧ (a1 = 1 → (((0 ≤ a2 ∧ a2 ≤ 20) → ((0 ≤ a1 ∧ a1 < 3) ∧ ((0 ≤ a1 ∧ a1 < 3) ∧ K (h 68 a1) (sth h 68 a1 a2)))) ∧ (¬ (0 ≤ a2 ∧ a2 ≤ 20) → K (-1) h))))) ∧ (a1 = 0 → (((0 ≤ a2 ∧ a2 ≤ 50) → ((0 ≤ a1 ∧ a1 < 3) ∧ ((0 ≤ a1 ∧ a1 < 3) ∧ K (h 68 a1) (sth h 68 a1 a2)))) ∧ (¬ (0 ≤ a2 ∧ a2 ≤ 50) → K (-1) h))))))
set_option maxRecDepth 100000 in
set_option maxHeartbeats 4000000 in
theorem v_X9_rule (w : WD) (a1 : Int) (a2 : Int) (h : HP) (K : Int → HP → Prop) 
    (H : ((¬ (0 ≤ a1 ∧ a1 ≤ 2) → K (-1) h) ∧ ((0 ≤ a1 ∧ a1 ≤ 2) → ((¬ a1 = 0 → ((¬ a1 = 1 → (((0 ≤ a2 ∧ a2 ≤ 100) → ((0 ≤ a1 ∧ a1 < 3) ∧ ((0 ≤ a1 ∧ a1 < 3) ∧ K (h 68 a1) (sth h 68 a1 a2)))) ∧ (¬ (0 ≤ a2 ∧ a2 ≤ 100) → K (-1) h))) ∧ (a1 = 1 → (((0 ≤ a2 ∧ a2 ≤ 20) → ((0 ≤ a1 ∧ a1 < 3) ∧ ((0 ≤ a1 ∧ a1 < 3) ∧ K (h 68 a1) (sth h 68 a1 a2)))) ∧ (¬ (0 ≤ a2 ∧ a2 ≤ 20) → K (-1) h))))) ∧ (a1 = 0 → (((0 ≤ a2 ∧ a2 ≤ 50) → ((0 ≤ a1 ∧ a1 < 3) ∧ ((0 ≤ a1 ∧ a1 < 3) ∧ K (h 68 a1) (sth h 68 a1 a2)))) ∧ (¬ (0 ≤ a2 ∧ a2 ≤ 50) → K (-1) h))))))) :
    Ev w Y_X9_rule 0 [some (vR 55), some (vI a1), some (vI a2), none] [] h (rI K) := by
  refine e_iload_n (pc := 0) dX9_rule_0 rfl rfl ?_
  refine e_i2l (pc := 1) dX9_rule_1 ?_
  refine e_lconst (x := 0) (pc := 2) dX9_rule_2 ⟨by decide, by decide⟩ (by decide) ?_
  refine e_ldc2 (x := 2) (pc := 3) dX9_rule_3 ul_5_137 ⟨by decide, by decide⟩ ?_
  refine e_invS (pc := 6) (Y' := Y_X9_in) (as := [vL a1, vL 0, vL 2]) (st := []) (lv0 := [some (vL a1), none, some (vL 0), none, some (vL 2), none]) dX9_rule_6 m_X9_in ul_5_104 ul_5_105 ⟨rfl, rfl⟩ rfl rfl rfl rfl rfl (c_X9_in w a1 0 2 h) ?_
  rintro _ hz ⟨_, rfl, rfl, hh⟩
  rw [hh]
  show Ev w Y_X9_rule 9 [some (vR 55), some (vI a1), some (vI a2), none] [vI (b2i (0 ≤ a1 ∧ a1 ≤ 2))] h (rI K)
  refine e_ifb_eq (pc := 9) (tgt := 45) dX9_rule_9 (by decide) (fun c1 => ?_) (fun c1 => ?_)
  · have H := H.1 c1
    refine e_iconst (pc := 45) dX9_rule_45 ⟨by decide, by decide⟩ ?_
    exact e_ret (pc := 46) (v := some (vI (-1))) dX9_rule_46 rfl trivial ⟨_, rfl, H⟩
  · have H := H.2 c1
    refine e_iload_n (pc := 12) dX9_rule_12 rfl rfl ?_
    refine e_i2l (pc := 13) dX9_rule_13 ?_
    refine e_lconst (x := 0) (pc := 14) dX9_rule_14 ⟨by decide, by decide⟩ (by decide) ?_
    refine e_iload_n (pc := 15) dX9_rule_15 rfl rfl ?_
    refine e_if_ne (pc := 16) (tgt := 25) dX9_rule_16 (by decide) (fun c2 => ?_) (fun c2 => ?_)
    · have H := H.1 c2
      refine e_iload_n (pc := 25) dX9_rule_25 rfl rfl ?_
      refine e_iconst (pc := 26) dX9_rule_26 ⟨by decide, by decide⟩ ?_
      refine e_icmp_ne (pc := 27) (tgt := 36) dX9_rule_27 (by decide) (fun c3 => ?_) (fun c3 => ?_)
      · have H := H.1 c3
        refine e_ldc2 (x := 100) (pc := 36) dX9_rule_36 ul_5_108 ⟨by decide, by decide⟩ ?_
        refine e_invS (pc := 39) (Y' := Y_X9_in) (as := [vL a2, vL 0, vL 100]) (st := []) (lv0 := [some (vL a2), none, some (vL 0), none, some (vL 100), none]) dX9_rule_39 m_X9_in ul_5_104 ul_5_105 ⟨rfl, rfl⟩ rfl rfl rfl rfl rfl (c_X9_in w a2 0 100 h) ?_
        rintro _ hz ⟨_, rfl, rfl, hh⟩
        rw [hh]
        show Ev w Y_X9_rule 42 [some (vR 55), some (vI a1), some (vI a2), none] [vI (b2i (0 ≤ a2 ∧ a2 ≤ 100))] h (rI K)
        refine e_ifb_ne (pc := 42) (tgt := 47) dX9_rule_42 (by decide) (fun c4 => ?_) (fun c4 => ?_)
        · have H := H.1 c4
          refine e_aload_n (pc := 47) dX9_rule_47 rfl rfl ?_
          refine e_getR (q := 55) (ci := 9) (k := 15) (y := 68) (C := RX9) (T := TX9) (N := 52) (pc := 48) dX9_rule_48 rfl rfl ev_in9 rfl ul_4_197 ⟨rfl, rfl⟩ rfl ?_
          refine e_iload_n (pc := 51) dX9_rule_51 rfl rfl ?_
          refine e_iald (q := 68) (x := (h 68 a1)) (pc := 52) dX9_rule_52 rfl H.1 rfl ?_
          have H := H.2
          refine e_istore_n (lv' := [some (vR 55), some (vI a1), some (vI a2), some (vI (h 68 a1))]) (pc := 53) dX9_rule_53 rfl rfl rfl ?_
          refine e_aload_n (pc := 54) dX9_rule_54 rfl rfl ?_
          refine e_getR (q := 55) (ci := 9) (k := 15) (y := 68) (C := RX9) (T := TX9) (N := 52) (pc := 55) dX9_rule_55 rfl rfl ev_in9 rfl ul_4_197 ⟨rfl, rfl⟩ rfl ?_
          refine e_iload_n (pc := 58) dX9_rule_58 rfl rfl ?_
          refine e_iload_n (pc := 59) dX9_rule_59 rfl rfl ?_
          refine e_iast (q := 68) (pc := 60) dX9_rule_60 rfl H.1 ?_
          have H := H.2
          refine e_iload_n (pc := 61) dX9_rule_61 rfl rfl ?_
          exact e_ret (pc := 62) (v := some (vI (h 68 a1))) dX9_rule_62 rfl trivial ⟨_, rfl, H⟩
        · have H := H.2 c4
          refine e_iconst (pc := 45) dX9_rule_45 ⟨by decide, by decide⟩ ?_
          exact e_ret (pc := 46) (v := some (vI (-1))) dX9_rule_46 rfl trivial ⟨_, rfl, H⟩
      · have H := H.2 c3
        refine e_ldc2 (x := 20) (pc := 30) dX9_rule_30 ul_5_139 ⟨by decide, by decide⟩ ?_
        refine e_goto (pc := 33) (tgt := 39) dX9_rule_33 (by decide) ?_
        refine e_invS (pc := 39) (Y' := Y_X9_in) (as := [vL a2, vL 0, vL 20]) (st := []) (lv0 := [some (vL a2), none, some (vL 0), none, some (vL 20), none]) dX9_rule_39 m_X9_in ul_5_104 ul_5_105 ⟨rfl, rfl⟩ rfl rfl rfl rfl rfl (c_X9_in w a2 0 20 h) ?_
        rintro _ hz ⟨_, rfl, rfl, hh⟩
        rw [hh]
        show Ev w Y_X9_rule 42 [some (vR 55), some (vI a1), some (vI a2), none] [vI (b2i (0 ≤ a2 ∧ a2 ≤ 20))] h (rI K)
        refine e_ifb_ne (pc := 42) (tgt := 47) dX9_rule_42 (by decide) (fun c5 => ?_) (fun c5 => ?_)
        · have H := H.1 c5
          refine e_aload_n (pc := 47) dX9_rule_47 rfl rfl ?_
          refine e_getR (q := 55) (ci := 9) (k := 15) (y := 68) (C := RX9) (T := TX9) (N := 52) (pc := 48) dX9_rule_48 rfl rfl ev_in9 rfl ul_4_197 ⟨rfl, rfl⟩ rfl ?_
          refine e_iload_n (pc := 51) dX9_rule_51 rfl rfl ?_
          refine e_iald (q := 68) (x := (h 68 a1)) (pc := 52) dX9_rule_52 rfl H.1 rfl ?_
          have H := H.2
          refine e_istore_n (lv' := [some (vR 55), some (vI a1), some (vI a2), some (vI (h 68 a1))]) (pc := 53) dX9_rule_53 rfl rfl rfl ?_
          refine e_aload_n (pc := 54) dX9_rule_54 rfl rfl ?_
          refine e_getR (q := 55) (ci := 9) (k := 15) (y := 68) (C := RX9) (T := TX9) (N := 52) (pc := 55) dX9_rule_55 rfl rfl ev_in9 rfl ul_4_197 ⟨rfl, rfl⟩ rfl ?_
          refine e_iload_n (pc := 58) dX9_rule_58 rfl rfl ?_
          refine e_iload_n (pc := 59) dX9_rule_59 rfl rfl ?_
          refine e_iast (q := 68) (pc := 60) dX9_rule_60 rfl H.1 ?_
          have H := H.2
          refine e_iload_n (pc := 61) dX9_rule_61 rfl rfl ?_
          exact e_ret (pc := 62) (v := some (vI (h 68 a1))) dX9_rule_62 rfl trivial ⟨_, rfl, H⟩
        · have H := H.2 c5
          refine e_iconst (pc := 45) dX9_rule_45 ⟨by decide, by decide⟩ ?_
          exact e_ret (pc := 46) (v := some (vI (-1))) dX9_rule_46 rfl trivial ⟨_, rfl, H⟩
    · have H := H.2 c2
      refine e_ldc2 (x := 50) (pc := 19) dX9_rule_19 ul_5_138 ⟨by decide, by decide⟩ ?_
      refine e_goto (pc := 22) (tgt := 39) dX9_rule_22 (by decide) ?_
      refine e_invS (pc := 39) (Y' := Y_X9_in) (as := [vL a2, vL 0, vL 50]) (st := []) (lv0 := [some (vL a2), none, some (vL 0), none, some (vL 50), none]) dX9_rule_39 m_X9_in ul_5_104 ul_5_105 ⟨rfl, rfl⟩ rfl rfl rfl rfl rfl (c_X9_in w a2 0 50 h) ?_
      rintro _ hz ⟨_, rfl, rfl, hh⟩
      rw [hh]
      show Ev w Y_X9_rule 42 [some (vR 55), some (vI a1), some (vI a2), none] [vI (b2i (0 ≤ a2 ∧ a2 ≤ 50))] h (rI K)
      refine e_ifb_ne (pc := 42) (tgt := 47) dX9_rule_42 (by decide) (fun c6 => ?_) (fun c6 => ?_)
      · have H := H.1 c6
        refine e_aload_n (pc := 47) dX9_rule_47 rfl rfl ?_
        refine e_getR (q := 55) (ci := 9) (k := 15) (y := 68) (C := RX9) (T := TX9) (N := 52) (pc := 48) dX9_rule_48 rfl rfl ev_in9 rfl ul_4_197 ⟨rfl, rfl⟩ rfl ?_
        refine e_iload_n (pc := 51) dX9_rule_51 rfl rfl ?_
        refine e_iald (q := 68) (x := (h 68 a1)) (pc := 52) dX9_rule_52 rfl H.1 rfl ?_
        have H := H.2
        refine e_istore_n (lv' := [some (vR 55), some (vI a1), some (vI a2), some (vI (h 68 a1))]) (pc := 53) dX9_rule_53 rfl rfl rfl ?_
        refine e_aload_n (pc := 54) dX9_rule_54 rfl rfl ?_
        refine e_getR (q := 55) (ci := 9) (k := 15) (y := 68) (C := RX9) (T := TX9) (N := 52) (pc := 55) dX9_rule_55 rfl rfl ev_in9 rfl ul_4_197 ⟨rfl, rfl⟩ rfl ?_
        refine e_iload_n (pc := 58) dX9_rule_58 rfl rfl ?_
        refine e_iload_n (pc := 59) dX9_rule_59 rfl rfl ?_
        refine e_iast (q := 68) (pc := 60) dX9_rule_60 rfl H.1 ?_
        have H := H.2
        refine e_iload_n (pc := 61) dX9_rule_61 rfl rfl ?_
        exact e_ret (pc := 62) (v := some (vI (h 68 a1))) dX9_rule_62 rfl trivial ⟨_, rfl, H⟩
      · have H := H.2 c6
        refine e_iconst (pc := 45) dX9_rule_45 ⟨by decide, by decide⟩ ?_
        exact e_ret (pc := 46) (v := some (vI (-1))) dX9_rule_46 rfl trivial ⟨_, rfl, H⟩
theorem c_X9_rule (w : WD) (a1 : Int) (a2 : Int) (h : HP) (K : Int → HP → Prop)  (H : S_X9_rule a1 a2 h K) : Ev w Y_X9_rule 0 [some (vR 55), some (vI a1), some (vI a2), none] [] h (rI K) := v_X9_rule w a1 a2 h K  H
def S_X9_may (a1 : Int) (a2 : Int) (a3 : Int) (h : HP) (K : Int → HP → Prop) : Prop :=
  ((((¬ (0 ≤ a1 ∧ a1 ≤ 6) → True) ∧ ((0 ≤ a1 ∧ a1 ≤ 6) → ((0 ≤ h 55 0 ∧ h 55 0 ≤ 10) ∧ True)))) ∧ (((((0 ≤ a1 ∧ a1 ≤ 6)) ∧ (((0 ≤ a2 ∧ a2 < h 55 0)) ∧ ((0 ≤ a3 ∧ a3 ≤ 23)))) → ((mfOK h ∧ 0 ≤ a2 ∧ a2 < 10) ∧ K (b2i ((∃ k : Int, 0 ≤ k ∧ k < h 70 1 ∧ mLet h k a1 a2 a3))) h)) ∧ (¬ (((0 ≤ a1 ∧ a1 ≤ 6)) ∧ (((0 ≤ a2 ∧ a2 < h 55 0)) ∧ ((0 ≤ a3 ∧ a3 ≤ 23)))) → K (-1) h)))
set_option maxRecDepth 100000 in
set_option maxHeartbeats 4000000 in
theorem v_X9_may (w : WD) (a1 : Int) (a2 : Int) (a3 : Int) (h : HP) (K : Int → HP → Prop) 
    (H : ((((¬ (0 ≤ a1 ∧ a1 ≤ 6) → True) ∧ ((0 ≤ a1 ∧ a1 ≤ 6) → ((0 ≤ h 55 0 ∧ h 55 0 ≤ 10) ∧ True)))) ∧ (((((0 ≤ a1 ∧ a1 ≤ 6)) ∧ (((0 ≤ a2 ∧ a2 < h 55 0)) ∧ ((0 ≤ a3 ∧ a3 ≤ 23)))) → ((mfOK h ∧ 0 ≤ a2 ∧ a2 < 10) ∧ K (b2i ((∃ k : Int, 0 ≤ k ∧ k < h 70 1 ∧ mLet h k a1 a2 a3))) h)) ∧ (¬ (((0 ≤ a1 ∧ a1 ≤ 6)) ∧ (((0 ≤ a2 ∧ a2 < h 55 0)) ∧ ((0 ≤ a3 ∧ a3 ≤ 23)))) → K (-1) h)))) :
    Ev w Y_X9_may 0 [some (vR 55), some (vI a1), some (vI a2), some (vI a3)] [] h (rI K) := by
  refine e_iload_n (pc := 0) dX9_may_0 rfl rfl ?_
  refine e_i2l (pc := 1) dX9_may_1 ?_
  refine e_lconst (x := 0) (pc := 2) dX9_may_2 ⟨by decide, by decide⟩ (by decide) ?_
  refine e_ldc2 (x := 6) (pc := 3) dX9_may_3 ul_5_168 ⟨by decide, by decide⟩ ?_
  refine e_invS (pc := 6) (Y' := Y_X9_in) (as := [vL a1, vL 0, vL 6]) (st := []) (lv0 := [some (vL a1), none, some (vL 0), none, some (vL 6), none]) dX9_may_6 m_X9_in ul_5_104 ul_5_105 ⟨rfl, rfl⟩ rfl rfl rfl rfl rfl (c_X9_in w a1 0 6 h) ?_
  rintro _ hz ⟨_, rfl, rfl, hh⟩
  rw [hh]
  show Ev w Y_X9_may 9 [some (vR 55), some (vI a1), some (vI a2), some (vI a3)] [vI (b2i (0 ≤ a1 ∧ a1 ≤ 6))] h (rI K)
  have Ho := H.1
  have H := H.2
  have J1 : (((0 ≤ a1 ∧ a1 ≤ 6)) ∧ (((0 ≤ a2 ∧ a2 < h 55 0)) ∧ ((0 ≤ a3 ∧ a3 ≤ 23)))) → Ev w Y_X9_may 34 [some (vR 55), some (vI a1), some (vI a2), some (vI a3)] [] h (rI K) := by
    intro hp
    have H := H.1 hp
    refine e_aload_n (pc := 34) dX9_may_34 rfl rfl ?_
    refine e_iload_n (pc := 35) dX9_may_35 rfl rfl ?_
    refine e_iload_n (pc := 36) dX9_may_36 rfl rfl ?_
    refine e_iload_n (pc := 37) dX9_may_37 rfl rfl ?_
    refine e_invV (pc := 38) (Y' := Y_X9_mayTurn) (as := [vI a1, vI a2, vI a3]) (st := []) (lv0 := [some (vR 55), some (vI a1), some (vI a2), some (vI a3), none, none, none, none]) (q := 55) (ci := 9) (T := TX9) (N := 52) dX9_may_38 m_X9_mayTurn ul_5_178 ⟨ul_5_180, us_X9_mayTurn⟩ ⟨rfl, rfl⟩ rfl rfl rfl rfl rfl rfl rfl (c_X9_mayTurn w a1 a2 a3 h H.1) ?_
    rintro _ hz ⟨_, rfl, rfl, hh⟩
    rw [hh]
    show Ev w Y_X9_may 41 [some (vR 55), some (vI a1), some (vI a2), some (vI a3)] [vI (b2i (∃ k : Int, 0 ≤ k ∧ k < h 70 1 ∧ mLet h k a1 a2 a3))] h (rI K)
    have H := H.2
    have J : Ev w Y_X9_may 49 [some (vR 55), some (vI a1), some (vI a2), some (vI a3)] [vI (b2i ((∃ k : Int, 0 ≤ k ∧ k < h 70 1 ∧ mLet h k a1 a2 a3)))] h (rI K) := by
      exact e_ret (pc := 49) (v := some (vI (b2i ((∃ k : Int, 0 ≤ k ∧ k < h 70 1 ∧ mLet h k a1 a2 a3))))) dX9_may_49 rfl trivial ⟨_, rfl, H⟩
    refine e_ifb_eq (pc := 41) (tgt := 48) dX9_may_41 (by decide) (fun c1 => ?_) (fun c1 => ?_)
    · refine e_iconst (pc := 48) dX9_may_48 ⟨by decide, by decide⟩ ?_
      exact e_top (b2i_f c1) J
    · refine e_iconst (pc := 44) dX9_may_44 ⟨by decide, by decide⟩ ?_
      refine e_goto (pc := 45) (tgt := 49) dX9_may_45 (by decide) ?_
      exact e_top (b2i_t c1) J
  have J2 : ¬ (((0 ≤ a1 ∧ a1 ≤ 6)) ∧ (((0 ≤ a2 ∧ a2 < h 55 0)) ∧ ((0 ≤ a3 ∧ a3 ≤ 23)))) → Ev w Y_X9_may 32 [some (vR 55), some (vI a1), some (vI a2), some (vI a3)] [] h (rI K) := by
    intro hp
    have H := H.2 hp
    refine e_iconst (pc := 32) dX9_may_32 ⟨by decide, by decide⟩ ?_
    exact e_ret (pc := 33) (v := some (vI (-1))) dX9_may_33 rfl trivial ⟨_, rfl, H⟩
  refine e_ifb_eq (pc := 9) (tgt := 32) dX9_may_9 (by decide) (fun c2 => ?_) (fun c2 => ?_)
  · have Ho := Ho.1 c2
    exact J2 (fun z => c2 z.1)
  · have Ho := Ho.2 c2
    refine e_aload_n (pc := 12) dX9_may_12 rfl rfl ?_
    refine e_iload_n (pc := 13) dX9_may_13 rfl rfl ?_
    refine e_invV (pc := 14) (Y' := Y_X9_isThing) (as := [vI a2]) (st := []) (lv0 := [some (vR 55), some (vI a2)]) (q := 55) (ci := 9) (T := TX9) (N := 52) dX9_may_14 m_X9_isThing ul_5_119 ⟨ul_5_121, us_X9_isThing⟩ ⟨rfl, rfl⟩ rfl rfl rfl rfl rfl rfl rfl (c_X9_isThing w a2 h Ho.1) ?_
    rintro _ hz ⟨_, rfl, rfl, hh⟩
    rw [hh]
    show Ev w Y_X9_may 17 [some (vR 55), some (vI a1), some (vI a2), some (vI a3)] [vI (b2i (0 ≤ a2 ∧ a2 < h 55 0))] h (rI K)
    have Ho := Ho.2
    refine e_ifb_eq (pc := 17) (tgt := 32) dX9_may_17 (by decide) (fun c3 => ?_) (fun c3 => ?_)
    · exact J2 (fun z => (fun z => c3 z.1) z.2)
    · refine e_iload_n (pc := 20) dX9_may_20 rfl rfl ?_
      refine e_i2l (pc := 21) dX9_may_21 ?_
      refine e_lconst (x := 0) (pc := 22) dX9_may_22 ⟨by decide, by decide⟩ (by decide) ?_
      refine e_ldc2 (x := 23) (pc := 23) dX9_may_23 ul_5_169 ⟨by decide, by decide⟩ ?_
      refine e_invS (pc := 26) (Y' := Y_X9_in) (as := [vL a3, vL 0, vL 23]) (st := []) (lv0 := [some (vL a3), none, some (vL 0), none, some (vL 23), none]) dX9_may_26 m_X9_in ul_5_104 ul_5_105 ⟨rfl, rfl⟩ rfl rfl rfl rfl rfl (c_X9_in w a3 0 23 h) ?_
      rintro _ hz ⟨_, rfl, rfl, hh⟩
      rw [hh]
      show Ev w Y_X9_may 29 [some (vR 55), some (vI a1), some (vI a2), some (vI a3)] [vI (b2i (0 ≤ a3 ∧ a3 ≤ 23))] h (rI K)
      refine e_ifb_ne (pc := 29) (tgt := 34) dX9_may_29 (by decide) (fun c4 => ?_) (fun c4 => ?_)
      · exact J1 ⟨c2, ⟨c3, c4⟩⟩
      · exact J2 (fun z => (fun z => c4 z.2) z.2)
theorem c_X9_may (w : WD) (a1 : Int) (a2 : Int) (a3 : Int) (h : HP) (K : Int → HP → Prop)  (H : S_X9_may a1 a2 a3 h K) : Ev w Y_X9_may 0 [some (vR 55), some (vI a1), some (vI a2), some (vI a3)] [] h (rI K) := v_X9_may w a1 a2 a3 h K  H
def S_X9_why (a1 : Int) (h : HP) (K : Int → HP → Prop) : Prop :=
  ((0 ≤ h 55 0 ∧ h 55 0 ≤ 10) ∧ ((((¬ (0 ≤ a1 ∧ a1 < h 55 0) → True) ∧ ((0 ≤ a1 ∧ a1 < h 55 0) → ((0 ≤ a1 ∧ a1 < 10) ∧ True)))) ∧ K (cif (¬ (0 ≤ a1 ∧ a1 < h 55 0)) (-1) (h 61 a1)) h))
set_option maxRecDepth 100000 in
set_option maxHeartbeats 4000000 in
theorem v_X9_why (w : WD) (a1 : Int) (h : HP) (K : Int → HP → Prop) 
    (H : ((0 ≤ h 55 0 ∧ h 55 0 ≤ 10) ∧ ((((¬ (0 ≤ a1 ∧ a1 < h 55 0) → True) ∧ ((0 ≤ a1 ∧ a1 < h 55 0) → ((0 ≤ a1 ∧ a1 < 10) ∧ True)))) ∧ K (cif (¬ (0 ≤ a1 ∧ a1 < h 55 0)) (-1) (h 61 a1)) h))) :
    Ev w Y_X9_why 0 [some (vR 55), some (vI a1)] [] h (rI K) := by
  refine e_aload_n (pc := 0) dX9_why_0 rfl rfl ?_
  refine e_iload_n (pc := 1) dX9_why_1 rfl rfl ?_
  refine e_invV (pc := 2) (Y' := Y_X9_isThing) (as := [vI a1]) (st := []) (lv0 := [some (vR 55), some (vI a1)]) (q := 55) (ci := 9) (T := TX9) (N := 52) dX9_why_2 m_X9_isThing ul_5_119 ⟨ul_5_121, us_X9_isThing⟩ ⟨rfl, rfl⟩ rfl rfl rfl rfl rfl rfl rfl (c_X9_isThing w a1 h H.1) ?_
  rintro _ hz ⟨_, rfl, rfl, hh⟩
  rw [hh]
  show Ev w Y_X9_why 5 [some (vR 55), some (vI a1)] [vI (b2i (0 ≤ a1 ∧ a1 < h 55 0))] h (rI K)
  have H := H.2
  have J : Ev w Y_X9_why 18 [some (vR 55), some (vI a1)] [vI (cif (¬ (0 ≤ a1 ∧ a1 < h 55 0)) (-1) (h 61 a1))] h (rI K) := by
    have H := H.2
    exact e_ret (pc := 18) (v := some (vI (cif (¬ (0 ≤ a1 ∧ a1 < h 55 0)) (-1) (h 61 a1)))) dX9_why_18 rfl trivial ⟨_, rfl, H⟩
  have Ho := H.1
  refine e_ifb_eq (pc := 5) (tgt := 17) dX9_why_5 (by decide) (fun c1 => ?_) (fun c1 => ?_)
  · have Ho := Ho.1 c1
    refine e_iconst (pc := 17) dX9_why_17 ⟨by decide, by decide⟩ ?_
    exact e_top (cif_t c1) J
  · have Ho := Ho.2 c1
    refine e_aload_n (pc := 8) dX9_why_8 rfl rfl ?_
    refine e_getR (q := 55) (ci := 9) (k := 6) (y := 61) (C := RX9) (T := TX9) (N := 52) (pc := 9) dX9_why_9 rfl rfl ev_in9 rfl ul_4_188 ⟨rfl, rfl⟩ rfl ?_
    refine e_iload_n (pc := 12) dX9_why_12 rfl rfl ?_
    refine e_iald (q := 61) (x := (h 61 a1)) (pc := 13) dX9_why_13 rfl Ho.1 rfl ?_
    have Ho := Ho.2
    refine e_goto (pc := 14) (tgt := 18) dX9_why_14 (by decide) ?_
    exact e_top (cif_f (fun z => z c1)) J
theorem c_X9_why (w : WD) (a1 : Int) (h : HP) (K : Int → HP → Prop)  (H : S_X9_why a1 h K) : Ev w Y_X9_why 0 [some (vR 55), some (vI a1)] [] h (rI K) := v_X9_why w a1 h K  H
def S_X9_count (a1 : Int) (h : HP) (K : Int → HP → Prop) : Prop :=
  ((a1 = 0 → K (h 55 0) h) ∧ ((a1 = 1 → K (h 55 10) h) ∧ ((a1 = 2 → K (h 55 16) h) ∧ ((a1 = 3 → K (h 70 1) h) ∧ ((a1 = 4 → K (h 55 33) h) ∧ ((a1 = 5 → K (h 55 35) h) ∧ ((a1 = 6 → K (h 55 29) h) ∧ ((a1 = 7 → K (h 55 36) h) ∧ ((a1 = 8 → K (h 55 8) h) ∧ ((a1 = 9 → K (h 55 38) h) ∧ ((a1 < 0 ∨ 9 < a1) → K (-1) h)))))))))))
set_option maxRecDepth 100000 in
set_option maxHeartbeats 4000000 in
theorem v_X9_count (w : WD) (a1 : Int) (h : HP) (K : Int → HP → Prop) 
    (H : ((a1 = 0 → K (h 55 0) h) ∧ ((a1 = 1 → K (h 55 10) h) ∧ ((a1 = 2 → K (h 55 16) h) ∧ ((a1 = 3 → K (h 70 1) h) ∧ ((a1 = 4 → K (h 55 33) h) ∧ ((a1 = 5 → K (h 55 35) h) ∧ ((a1 = 6 → K (h 55 29) h) ∧ ((a1 = 7 → K (h 55 36) h) ∧ ((a1 = 8 → K (h 55 8) h) ∧ ((a1 = 9 → K (h 55 38) h) ∧ ((a1 < 0 ∨ 9 < a1) → K (-1) h)))))))))))) :
    Ev w Y_X9_count 0 [some (vR 55), some (vI a1)] [] h (rI K) := by
  refine e_iload_n (pc := 0) dX9_count_0 rfl rfl ?_
  refine e_table (pc := 1) dX9_count_1 (fun c1 => ?_) (fun c2 c3 => ?_)
  · have H := H.2.2.2.2.2.2.2.2.2.2 c1
    refine ⟨108, by decide, ?_⟩
    refine e_iconst (pc := 108) dX9_count_108 ⟨by decide, by decide⟩ ?_
    exact e_ret (pc := 109) (v := some (vI (-1))) dX9_count_109 rfl trivial ⟨_, rfl, H⟩
  · have c1 : a1 = 0 ∨ a1 = 1 ∨ a1 = 2 ∨ a1 = 3 ∨ a1 = 4 ∨ a1 = 5 ∨ a1 = 6 ∨ a1 = 7 ∨ a1 = 8 ∨ a1 = 9 := by omega
    rcases c1 with c1 | c1 | c1 | c1 | c1 | c1 | c1 | c1 | c1 | c1
    · have H := H.1 c1
      refine ⟨55, 56, by rw [c1]; rfl, by decide, ?_⟩
      refine e_aload_n (pc := 56) dX9_count_56 rfl rfl ?_
      refine e_getI (q := 55) (ci := 9) (k := 0) (kz := 0) (C := RX9) (T := TX9) (N := 52) (x := (h 55 0)) (pc := 57) dX9_count_57 rfl rfl rfl ev_in9 rfl ul_4_182 ⟨rfl, by decide⟩ rfl ?_
      exact e_ret (pc := 60) (v := some (vI (h 55 0))) dX9_count_60 rfl trivial ⟨_, rfl, H⟩
    · have H := H.2.1 c1
      refine ⟨60, 61, by rw [c1]; rfl, by decide, ?_⟩
      refine e_aload_n (pc := 61) dX9_count_61 rfl rfl ?_
      refine e_getI (q := 55) (ci := 9) (k := 10) (kz := 10) (C := RX9) (T := TX9) (N := 52) (x := (h 55 10)) (pc := 62) dX9_count_62 rfl rfl rfl ev_in9 rfl ul_4_192 ⟨rfl, by decide⟩ rfl ?_
      exact e_ret (pc := 65) (v := some (vI (h 55 10))) dX9_count_65 rfl trivial ⟨_, rfl, H⟩
    · have H := H.2.2.1 c1
      refine ⟨65, 66, by rw [c1]; rfl, by decide, ?_⟩
      refine e_aload_n (pc := 66) dX9_count_66 rfl rfl ?_
      refine e_getI (q := 55) (ci := 9) (k := 16) (kz := 16) (C := RX9) (T := TX9) (N := 52) (x := (h 55 16)) (pc := 67) dX9_count_67 rfl rfl rfl ev_in9 rfl ul_4_198 ⟨rfl, by decide⟩ rfl ?_
      exact e_ret (pc := 70) (v := some (vI (h 55 16))) dX9_count_70 rfl trivial ⟨_, rfl, H⟩
    · have H := H.2.2.2.1 c1
      refine ⟨70, 71, by rw [c1]; rfl, by decide, ?_⟩
      refine e_aload_n (pc := 71) dX9_count_71 rfl rfl ?_
      refine e_getR (q := 55) (ci := 9) (k := 18) (y := 70) (C := RX9) (T := TX9) (N := 52) (pc := 72) dX9_count_72 rfl rfl ev_in9 rfl ul_4_200 ⟨rfl, rfl⟩ rfl ?_
      refine e_iconst (pc := 75) dX9_count_75 ⟨by decide, by decide⟩ ?_
      refine e_iald (q := 70) (x := (h 70 1)) (pc := 76) dX9_count_76 rfl ⟨by decide, by decide⟩ rfl ?_
      exact e_ret (pc := 77) (v := some (vI (h 70 1))) dX9_count_77 rfl trivial ⟨_, rfl, H⟩
    · have H := H.2.2.2.2.1 c1
      refine ⟨77, 78, by rw [c1]; rfl, by decide, ?_⟩
      refine e_aload_n (pc := 78) dX9_count_78 rfl rfl ?_
      refine e_getI (q := 55) (ci := 9) (k := 33) (kz := 33) (C := RX9) (T := TX9) (N := 52) (x := (h 55 33)) (pc := 79) dX9_count_79 rfl rfl rfl ev_in9 rfl ul_4_215 ⟨rfl, by decide⟩ rfl ?_
      exact e_ret (pc := 82) (v := some (vI (h 55 33))) dX9_count_82 rfl trivial ⟨_, rfl, H⟩
    · have H := H.2.2.2.2.2.1 c1
      refine ⟨82, 83, by rw [c1]; rfl, by decide, ?_⟩
      refine e_aload_n (pc := 83) dX9_count_83 rfl rfl ?_
      refine e_getI (q := 55) (ci := 9) (k := 35) (kz := 35) (C := RX9) (T := TX9) (N := 52) (x := (h 55 35)) (pc := 84) dX9_count_84 rfl rfl rfl ev_in9 rfl ul_4_217 ⟨rfl, by decide⟩ rfl ?_
      exact e_ret (pc := 87) (v := some (vI (h 55 35))) dX9_count_87 rfl trivial ⟨_, rfl, H⟩
    · have H := H.2.2.2.2.2.2.1 c1
      refine ⟨87, 88, by rw [c1]; rfl, by decide, ?_⟩
      refine e_aload_n (pc := 88) dX9_count_88 rfl rfl ?_
      refine e_getI (q := 55) (ci := 9) (k := 29) (kz := 29) (C := RX9) (T := TX9) (N := 52) (x := (h 55 29)) (pc := 89) dX9_count_89 rfl rfl rfl ev_in9 rfl ul_4_211 ⟨rfl, by decide⟩ rfl ?_
      exact e_ret (pc := 92) (v := some (vI (h 55 29))) dX9_count_92 rfl trivial ⟨_, rfl, H⟩
    · have H := H.2.2.2.2.2.2.2.1 c1
      refine ⟨92, 93, by rw [c1]; rfl, by decide, ?_⟩
      refine e_aload_n (pc := 93) dX9_count_93 rfl rfl ?_
      refine e_getI (q := 55) (ci := 9) (k := 36) (kz := 36) (C := RX9) (T := TX9) (N := 52) (x := (h 55 36)) (pc := 94) dX9_count_94 rfl rfl rfl ev_in9 rfl ul_4_218 ⟨rfl, by decide⟩ rfl ?_
      exact e_ret (pc := 97) (v := some (vI (h 55 36))) dX9_count_97 rfl trivial ⟨_, rfl, H⟩
    · have H := H.2.2.2.2.2.2.2.2.1 c1
      refine ⟨97, 98, by rw [c1]; rfl, by decide, ?_⟩
      refine e_aload_n (pc := 98) dX9_count_98 rfl rfl ?_
      refine e_getI (q := 55) (ci := 9) (k := 8) (kz := 8) (C := RX9) (T := TX9) (N := 52) (x := (h 55 8)) (pc := 99) dX9_count_99 rfl rfl rfl ev_in9 rfl ul_4_190 ⟨rfl, by decide⟩ rfl ?_
      exact e_ret (pc := 102) (v := some (vI (h 55 8))) dX9_count_102 rfl trivial ⟨_, rfl, H⟩
    · have H := H.2.2.2.2.2.2.2.2.2.1 c1
      refine ⟨102, 103, by rw [c1]; rfl, by decide, ?_⟩
      refine e_aload_n (pc := 103) dX9_count_103 rfl rfl ?_
      refine e_getI (q := 55) (ci := 9) (k := 38) (kz := 38) (C := RX9) (T := TX9) (N := 52) (x := (h 55 38)) (pc := 104) dX9_count_104 rfl rfl rfl ev_in9 rfl ul_4_220 ⟨rfl, by decide⟩ rfl ?_
      exact e_ret (pc := 107) (v := some (vI (h 55 38))) dX9_count_107 rfl trivial ⟨_, rfl, H⟩
theorem c_X9_count (w : WD) (a1 : Int) (h : HP) (K : Int → HP → Prop)  (H : S_X9_count a1 h K) : Ev w Y_X9_count 0 [some (vR 55), some (vI a1)] [] h (rI K) := v_X9_count w a1 h K  H
def S_X9_when (a1 : Int) (a2 : Int) (a3 : Int) (a4 : Int) (h : HP) (K : Int → HP → Prop) : Prop :=
  ((0 ≤ h 55 0 ∧ h 55 0 ≤ 10) ∧ ((((¬ ((0 ≤ a1 ∧ a1 < h 55 0) ∧ 0 ≤ a2 ∧ a2 ≤ top (h 57 a1)) → True) ∧ (((0 ≤ a1 ∧ a1 < h 55 0) ∧ 0 ≤ a2 ∧ a2 ≤ top (h 57 a1)) → ((0 ≤ h 55 0 ∧ h 55 0 ≤ 10) ∧ True)))) ∧ ((((((0 ≤ a1 ∧ a1 < h 55 0) ∧ 0 ≤ a2 ∧ a2 ≤ top (h 57 a1))) ∧ (((0 ≤ a3 ∧ a3 < h 55 0) ∧ 0 ≤ a4 ∧ a4 ≤ top (h 57 a3)))) → (S_X9_stand 1 a1 a2 a3 a4 h (fun r21 h21 => K r21 h21))) ∧ (¬ ((((0 ≤ a1 ∧ a1 < h 55 0) ∧ 0 ≤ a2 ∧ a2 ≤ top (h 57 a1))) ∧ (((0 ≤ a3 ∧ a3 < h 55 0) ∧ 0 ≤ a4 ∧ a4 ≤ top (h 57 a3)))) → K (-1) h))))
set_option maxRecDepth 100000 in
set_option maxHeartbeats 4000000 in
theorem v_X9_when (w : WD) (a1 : Int) (a2 : Int) (a3 : Int) (a4 : Int) (h : HP) (K : Int → HP → Prop) 
    (H : ((0 ≤ h 55 0 ∧ h 55 0 ≤ 10) ∧ ((((¬ ((0 ≤ a1 ∧ a1 < h 55 0) ∧ 0 ≤ a2 ∧ a2 ≤ top (h 57 a1)) → True) ∧ (((0 ≤ a1 ∧ a1 < h 55 0) ∧ 0 ≤ a2 ∧ a2 ≤ top (h 57 a1)) → ((0 ≤ h 55 0 ∧ h 55 0 ≤ 10) ∧ True)))) ∧ ((((((0 ≤ a1 ∧ a1 < h 55 0) ∧ 0 ≤ a2 ∧ a2 ≤ top (h 57 a1))) ∧ (((0 ≤ a3 ∧ a3 < h 55 0) ∧ 0 ≤ a4 ∧ a4 ≤ top (h 57 a3)))) → (S_X9_stand 1 a1 a2 a3 a4 h (fun r21 h21 => K r21 h21))) ∧ (¬ ((((0 ≤ a1 ∧ a1 < h 55 0) ∧ 0 ≤ a2 ∧ a2 ≤ top (h 57 a1))) ∧ (((0 ≤ a3 ∧ a3 < h 55 0) ∧ 0 ≤ a4 ∧ a4 ≤ top (h 57 a3)))) → K (-1) h))))) :
    Ev w Y_X9_when 0 [some (vR 55), some (vI a1), some (vI a2), some (vI a3), some (vI a4)] [] h (rI K) := by
  refine e_aload_n (pc := 0) dX9_when_0 rfl rfl ?_
  refine e_iload_n (pc := 1) dX9_when_1 rfl rfl ?_
  refine e_iload_n (pc := 2) dX9_when_2 rfl rfl ?_
  refine e_invV (pc := 3) (Y' := Y_X9_isState) (as := [vI a1, vI a2]) (st := []) (lv0 := [some (vR 55), some (vI a1), some (vI a2)]) (q := 55) (ci := 9) (T := TX9) (N := 52) dX9_when_3 m_X9_isState ul_6_46 ⟨ul_6_48, us_X9_isState⟩ ⟨rfl, rfl⟩ rfl rfl rfl rfl rfl rfl rfl (c_X9_isState w a1 a2 h H.1) ?_
  rintro _ hz ⟨_, rfl, rfl, hh⟩
  rw [hh]
  show Ev w Y_X9_when 6 [some (vR 55), some (vI a1), some (vI a2), some (vI a3), some (vI a4)] [vI (b2i ((0 ≤ a1 ∧ a1 < h 55 0) ∧ 0 ≤ a2 ∧ a2 ≤ top (h 57 a1)))] h (rI K)
  have H := H.2
  have Ho := H.1
  have H := H.2
  have J1 : ((((0 ≤ a1 ∧ a1 < h 55 0) ∧ 0 ≤ a2 ∧ a2 ≤ top (h 57 a1))) ∧ (((0 ≤ a3 ∧ a3 < h 55 0) ∧ 0 ≤ a4 ∧ a4 ≤ top (h 57 a3)))) → Ev w Y_X9_when 19 [some (vR 55), some (vI a1), some (vI a2), some (vI a3), some (vI a4)] [] h (rI K) := by
    intro hp
    have H := H.1 hp
    refine e_aload_n (pc := 19) dX9_when_19 rfl rfl ?_
    refine e_iconst (pc := 20) dX9_when_20 ⟨by decide, by decide⟩ ?_
    refine e_iload_n (pc := 21) dX9_when_21 rfl rfl ?_
    refine e_iload_n (pc := 22) dX9_when_22 rfl rfl ?_
    refine e_iload_n (pc := 23) dX9_when_23 rfl rfl ?_
    refine e_iload (pc := 24) dX9_when_24 rfl ?_
    refine e_invV (pc := 26) (Y' := Y_X9_stand) (as := [vI 1, vI a1, vI a2, vI a3, vI a4]) (st := []) (lv0 := [some (vR 55), some (vI 1), some (vI a1), some (vI a2), some (vI a3), some (vI a4), none]) (q := 55) (ci := 9) (T := TX9) (N := 52) dX9_when_26 m_X9_stand ul_6_50 ⟨ul_6_52, us_X9_stand⟩ ⟨rfl, rfl⟩ rfl rfl rfl rfl rfl rfl rfl (c_X9_stand w 1 a1 a2 a3 a4 h _ H) ?_
    rintro _ h21 ⟨r21, rfl, H⟩
    show Ev w Y_X9_when 29 [some (vR 55), some (vI a1), some (vI a2), some (vI a3), some (vI a4)] [vI r21] h21 (rI K)
    refine e_goto (pc := 29) (tgt := 33) dX9_when_29 (by decide) ?_
    exact e_ret (pc := 33) (v := some (vI r21)) dX9_when_33 rfl trivial ⟨_, rfl, H⟩
  have J2 : ¬ ((((0 ≤ a1 ∧ a1 < h 55 0) ∧ 0 ≤ a2 ∧ a2 ≤ top (h 57 a1))) ∧ (((0 ≤ a3 ∧ a3 < h 55 0) ∧ 0 ≤ a4 ∧ a4 ≤ top (h 57 a3)))) → Ev w Y_X9_when 32 [some (vR 55), some (vI a1), some (vI a2), some (vI a3), some (vI a4)] [] h (rI K) := by
    intro hp
    have H := H.2 hp
    refine e_iconst (pc := 32) dX9_when_32 ⟨by decide, by decide⟩ ?_
    exact e_ret (pc := 33) (v := some (vI (-1))) dX9_when_33 rfl trivial ⟨_, rfl, H⟩
  refine e_ifb_eq (pc := 6) (tgt := 32) dX9_when_6 (by decide) (fun c1 => ?_) (fun c1 => ?_)
  · have Ho := Ho.1 c1
    exact J2 (fun z => c1 z.1)
  · have Ho := Ho.2 c1
    refine e_aload_n (pc := 9) dX9_when_9 rfl rfl ?_
    refine e_iload_n (pc := 10) dX9_when_10 rfl rfl ?_
    refine e_iload (pc := 11) dX9_when_11 rfl ?_
    refine e_invV (pc := 13) (Y' := Y_X9_isState) (as := [vI a3, vI a4]) (st := []) (lv0 := [some (vR 55), some (vI a3), some (vI a4)]) (q := 55) (ci := 9) (T := TX9) (N := 52) dX9_when_13 m_X9_isState ul_6_46 ⟨ul_6_48, us_X9_isState⟩ ⟨rfl, rfl⟩ rfl rfl rfl rfl rfl rfl rfl (c_X9_isState w a3 a4 h Ho.1) ?_
    rintro _ hz ⟨_, rfl, rfl, hh⟩
    rw [hh]
    show Ev w Y_X9_when 16 [some (vR 55), some (vI a1), some (vI a2), some (vI a3), some (vI a4)] [vI (b2i ((0 ≤ a3 ∧ a3 < h 55 0) ∧ 0 ≤ a4 ∧ a4 ≤ top (h 57 a3)))] h (rI K)
    have Ho := Ho.2
    refine e_ifb_eq (pc := 16) (tgt := 32) dX9_when_16 (by decide) (fun c2 => ?_) (fun c2 => ?_)
    · exact J2 (fun z => c2 z.2)
    · exact J1 ⟨c1, c2⟩
theorem c_X9_when (w : WD) (a1 : Int) (a2 : Int) (a3 : Int) (a4 : Int) (h : HP) (K : Int → HP → Prop)  (H : S_X9_when a1 a2 a3 a4 h K) : Ev w Y_X9_when 0 [some (vR 55), some (vI a1), some (vI a2), some (vI a3), some (vI a4)] [] h (rI K) := v_X9_when w a1 a2 a3 a4 h K  H
def S_X9_at (a1 : Int) (a2 : Int) (a3 : Int) (h : HP) (K : Int → HP → Prop) : Prop :=
  ((((¬ (0 ≤ a1 ∧ a1 ≤ 23) → True) ∧ ((0 ≤ a1 ∧ a1 ≤ 23) → ((0 ≤ h 55 0 ∧ h 55 0 ≤ 10) ∧ True)))) ∧ (((((0 ≤ a1 ∧ a1 ≤ 23)) ∧ (((0 ≤ a2 ∧ a2 < h 55 0) ∧ 0 ≤ a3 ∧ a3 ≤ top (h 57 a2)))) → (S_X9_stand 0 a1 0 a2 a3 h (fun r21 h21 => K r21 h21))) ∧ (¬ (((0 ≤ a1 ∧ a1 ≤ 23)) ∧ (((0 ≤ a2 ∧ a2 < h 55 0) ∧ 0 ≤ a3 ∧ a3 ≤ top (h 57 a2)))) → K (-1) h)))
set_option maxRecDepth 100000 in
set_option maxHeartbeats 4000000 in
theorem v_X9_at (w : WD) (a1 : Int) (a2 : Int) (a3 : Int) (h : HP) (K : Int → HP → Prop) 
    (H : ((((¬ (0 ≤ a1 ∧ a1 ≤ 23) → True) ∧ ((0 ≤ a1 ∧ a1 ≤ 23) → ((0 ≤ h 55 0 ∧ h 55 0 ≤ 10) ∧ True)))) ∧ (((((0 ≤ a1 ∧ a1 ≤ 23)) ∧ (((0 ≤ a2 ∧ a2 < h 55 0) ∧ 0 ≤ a3 ∧ a3 ≤ top (h 57 a2)))) → (S_X9_stand 0 a1 0 a2 a3 h (fun r21 h21 => K r21 h21))) ∧ (¬ (((0 ≤ a1 ∧ a1 ≤ 23)) ∧ (((0 ≤ a2 ∧ a2 < h 55 0) ∧ 0 ≤ a3 ∧ a3 ≤ top (h 57 a2)))) → K (-1) h)))) :
    Ev w Y_X9_at 0 [some (vR 55), some (vI a1), some (vI a2), some (vI a3)] [] h (rI K) := by
  refine e_iload_n (pc := 0) dX9_at_0 rfl rfl ?_
  refine e_i2l (pc := 1) dX9_at_1 ?_
  refine e_lconst (x := 0) (pc := 2) dX9_at_2 ⟨by decide, by decide⟩ (by decide) ?_
  refine e_ldc2 (x := 23) (pc := 3) dX9_at_3 ul_5_169 ⟨by decide, by decide⟩ ?_
  refine e_invS (pc := 6) (Y' := Y_X9_in) (as := [vL a1, vL 0, vL 23]) (st := []) (lv0 := [some (vL a1), none, some (vL 0), none, some (vL 23), none]) dX9_at_6 m_X9_in ul_5_104 ul_5_105 ⟨rfl, rfl⟩ rfl rfl rfl rfl rfl (c_X9_in w a1 0 23 h) ?_
  rintro _ hz ⟨_, rfl, rfl, hh⟩
  rw [hh]
  show Ev w Y_X9_at 9 [some (vR 55), some (vI a1), some (vI a2), some (vI a3)] [vI (b2i (0 ≤ a1 ∧ a1 ≤ 23))] h (rI K)
  have Ho := H.1
  have H := H.2
  have J1 : (((0 ≤ a1 ∧ a1 ≤ 23)) ∧ (((0 ≤ a2 ∧ a2 < h 55 0) ∧ 0 ≤ a3 ∧ a3 ≤ top (h 57 a2)))) → Ev w Y_X9_at 21 [some (vR 55), some (vI a1), some (vI a2), some (vI a3)] [] h (rI K) := by
    intro hp
    have H := H.1 hp
    refine e_aload_n (pc := 21) dX9_at_21 rfl rfl ?_
    refine e_iconst (pc := 22) dX9_at_22 ⟨by decide, by decide⟩ ?_
    refine e_iload_n (pc := 23) dX9_at_23 rfl rfl ?_
    refine e_iconst (pc := 24) dX9_at_24 ⟨by decide, by decide⟩ ?_
    refine e_iload_n (pc := 25) dX9_at_25 rfl rfl ?_
    refine e_iload_n (pc := 26) dX9_at_26 rfl rfl ?_
    refine e_invV (pc := 27) (Y' := Y_X9_stand) (as := [vI 0, vI a1, vI 0, vI a2, vI a3]) (st := []) (lv0 := [some (vR 55), some (vI 0), some (vI a1), some (vI 0), some (vI a2), some (vI a3), none]) (q := 55) (ci := 9) (T := TX9) (N := 52) dX9_at_27 m_X9_stand ul_6_50 ⟨ul_6_52, us_X9_stand⟩ ⟨rfl, rfl⟩ rfl rfl rfl rfl rfl rfl rfl (c_X9_stand w 0 a1 0 a2 a3 h _ H) ?_
    rintro _ h21 ⟨r21, rfl, H⟩
    show Ev w Y_X9_at 30 [some (vR 55), some (vI a1), some (vI a2), some (vI a3)] [vI r21] h21 (rI K)
    refine e_goto (pc := 30) (tgt := 34) dX9_at_30 (by decide) ?_
    exact e_ret (pc := 34) (v := some (vI r21)) dX9_at_34 rfl trivial ⟨_, rfl, H⟩
  have J2 : ¬ (((0 ≤ a1 ∧ a1 ≤ 23)) ∧ (((0 ≤ a2 ∧ a2 < h 55 0) ∧ 0 ≤ a3 ∧ a3 ≤ top (h 57 a2)))) → Ev w Y_X9_at 33 [some (vR 55), some (vI a1), some (vI a2), some (vI a3)] [] h (rI K) := by
    intro hp
    have H := H.2 hp
    refine e_iconst (pc := 33) dX9_at_33 ⟨by decide, by decide⟩ ?_
    exact e_ret (pc := 34) (v := some (vI (-1))) dX9_at_34 rfl trivial ⟨_, rfl, H⟩
  refine e_ifb_eq (pc := 9) (tgt := 33) dX9_at_9 (by decide) (fun c1 => ?_) (fun c1 => ?_)
  · have Ho := Ho.1 c1
    exact J2 (fun z => c1 z.1)
  · have Ho := Ho.2 c1
    refine e_aload_n (pc := 12) dX9_at_12 rfl rfl ?_
    refine e_iload_n (pc := 13) dX9_at_13 rfl rfl ?_
    refine e_iload_n (pc := 14) dX9_at_14 rfl rfl ?_
    refine e_invV (pc := 15) (Y' := Y_X9_isState) (as := [vI a2, vI a3]) (st := []) (lv0 := [some (vR 55), some (vI a2), some (vI a3)]) (q := 55) (ci := 9) (T := TX9) (N := 52) dX9_at_15 m_X9_isState ul_6_46 ⟨ul_6_48, us_X9_isState⟩ ⟨rfl, rfl⟩ rfl rfl rfl rfl rfl rfl rfl (c_X9_isState w a2 a3 h Ho.1) ?_
    rintro _ hz ⟨_, rfl, rfl, hh⟩
    rw [hh]
    show Ev w Y_X9_at 18 [some (vR 55), some (vI a1), some (vI a2), some (vI a3)] [vI (b2i ((0 ≤ a2 ∧ a2 < h 55 0) ∧ 0 ≤ a3 ∧ a3 ≤ top (h 57 a2)))] h (rI K)
    have Ho := Ho.2
    refine e_ifb_eq (pc := 18) (tgt := 33) dX9_at_18 (by decide) (fun c2 => ?_) (fun c2 => ?_)
    · exact J2 (fun z => c2 z.2)
    · exact J1 ⟨c1, c2⟩
theorem c_X9_at (w : WD) (a1 : Int) (a2 : Int) (a3 : Int) (h : HP) (K : Int → HP → Prop)  (H : S_X9_at a1 a2 a3 h K) : Ev w Y_X9_at 0 [some (vR 55), some (vI a1), some (vI a2), some (vI a3)] [] h (rI K) := v_X9_at w a1 a2 a3 h K  H
def S_X9_keepHabit (a1 : Int) (h : HP) (K : Int → HP → Prop) : Prop :=
  ((((¬ (0 ≤ a1 ∧ a1 ≤ 2399) → True) ∧ ((0 ≤ a1 ∧ a1 ≤ 2399) → ((0 ≤ a1) ∧ ((0 ≤ (a1 / 10)) ∧ ((0 ≤ a1) ∧ ((0 ≤ h 55 0 ∧ h 55 0 ≤ 10) ∧ True))))))) ∧ (((((0 ≤ a1 ∧ a1 ≤ 2399)) ∧ (((0 ≤ ((a1 / 10) % 10) ∧ ((a1 / 10) % 10) < h 55 0) ∧ 0 ≤ (a1 % 10) ∧ (a1 % 10) ≤ top (h 57 ((a1 / 10) % 10))))) → ((0 ≤ a1) ∧ ((0 ≤ a1) ∧ ((0 ≤ (a1 / 10)) ∧ ((0 ≤ a1) ∧ (S_X9_stand 0 (a1 / 100) 0 ((a1 / 10) % 10) (a1 % 10) h (fun r21 h21 => K r21 h21))))))) ∧ (¬ (((0 ≤ a1 ∧ a1 ≤ 2399)) ∧ (((0 ≤ ((a1 / 10) % 10) ∧ ((a1 / 10) % 10) < h 55 0) ∧ 0 ≤ (a1 % 10) ∧ (a1 % 10) ≤ top (h 57 ((a1 / 10) % 10))))) → K (-1) h)))
set_option maxRecDepth 100000 in
set_option maxHeartbeats 4000000 in
theorem v_X9_keepHabit (w : WD) (a1 : Int) (h : HP) (K : Int → HP → Prop) 
    (H : ((((¬ (0 ≤ a1 ∧ a1 ≤ 2399) → True) ∧ ((0 ≤ a1 ∧ a1 ≤ 2399) → ((0 ≤ a1) ∧ ((0 ≤ (a1 / 10)) ∧ ((0 ≤ a1) ∧ ((0 ≤ h 55 0 ∧ h 55 0 ≤ 10) ∧ True))))))) ∧ (((((0 ≤ a1 ∧ a1 ≤ 2399)) ∧ (((0 ≤ ((a1 / 10) % 10) ∧ ((a1 / 10) % 10) < h 55 0) ∧ 0 ≤ (a1 % 10) ∧ (a1 % 10) ≤ top (h 57 ((a1 / 10) % 10))))) → ((0 ≤ a1) ∧ ((0 ≤ a1) ∧ ((0 ≤ (a1 / 10)) ∧ ((0 ≤ a1) ∧ (S_X9_stand 0 (a1 / 100) 0 ((a1 / 10) % 10) (a1 % 10) h (fun r21 h21 => K r21 h21))))))) ∧ (¬ (((0 ≤ a1 ∧ a1 ≤ 2399)) ∧ (((0 ≤ ((a1 / 10) % 10) ∧ ((a1 / 10) % 10) < h 55 0) ∧ 0 ≤ (a1 % 10) ∧ (a1 % 10) ≤ top (h 57 ((a1 / 10) % 10))))) → K (-1) h)))) :
    Ev w Y_X9_keepHabit 0 [some (vR 55), some (vI a1)] [] h (rI K) := by
  refine e_iload_n (pc := 0) dX9_keepHabit_0 rfl rfl ?_
  refine e_i2l (pc := 1) dX9_keepHabit_1 ?_
  refine e_lconst (x := 0) (pc := 2) dX9_keepHabit_2 ⟨by decide, by decide⟩ (by decide) ?_
  refine e_ldc2 (x := 2399) (pc := 3) dX9_keepHabit_3 ul_6_103 ⟨by decide, by decide⟩ ?_
  refine e_invS (pc := 6) (Y' := Y_X9_in) (as := [vL a1, vL 0, vL 2399]) (st := []) (lv0 := [some (vL a1), none, some (vL 0), none, some (vL 2399), none]) dX9_keepHabit_6 m_X9_in ul_5_104 ul_5_105 ⟨rfl, rfl⟩ rfl rfl rfl rfl rfl (c_X9_in w a1 0 2399 h) ?_
  rintro _ hz ⟨_, rfl, rfl, hh⟩
  rw [hh]
  show Ev w Y_X9_keepHabit 9 [some (vR 55), some (vI a1)] [vI (b2i (0 ≤ a1 ∧ a1 ≤ 2399))] h (rI K)
  have Ho := H.1
  have H := H.2
  have J1 : (((0 ≤ a1 ∧ a1 ≤ 2399)) ∧ (((0 ≤ ((a1 / 10) % 10) ∧ ((a1 / 10) % 10) < h 55 0) ∧ 0 ≤ (a1 % 10) ∧ (a1 % 10) ≤ top (h 57 ((a1 / 10) % 10))))) → Ev w Y_X9_keepHabit 32 [some (vR 55), some (vI a1)] [] h (rI K) := by
    intro hp
    have H := H.1 hp
    refine e_aload_n (pc := 32) dX9_keepHabit_32 rfl rfl ?_
    refine e_iconst (pc := 33) dX9_keepHabit_33 ⟨by decide, by decide⟩ ?_
    refine e_iload_n (pc := 34) dX9_keepHabit_34 rfl rfl ?_
    refine e_bipush (pc := 35) dX9_keepHabit_35 ⟨by decide, by decide⟩ (by decide) ?_
    refine e_idiv (pc := 37) dX9_keepHabit_37 ⟨H.1, by decide⟩ ?_
    have H := H.2
    refine e_iconst (pc := 38) dX9_keepHabit_38 ⟨by decide, by decide⟩ ?_
    refine e_iload_n (pc := 39) dX9_keepHabit_39 rfl rfl ?_
    refine e_bipush (pc := 40) dX9_keepHabit_40 ⟨by decide, by decide⟩ (by decide) ?_
    refine e_idiv (pc := 42) dX9_keepHabit_42 ⟨H.1, by decide⟩ ?_
    have H := H.2
    refine e_bipush (pc := 43) dX9_keepHabit_43 ⟨by decide, by decide⟩ (by decide) ?_
    refine e_irem (pc := 45) dX9_keepHabit_45 ⟨H.1, by decide⟩ ?_
    have H := H.2
    refine e_iload_n (pc := 46) dX9_keepHabit_46 rfl rfl ?_
    refine e_bipush (pc := 47) dX9_keepHabit_47 ⟨by decide, by decide⟩ (by decide) ?_
    refine e_irem (pc := 49) dX9_keepHabit_49 ⟨H.1, by decide⟩ ?_
    have H := H.2
    refine e_invV (pc := 50) (Y' := Y_X9_stand) (as := [vI 0, vI (a1 / 100), vI 0, vI ((a1 / 10) % 10), vI (a1 % 10)]) (st := []) (lv0 := [some (vR 55), some (vI 0), some (vI (a1 / 100)), some (vI 0), some (vI ((a1 / 10) % 10)), some (vI (a1 % 10)), none]) (q := 55) (ci := 9) (T := TX9) (N := 52) dX9_keepHabit_50 m_X9_stand ul_6_50 ⟨ul_6_52, us_X9_stand⟩ ⟨rfl, rfl⟩ rfl rfl rfl rfl rfl rfl rfl (c_X9_stand w 0 (a1 / 100) 0 ((a1 / 10) % 10) (a1 % 10) h _ H) ?_
    rintro _ h21 ⟨r21, rfl, H⟩
    show Ev w Y_X9_keepHabit 53 [some (vR 55), some (vI a1)] [vI r21] h21 (rI K)
    exact e_ret (pc := 53) (v := some (vI r21)) dX9_keepHabit_53 rfl trivial ⟨_, rfl, H⟩
  have J2 : ¬ (((0 ≤ a1 ∧ a1 ≤ 2399)) ∧ (((0 ≤ ((a1 / 10) % 10) ∧ ((a1 / 10) % 10) < h 55 0) ∧ 0 ≤ (a1 % 10) ∧ (a1 % 10) ≤ top (h 57 ((a1 / 10) % 10))))) → Ev w Y_X9_keepHabit 30 [some (vR 55), some (vI a1)] [] h (rI K) := by
    intro hp
    have H := H.2 hp
    refine e_iconst (pc := 30) dX9_keepHabit_30 ⟨by decide, by decide⟩ ?_
    exact e_ret (pc := 31) (v := some (vI (-1))) dX9_keepHabit_31 rfl trivial ⟨_, rfl, H⟩
  refine e_ifb_eq (pc := 9) (tgt := 30) dX9_keepHabit_9 (by decide) (fun c1 => ?_) (fun c1 => ?_)
  · have Ho := Ho.1 c1
    exact J2 (fun z => c1 z.1)
  · have Ho := Ho.2 c1
    refine e_aload_n (pc := 12) dX9_keepHabit_12 rfl rfl ?_
    refine e_iload_n (pc := 13) dX9_keepHabit_13 rfl rfl ?_
    refine e_bipush (pc := 14) dX9_keepHabit_14 ⟨by decide, by decide⟩ (by decide) ?_
    refine e_idiv (pc := 16) dX9_keepHabit_16 ⟨Ho.1, by decide⟩ ?_
    have Ho := Ho.2
    refine e_bipush (pc := 17) dX9_keepHabit_17 ⟨by decide, by decide⟩ (by decide) ?_
    refine e_irem (pc := 19) dX9_keepHabit_19 ⟨Ho.1, by decide⟩ ?_
    have Ho := Ho.2
    refine e_iload_n (pc := 20) dX9_keepHabit_20 rfl rfl ?_
    refine e_bipush (pc := 21) dX9_keepHabit_21 ⟨by decide, by decide⟩ (by decide) ?_
    refine e_irem (pc := 23) dX9_keepHabit_23 ⟨Ho.1, by decide⟩ ?_
    have Ho := Ho.2
    refine e_invV (pc := 24) (Y' := Y_X9_isState) (as := [vI ((a1 / 10) % 10), vI (a1 % 10)]) (st := []) (lv0 := [some (vR 55), some (vI ((a1 / 10) % 10)), some (vI (a1 % 10))]) (q := 55) (ci := 9) (T := TX9) (N := 52) dX9_keepHabit_24 m_X9_isState ul_6_46 ⟨ul_6_48, us_X9_isState⟩ ⟨rfl, rfl⟩ rfl rfl rfl rfl rfl rfl rfl (c_X9_isState w ((a1 / 10) % 10) (a1 % 10) h Ho.1) ?_
    rintro _ hz ⟨_, rfl, rfl, hh⟩
    rw [hh]
    show Ev w Y_X9_keepHabit 27 [some (vR 55), some (vI a1)] [vI (b2i ((0 ≤ ((a1 / 10) % 10) ∧ ((a1 / 10) % 10) < h 55 0) ∧ 0 ≤ (a1 % 10) ∧ (a1 % 10) ≤ top (h 57 ((a1 / 10) % 10))))] h (rI K)
    have Ho := Ho.2
    refine e_ifb_ne (pc := 27) (tgt := 32) dX9_keepHabit_27 (by decide) (fun c2 => ?_) (fun c2 => ?_)
    · exact J1 ⟨c1, c2⟩
    · exact J2 (fun z => c2 z.2)
theorem c_X9_keepHabit (w : WD) (a1 : Int) (h : HP) (K : Int → HP → Prop)  (H : S_X9_keepHabit a1 h K) : Ev w Y_X9_keepHabit 0 [some (vR 55), some (vI a1)] [] h (rI K) := v_X9_keepHabit w a1 h K  H
