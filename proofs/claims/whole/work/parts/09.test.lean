theorem v_X8_within (w : WD) (v : Int) (lo : Int) (hi : Int) (h : HP) (K : Int → HP → Prop) 
    (H : K (b2i ((¬ v < lo) ∧ (¬ hi < v))) h) :
    Ev w Y_X8_within 0 [some (vI v), some (vI lo), some (vI hi)] [] h (rI K) := by
  refine e_iload_n (pc := 0) dX8_within_0 rfl rfl ?_
  refine e_iload_n (pc := 1) dX8_within_1 rfl rfl ?_
  have J : Ev w Y_X8_within 15 [some (vI v), some (vI lo), some (vI hi)] [vI (b2i ((¬ v < lo) ∧ (¬ hi < v)))] h (rI K) := by
    exact e_ret (pc := 15) (v := some (vI (b2i ((¬ v < lo) ∧ (¬ hi < v))))) dX8_within_15 rfl (b2i_01 _) ⟨_, rfl, H⟩
  refine e_icmp_lt (pc := 2) (tgt := 14) dX8_within_2 (by decide) (fun c1 => ?_) (fun c1 => ?_)
  · refine e_iconst (pc := 14) dX8_within_14 ⟨by decide, by decide⟩ ?_
    exact e_top (b2i_f (fun z => (fun z => z c1) z.1)) J
  · refine e_iload_n (pc := 5) dX8_within_5 rfl rfl ?_
    refine e_iload_n (pc := 6) dX8_within_6 rfl rfl ?_
    refine e_icmp_gt (pc := 7) (tgt := 14) dX8_within_7 (by decide) (fun c2 => ?_) (fun c2 => ?_)
    · refine e_iconst (pc := 14) dX8_within_14 ⟨by decide, by decide⟩ ?_
      exact e_top (b2i_f (fun z => (fun z => z c2) z.2)) J
    · refine e_iconst (pc := 10) dX8_within_10 ⟨by decide, by decide⟩ ?_
      refine e_goto (pc := 11) (tgt := 15) dX8_within_11 (by decide) ?_
      exact e_top (b2i_t ⟨c1, c2⟩) J

theorem v_X9_in (w : WD) (v : Int) (lo : Int) (hi : Int) (h : HP) (K : Int → HP → Prop) 
    (H : K (b2i ((¬ v < lo) ∧ (¬ hi < v))) h) :
    Ev w Y_X9_in 0 [some (vL v), none, some (vL lo), none, some (vL hi), none] [] h (rI K) := by
  refine e_lload_n (pc := 0) dX9_in_0 rfl rfl ?_
  refine e_lload_n (pc := 1) dX9_in_1 rfl rfl ?_
  have J : Ev w Y_X9_in 18 [some (vL v), none, some (vL lo), none, some (vL hi), none] [vI (b2i ((¬ v < lo) ∧ (¬ hi < v)))] h (rI K) := by
    exact e_ret (pc := 18) (v := some (vI (b2i ((¬ v < lo) ∧ (¬ hi < v))))) dX9_in_18 rfl (b2i_01 _) ⟨_, rfl, H⟩
  refine e_lcif_lt (pc := 2) (tgt := 17) dX9_in_2 dX9_in_3 (by decide) (fun c1 => ?_) (fun c1 => ?_)
  · refine e_iconst (pc := 17) dX9_in_17 ⟨by decide, by decide⟩ ?_
    exact e_top (b2i_f (fun z => (fun z => z c1) z.1)) J
  · refine e_lload_n (pc := 6) dX9_in_6 rfl rfl ?_
    refine e_lload (pc := 7) dX9_in_7 rfl ?_
    refine e_lcif_gt (pc := 9) (tgt := 17) dX9_in_9 dX9_in_10 (by decide) (fun c2 => ?_) (fun c2 => ?_)
    · refine e_iconst (pc := 17) dX9_in_17 ⟨by decide, by decide⟩ ?_
      exact e_top (b2i_f (fun z => (fun z => z c2) z.2)) J
    · refine e_iconst (pc := 13) dX9_in_13 ⟨by decide, by decide⟩ ?_
      refine e_goto (pc := 14) (tgt := 18) dX9_in_14 (by decide) ?_
      exact e_top (b2i_t ⟨c1, c2⟩) J

theorem v_X4_isThing (w : WD) (a1 : Int) (h : HP) (K : Int → HP → Prop) 
    (H : K (b2i ((¬ a1 < 0) ∧ (¬ (h 1 7) ≤ a1))) h) :
    Ev w Y_X4_isThing 0 [some (vR 1), some (vI a1)] [] h (rI K) := by
  refine e_iload_n (pc := 0) dX4_isThing_0 rfl rfl ?_
  have J : Ev w Y_X4_isThing 17 [some (vR 1), some (vI a1)] [vI (b2i ((¬ a1 < 0) ∧ (¬ (h 1 7) ≤ a1)))] h (rI K) := by
    exact e_ret (pc := 17) (v := some (vI (b2i ((¬ a1 < 0) ∧ (¬ (h 1 7) ≤ a1))))) dX4_isThing_17 rfl (b2i_01 _) ⟨_, rfl, H⟩
  refine e_if_lt (pc := 1) (tgt := 16) dX4_isThing_1 (by decide) (fun c1 => ?_) (fun c1 => ?_)
  · refine e_iconst (pc := 16) dX4_isThing_16 ⟨by decide, by decide⟩ ?_
    exact e_top (b2i_f (fun z => (fun z => z c1) z.1)) J
  · refine e_iload_n (pc := 4) dX4_isThing_4 rfl rfl ?_
    refine e_aload_n (pc := 5) dX4_isThing_5 rfl rfl ?_
    refine e_getI (q := 1) (ci := 4) (k := 7) (kz := 7) (C := RX4) (T := TX4) (N := 10) (x := (h 1 7)) (pc := 6) dX4_isThing_6 rfl rfl rfl ev_in4 rfl ul_1_47 ⟨rfl, by decide⟩ rfl ?_
    refine e_icmp_ge (pc := 9) (tgt := 16) dX4_isThing_9 (by decide) (fun c2 => ?_) (fun c2 => ?_)
    · refine e_iconst (pc := 16) dX4_isThing_16 ⟨by decide, by decide⟩ ?_
      exact e_top (b2i_f (fun z => (fun z => z c2) z.2)) J
    · refine e_iconst (pc := 12) dX4_isThing_12 ⟨by decide, by decide⟩ ?_
      refine e_goto (pc := 13) (tgt := 17) dX4_isThing_13 (by decide) ?_
      exact e_top (b2i_t ⟨c1, c2⟩) J

