/-! floorMod and floorDiv of numbers that are not negative; the hour of the day, the day -/
theorem nb_xor (a b : Nat) : nI a ^^^ nI b = nI (a ^^^ b) := by
  apply Int32.toBitVec_inj.1
  show BitVec.ofNat 32 a ^^^ BitVec.ofNat 32 b = BitVec.ofNat 32 (a ^^^ b)
  apply BitVec.eq_of_getLsbD_eq
  intro i hi
  simp [BitVec.getLsbD_ofNat, Nat.testBit_xor, hi]
theorem ixor_nn {a b : Int} (ha : iR a) (hb : iR b) (h0 : 0 ≤ a) (h1 : 0 ≤ b) : 0 ≤ ixor a b := by
  have := ha.2
  have := hb.2
  have ea : a = ((a.toNat : Nat) : Int) := (Int.toNat_of_nonneg h0).symm
  have eb : b = ((b.toNat : Nat) : Int) := (Int.toNat_of_nonneg h1).symm
  have la : a.toNat < 2 ^ 31 := by omega
  have lb : b.toNat < 2 ^ 31 := by omega
  rw [ea, eb]
  unfold ixor
  rw [i_nat la, i_nat lb, nb_xor, nI_toInt (Nat.xor_lt_two_pow la lb)]
  omega
theorem ev_locI {w : WD} {Y : MI} {pc : Nat} {lv : List (Option AV)} {st : List AV} {h : HP} {Q : Option AV → HP → Prop} {i : Nat} {x : Int} (hx : lg lv i = some (vI x)) (k : iR x → Ev w Y pc lv st h Q) : Ev w Y pc lv st h Q := by
  intro p l e R s m args below meth c A cells slots Z E H locs ls Wl hlv hst hl
  exact k (hlv _ _ hx) p l e R s m args below meth c A cells slots Z E H locs ls Wl hlv hst hl
set_option maxRecDepth 100000 in
set_option maxHeartbeats 4000000 in
theorem v_J9_floorMod_7cf53 (w : WD) (a : Int) (b : Int) (h : HP) (K : Int → HP → Prop) 
    (H : ((0 ≤ a ∧ 0 < b) ∧ ((((0 ≤ (ixor a b)) ∨ ((a % b) = 0)) → K (a % b) h) ∧ (¬ ((0 ≤ (ixor a b)) ∨ ((a % b) = 0)) → ((iR ((a % b) + b)) ∧ K ((a % b) + b) h))))) :
    Ev w Y_J9_floorMod_7cf53 0 [some (vI a), some (vI b), none] [] h (rI K) := by
  refine e_iload_n (pc := 0) dJ9_floorMod_7cf53_0 rfl rfl ?_
  refine e_iload_n (pc := 1) dJ9_floorMod_7cf53_1 rfl rfl ?_
  refine e_irem (pc := 2) dJ9_floorMod_7cf53_2 H.1 ?_
  have H := H.2
  refine e_istore_n (lv' := [some (vI a), some (vI b), some (vI (a % b))]) (pc := 3) dJ9_floorMod_7cf53_3 rfl rfl rfl ?_
  refine e_iload_n (pc := 4) dJ9_floorMod_7cf53_4 rfl rfl ?_
  refine e_iload_n (pc := 5) dJ9_floorMod_7cf53_5 rfl rfl ?_
  refine e_ixor (pc := 6) dJ9_floorMod_7cf53_6 ?_
  have J1 : ((0 ≤ (ixor a b)) ∨ ((a % b) = 0)) → Ev w Y_J9_floorMod_7cf53 18 [some (vI a), some (vI b), some (vI (a % b))] [] h (rI K) := by
    intro hp
    have H := H.1 hp
    refine e_iload_n (pc := 18) dJ9_floorMod_7cf53_18 rfl rfl ?_
    exact e_ret (pc := 19) (v := some (vI (a % b))) dJ9_floorMod_7cf53_19 rfl trivial ⟨_, rfl, H⟩
  have J2 : ¬ ((0 ≤ (ixor a b)) ∨ ((a % b) = 0)) → Ev w Y_J9_floorMod_7cf53 14 [some (vI a), some (vI b), some (vI (a % b))] [] h (rI K) := by
    intro hp
    have H := H.2 hp
    refine e_iload_n (pc := 14) dJ9_floorMod_7cf53_14 rfl rfl ?_
    refine e_iload_n (pc := 15) dJ9_floorMod_7cf53_15 rfl rfl ?_
    refine e_iadd (pc := 16) dJ9_floorMod_7cf53_16 H.1 ?_
    have H := H.2
    exact e_ret (pc := 17) (v := some (vI ((a % b) + b))) dJ9_floorMod_7cf53_17 rfl trivial ⟨_, rfl, H⟩
  refine e_if_ge (pc := 7) (tgt := 18) dJ9_floorMod_7cf53_7 (by decide) (fun c1 => ?_) (fun c1 => ?_)
  · exact J1 (Or.inl c1)
  · refine e_iload_n (pc := 10) dJ9_floorMod_7cf53_10 rfl rfl ?_
    refine e_if_eq (pc := 11) (tgt := 18) dJ9_floorMod_7cf53_11 (by decide) (fun c2 => ?_) (fun c2 => ?_)
    · exact J1 (Or.inr c2)
    · exact J2 (fun z => z.elim c1 c2)
set_option maxRecDepth 100000 in
set_option maxHeartbeats 4000000 in
theorem c_J9_floorMod_7cf53 (w : WD) (a : Int) (b : Int) (h : HP) (H : 0 ≤ a ∧ (0 : Int) < b) : Ev w Y_J9_floorMod_7cf53 0 [some (vI a), some (vI b), none] [] h (rI (fun r h' => r = (a % b) ∧ h' = h)) := by
  refine ev_locI (i := 0) rfl (fun ra => ev_locI (i := 1) rfl (fun rb => ?_))
  have hx := ixor_nn ra rb H.1 (by omega)
  exact v_J9_floorMod_7cf53 w a b h _ ⟨H, fun _ => ⟨rfl, rfl⟩, fun z => absurd (Or.inl hx) z⟩
set_option maxRecDepth 100000 in
set_option maxHeartbeats 4000000 in
theorem v_J9_floorDiv_7cf53 (w : WD) (a : Int) (b : Int) (h : HP) (K : Int → HP → Prop) 
    (H : ((0 ≤ a ∧ 0 < b) ∧ ((((0 ≤ (ixor a b) → True) ∧ (¬ 0 ≤ (ixor a b) → ((iR ((a / b) * b)) ∧ True)))) ∧ ((((0 ≤ (ixor a b)) ∨ (((a / b) * b) = a)) → K (a / b) h) ∧ (¬ ((0 ≤ (ixor a b)) ∨ (((a / b) * b) = a)) → ((iR ((a / b) - 1)) ∧ K ((a / b) - 1) h)))))) :
    Ev w Y_J9_floorDiv_7cf53 0 [some (vI a), some (vI b), none] [] h (rI K) := by
  refine e_iload_n (pc := 0) dJ9_floorDiv_7cf53_0 rfl rfl ?_
  refine e_iload_n (pc := 1) dJ9_floorDiv_7cf53_1 rfl rfl ?_
  refine e_idiv (pc := 2) dJ9_floorDiv_7cf53_2 H.1 ?_
  have H := H.2
  refine e_istore_n (lv' := [some (vI a), some (vI b), some (vI (a / b))]) (pc := 3) dJ9_floorDiv_7cf53_3 rfl rfl rfl ?_
  refine e_iload_n (pc := 4) dJ9_floorDiv_7cf53_4 rfl rfl ?_
  refine e_iload_n (pc := 5) dJ9_floorDiv_7cf53_5 rfl rfl ?_
  refine e_ixor (pc := 6) dJ9_floorDiv_7cf53_6 ?_
  have Ho := H.1
  have H := H.2
  have J1 : ((0 ≤ (ixor a b)) ∨ (((a / b) * b) = a)) → Ev w Y_J9_floorDiv_7cf53 21 [some (vI a), some (vI b), some (vI (a / b))] [] h (rI K) := by
    intro hp
    have H := H.1 hp
    refine e_iload_n (pc := 21) dJ9_floorDiv_7cf53_21 rfl rfl ?_
    exact e_ret (pc := 22) (v := some (vI (a / b))) dJ9_floorDiv_7cf53_22 rfl trivial ⟨_, rfl, H⟩
  have J2 : ¬ ((0 ≤ (ixor a b)) ∨ (((a / b) * b) = a)) → Ev w Y_J9_floorDiv_7cf53 17 [some (vI a), some (vI b), some (vI (a / b))] [] h (rI K) := by
    intro hp
    have H := H.2 hp
    refine e_iload_n (pc := 17) dJ9_floorDiv_7cf53_17 rfl rfl ?_
    refine e_iconst (pc := 18) dJ9_floorDiv_7cf53_18 ⟨by decide, by decide⟩ ?_
    refine e_isub (pc := 19) dJ9_floorDiv_7cf53_19 H.1 ?_
    have H := H.2
    exact e_ret (pc := 20) (v := some (vI ((a / b) - 1))) dJ9_floorDiv_7cf53_20 rfl trivial ⟨_, rfl, H⟩
  refine e_if_ge (pc := 7) (tgt := 21) dJ9_floorDiv_7cf53_7 (by decide) (fun c1 => ?_) (fun c1 => ?_)
  · have Ho := Ho.1 c1
    exact J1 (Or.inl c1)
  · have Ho := Ho.2 c1
    refine e_iload_n (pc := 10) dJ9_floorDiv_7cf53_10 rfl rfl ?_
    refine e_iload_n (pc := 11) dJ9_floorDiv_7cf53_11 rfl rfl ?_
    refine e_imul (pc := 12) dJ9_floorDiv_7cf53_12 Ho.1 ?_
    have Ho := Ho.2
    refine e_iload_n (pc := 13) dJ9_floorDiv_7cf53_13 rfl rfl ?_
    refine e_icmp_eq (pc := 14) (tgt := 21) dJ9_floorDiv_7cf53_14 (by decide) (fun c2 => ?_) (fun c2 => ?_)
    · exact J1 (Or.inr c2)
    · exact J2 (fun z => z.elim c1 c2)
set_option maxRecDepth 100000 in
set_option maxHeartbeats 4000000 in
theorem c_J9_floorDiv_7cf53 (w : WD) (a : Int) (b : Int) (h : HP) (H : 0 ≤ a ∧ (0 : Int) < b) : Ev w Y_J9_floorDiv_7cf53 0 [some (vI a), some (vI b), none] [] h (rI (fun r h' => r = (a / b) ∧ h' = h)) := by
  refine ev_locI (i := 0) rfl (fun ra => ev_locI (i := 1) rfl (fun rb => ?_))
  have hx := ixor_nn ra rb H.1 (by omega)
  exact v_J9_floorDiv_7cf53 w a b h _ ⟨H, ⟨fun _ => trivial, fun z => absurd hx z⟩, fun _ => ⟨rfl, rfl⟩, fun z => absurd (Or.inl hx) z⟩
set_option maxRecDepth 100000 in
set_option maxHeartbeats 4000000 in
theorem v_X4_hourOfDay (w : WD)  (h : HP) (K : Int → HP → Prop) 
    (H : ((0 ≤ (h 1 9) ∧ (0 : Int) < 24) ∧ K ((h 1 9) % 24) h)) :
    Ev w Y_X4_hourOfDay 0 [some (vR 1)] [] h (rI K) := by
  refine e_aload_n (pc := 0) dX4_hourOfDay_0 rfl rfl ?_
  refine e_getI (q := 1) (ci := 4) (k := 9) (kz := 9) (C := RX4) (T := TX4) (N := 10) (x := (h 1 9)) (pc := 1) dX4_hourOfDay_1 rfl rfl rfl ev_in4 rfl ul_1_54 ⟨rfl, by decide⟩ rfl ?_
  refine e_bipush (pc := 4) dX4_hourOfDay_4 ⟨by decide, by decide⟩ (by decide) ?_
  refine e_invS (pc := 6) (Y' := Y_J9_floorMod_7cf53) (as := [vI (h 1 9), vI 24]) (st := []) (lv0 := [some (vI (h 1 9)), some (vI 24), none]) dX4_hourOfDay_6 m_J9_floorMod_7cf53 ul_3_194 ul_3_195 ⟨rfl, rfl⟩ rfl rfl rfl rfl rfl (c_J9_floorMod_7cf53 w (h 1 9) 24 h H.1) ?_
  rintro _ hz ⟨_, rfl, rfl, hh⟩
  rw [hh]
  show Ev w Y_X4_hourOfDay 9 [some (vR 1)] [vI ((h 1 9) % 24)] h (rI K)
  have H := H.2
  exact e_ret (pc := 9) (v := some (vI ((h 1 9) % 24))) dX4_hourOfDay_9 rfl trivial ⟨_, rfl, H⟩
set_option maxRecDepth 100000 in
set_option maxHeartbeats 4000000 in
theorem c_X4_hourOfDay (w : WD)  (h : HP) (H : 0 ≤ h 1 9) : Ev w Y_X4_hourOfDay 0 [some (vR 1)] [] h (rI (fun r h' => r = (h 1 9 % 24) ∧ h' = h)) := by
  exact v_X4_hourOfDay w h _ ⟨⟨H, by decide⟩, rfl, rfl⟩
set_option maxRecDepth 100000 in
set_option maxHeartbeats 4000000 in
theorem v_X4_day (w : WD)  (h : HP) (K : Int → HP → Prop) 
    (H : ((0 ≤ (h 1 9) ∧ (0 : Int) < 24) ∧ K ((h 1 9) / 24) h)) :
    Ev w Y_X4_day 0 [some (vR 1)] [] h (rI K) := by
  refine e_aload_n (pc := 0) dX4_day_0 rfl rfl ?_
  refine e_getI (q := 1) (ci := 4) (k := 9) (kz := 9) (C := RX4) (T := TX4) (N := 10) (x := (h 1 9)) (pc := 1) dX4_day_1 rfl rfl rfl ev_in4 rfl ul_1_54 ⟨rfl, by decide⟩ rfl ?_
  refine e_bipush (pc := 4) dX4_day_4 ⟨by decide, by decide⟩ (by decide) ?_
  refine e_invS (pc := 6) (Y' := Y_J9_floorDiv_7cf53) (as := [vI (h 1 9), vI 24]) (st := []) (lv0 := [some (vI (h 1 9)), some (vI 24), none]) dX4_day_6 m_J9_floorDiv_7cf53 ul_3_226 ul_3_227 ⟨rfl, rfl⟩ rfl rfl rfl rfl rfl (c_J9_floorDiv_7cf53 w (h 1 9) 24 h H.1) ?_
  rintro _ hz ⟨_, rfl, rfl, hh⟩
  rw [hh]
  show Ev w Y_X4_day 9 [some (vR 1)] [vI ((h 1 9) / 24)] h (rI K)
  have H := H.2
  exact e_ret (pc := 9) (v := some (vI ((h 1 9) / 24))) dX4_day_9 rfl trivial ⟨_, rfl, H⟩
set_option maxRecDepth 100000 in
set_option maxHeartbeats 4000000 in
theorem c_X4_day (w : WD)  (h : HP) (H : 0 ≤ h 1 9) : Ev w Y_X4_day 0 [some (vR 1)] [] h (rI (fun r h' => r = (h 1 9 / 24) ∧ h' = h)) := by
  exact v_X4_day w h _ ⟨⟨H, by decide⟩, rfl, rfl⟩
