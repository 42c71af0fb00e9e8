/-! words for states and sets -/
def inB (b t : Int) : Prop := (0 ≤ b ∧ b < 2147483648) ∧ 0 ≤ t ∧ t < 31
def inS (S : Int) : Prop := 0 ≤ S ∧ S < 1048576
def wth (S t v : Int) : Int := pack (us (dgt S) t v) 10
noncomputable def wAll (S b v : Int) : Int := pack (fun t => cif (mem b t) v (dgt S t)) 10
def top (s : Int) : Int := if s = 0 then 3 else if s = 2 then 2 else 1
theorem top_b (s : Int) : 1 ≤ top s ∧ top s ≤ 3 := by unfold top; split <;> (try split) <;> omega
theorem inS_4 {S : Int} (h : inS S) : 0 ≤ S ∧ S < 4 ^ 10 := h
theorem in3_dgt (S : Int) : in3 (dgt S) 10 := fun i _ _ => dgt_3 S i
theorem inS_pack {f : Int → Int} (h : in3 f 10) : inS (pack f 10) := pack_b h
theorem dgt_pack {f : Int → Int} (h : in3 f 10) {t : Int} (h0 : 0 ≤ t) (h1 : t < 10) : dgt (pack f 10) t = f t := by
  unfold dgt pack
  rw [Int.toNat_natCast, pk_dg h, if_pos (by omega), Int.toNat_of_nonneg h0]
  have := h t h0 h1
  omega
theorem dgt_get {S t : Int} (hS : inS S) (h0 : 0 ≤ t) (h1 : t < 10) : iand (ishr S (2 * t)) 3 = dgt S t := by
  have e := pack_get (f := dgt S) (n := 10) (in3_dgt S) (by decide) h0 (by omega)
  rw [← pack_dgt (inS_4 hS)] at e
  rw [e, if_pos (show t < ((10 : Nat) : Int) from h1)]
theorem dgt_ext {x y : Int} (hx : inS x) (hy : inS y) (h : ∀ t : Int, 0 ≤ t → t < 10 → dgt x t = dgt y t) : x = y := by
  rw [pack_dgt (inS_4 hx), pack_dgt (inS_4 hy)]
  exact pack_c h
theorem in3_w {S t v : Int} (hv : 0 ≤ v ∧ v ≤ 3) : in3 (us (dgt S) t v) 10 := in3_us (in3_dgt S) hv
theorem inS_wth {S t v : Int} (hv : 0 ≤ v ∧ v ≤ 3) : inS (wth S t v) := inS_pack (in3_w hv)
theorem dgt_wth {S t v u : Int} (hv : 0 ≤ v ∧ v ≤ 3) (h0 : 0 ≤ u) (h1 : u < 10) : dgt (wth S t v) u = if u = t then v else dgt S u := by
  unfold wth
  rw [dgt_pack (in3_w hv) h0 h1]
  rfl
theorem in3_a {S b v : Int} (hv : 0 ≤ v ∧ v ≤ 3) : in3 (fun t => cif (mem b t) v (dgt S t)) 10 := fun i _ _ => by
  by_cases c : mem b i
  · simp only [cif_t c]; exact hv
  · simp only [cif_f c]; exact dgt_3 S i
theorem inS_wAll {S b v : Int} (hv : 0 ≤ v ∧ v ≤ 3) : inS (wAll S b v) := inS_pack (in3_a hv)
theorem dgt_wAll {S b v u : Int} (hv : 0 ≤ v ∧ v ≤ 3) (h0 : 0 ≤ u) (h1 : u < 10) : dgt (wAll S b v) u = cif (mem b u) v (dgt S u) := by
  unfold wAll
  rw [dgt_pack (in3_a hv) h0 h1]
/-- the house as the class holds it -/
def HOK (h : HP) : Prop := (0 ≤ h 1 7 ∧ h 1 7 ≤ 10) ∧ (∀ t : Int, 0 ≤ t → t < 10 → (0 ≤ h 9 t ∧ h 9 t ≤ 4) ∧ (0 ≤ h 10 t ∧ h 10 t ≤ 3) ∧ (0 ≤ h 11 t ∧ h 11 t ≤ 100)) ∧ inS (h 1 8) ∧ (∀ t : Int, h 1 7 ≤ t → t < 10 → dgt (h 1 8) t = 0) ∧ (∀ f : Int, 0 ≤ f → f < 6 → -1 ≤ h 14 f ∧ h 14 f ≤ 4) ∧ (∀ r : Int, 0 ≤ r → r < 5 → h 15 r = cnt (fun f => h 14 f = r) 6)
theorem toNat_s {x : Int} (h : 0 ≤ x) : (x + 1).toNat = x.toNat + 1 := by omega
theorem bset_next {p : Int → Prop} {x : Int} (h0 : 0 ≤ x) (h1 : x < 31) (hp : p x) : ior (bset p x.toNat) (ishl 1 x) = bset p (x + 1).toNat := by
  obtain ⟨k, rfl⟩ : ∃ k : Nat, x = (k : Int) := ⟨x.toNat, by omega⟩
  rw [toNat_s h0, Int.toNat_natCast, bset_or (by omega), bset_s, b2i_t hp, Int.one_mul]
theorem bset_skip {p : Int → Prop} {x : Int} (h0 : 0 ≤ x) (hp : ¬ p x) : bset p x.toNat = bset p (x + 1).toNat := by
  obtain ⟨k, rfl⟩ : ∃ k : Nat, x = (k : Int) := ⟨x.toNat, by omega⟩
  rw [toNat_s h0, Int.toNat_natCast, bset_s, b2i_f hp, Int.zero_mul, Int.add_zero]
theorem cnt_next {p : Int → Prop} {x : Int} (h0 : 0 ≤ x) : cnt p (x + 1).toNat = cnt p x.toNat + b2i (p x) := by
  rw [toNat_s h0]
  simp only [cnt]
  rw [Int.toNat_of_nonneg h0]
theorem bset_past {p : Int → Prop} : ∀ {m n : Nat}, m ≤ n → (∀ i : Int, (m : Int) ≤ i → i < (n : Int) → ¬ p i) → bset p n = bset p m
  | m, 0, h, _ => by rw [Nat.le_zero.mp h]
  | m, n + 1, h, hp => by
    by_cases e : m = n + 1
    · rw [e]
    · rw [bset_s, b2i_f (hp (n : Int) (by omega) (by omega)), Int.zero_mul, Int.add_zero]
      exact bset_past (by omega) (fun i h0 h1 => hp i h0 (by omega))
set_option maxRecDepth 100000 in
set_option maxHeartbeats 4000000 in
theorem v_X8_within (w : WD) (v : Int) (lo : Int) (hi : Int) (h : HP) (K : Int → HP → Prop) 
    (H : K (b2i ((¬ v < lo) ∧ (¬ hi < v))) h) :
    Ev w Y_X8_within 0 [some (vI v), some (vI lo), some (vI hi)] [] h (rI K) := by
  refine e_iload_n (pc := 0) dX8_within_0 rfl rfl ?_
  refine e_iload_n (pc := 1) dX8_within_1 rfl rfl ?_
  have J : Ev w Y_X8_within 15 [some (vI v), some (vI lo), some (vI hi)] [vI (b2i ((¬ v < lo) ∧ (¬ hi < v)))] h (rI K) := by
    exact e_ret (pc := 15) (v := some (vI (b2i ((¬ v < lo) ∧ (¬ hi < v))))) dX8_within_15 rfl (b2i_01 _) ⟨_, rfl, H⟩
  refine e_icmp_lt (pc := 2) (tgt := 14) dX8_within_2 (by decide) (fun c1 => ?_) (fun c1 => ?_)
  · refine e_iconst (pc := 14) dX8_within_14 ⟨by decide, by decide⟩ ?_
    exact e_top (b2i_f (fun z => (fun z => z c1) z.1)) J
  · refine e_iload_n (pc := 5) dX8_within_5 rfl rfl ?_
    refine e_iload_n (pc := 6) dX8_within_6 rfl rfl ?_
    refine e_icmp_gt (pc := 7) (tgt := 14) dX8_within_7 (by decide) (fun c2 => ?_) (fun c2 => ?_)
    · refine e_iconst (pc := 14) dX8_within_14 ⟨by decide, by decide⟩ ?_
      exact e_top (b2i_f (fun z => (fun z => z c2) z.2)) J
    · refine e_iconst (pc := 10) dX8_within_10 ⟨by decide, by decide⟩ ?_
      refine e_goto (pc := 11) (tgt := 15) dX8_within_11 (by decide) ?_
      exact e_top (b2i_t ⟨c1, c2⟩) J
set_option maxRecDepth 100000 in
set_option maxHeartbeats 4000000 in
theorem c_X8_within (w : WD) (v : Int) (lo : Int) (hi : Int) (h : HP) : Ev w Y_X8_within 0 [some (vI v), some (vI lo), some (vI hi)] [] h (rI (fun r h' => r = b2i (lo ≤ v ∧ v ≤ hi) ∧ h' = h)) := by
  exact v_X8_within w v lo hi h _ ⟨b2i_c (by omega), rfl⟩
set_option maxRecDepth 100000 in
set_option maxHeartbeats 4000000 in
theorem v_X8_isIn (w : WD) (b : Int) (t : Int) (h : HP) (K : Int → HP → Prop) 
    (H : K (b2i (¬ (iand (ishr b t) 1) = 0)) h) :
    Ev w Y_X8_isIn 0 [some (vI b), some (vI t)] [] h (rI K) := by
  refine e_iload_n (pc := 0) dX8_isIn_0 rfl rfl ?_
  refine e_iload_n (pc := 1) dX8_isIn_1 rfl rfl ?_
  refine e_ishr (pc := 2) dX8_isIn_2 ?_
  refine e_iconst (pc := 3) dX8_isIn_3 ⟨by decide, by decide⟩ ?_
  refine e_iand (pc := 4) dX8_isIn_4 ?_
  have J : Ev w Y_X8_isIn 13 [some (vI b), some (vI t)] [vI (b2i (¬ (iand (ishr b t) 1) = 0))] h (rI K) := by
    exact e_ret (pc := 13) (v := some (vI (b2i (¬ (iand (ishr b t) 1) = 0)))) dX8_isIn_13 rfl (b2i_01 _) ⟨_, rfl, H⟩
  refine e_if_eq (pc := 5) (tgt := 12) dX8_isIn_5 (by decide) (fun c1 => ?_) (fun c1 => ?_)
  · refine e_iconst (pc := 12) dX8_isIn_12 ⟨by decide, by decide⟩ ?_
    exact e_top (b2i_f (fun z => z c1)) J
  · refine e_iconst (pc := 8) dX8_isIn_8 ⟨by decide, by decide⟩ ?_
    refine e_goto (pc := 9) (tgt := 13) dX8_isIn_9 (by decide) ?_
    exact e_top (b2i_t c1) J
set_option maxRecDepth 100000 in
set_option maxHeartbeats 4000000 in
theorem c_X8_isIn (w : WD) (b : Int) (t : Int) (h : HP) (H : inB b t) : Ev w Y_X8_isIn 0 [some (vI b), some (vI t)] [] h (rI (fun r h' => r = b2i (mem b t) ∧ h' = h)) := by
  refine v_X8_isIn w b t h _ ⟨b2i_c ?_, rfl⟩
  rw [mem_get H.1 ⟨H.2.1, by have := H.2.2; omega⟩, b2i_0]
  exact Classical.not_not
set_option maxRecDepth 100000 in
set_option maxHeartbeats 4000000 in
theorem v_X8_stateIn (w : WD) (S : Int) (t : Int) (h : HP) (K : Int → HP → Prop) 
    (H : ((iR (2 * t)) ∧ K (iand (ishr S (2 * t)) 3) h)) :
    Ev w Y_X8_stateIn 0 [some (vI S), some (vI t)] [] h (rI K) := by
  refine e_iload_n (pc := 0) dX8_stateIn_0 rfl rfl ?_
  refine e_iconst (pc := 1) dX8_stateIn_1 ⟨by decide, by decide⟩ ?_
  refine e_iload_n (pc := 2) dX8_stateIn_2 rfl rfl ?_
  refine e_imul (pc := 3) dX8_stateIn_3 H.1 ?_
  have H := H.2
  refine e_ishr (pc := 4) dX8_stateIn_4 ?_
  refine e_iconst (pc := 5) dX8_stateIn_5 ⟨by decide, by decide⟩ ?_
  refine e_iand (pc := 6) dX8_stateIn_6 ?_
  exact e_ret (pc := 7) (v := some (vI (iand (ishr S (2 * t)) 3))) dX8_stateIn_7 rfl trivial ⟨_, rfl, H⟩
set_option maxRecDepth 100000 in
set_option maxHeartbeats 4000000 in
theorem c_X8_stateIn (w : WD) (S : Int) (t : Int) (h : HP) (H : inS S ∧ 0 ≤ t ∧ t < 10) : Ev w Y_X8_stateIn 0 [some (vI S), some (vI t)] [] h (rI (fun r h' => r = (dgt S t) ∧ h' = h)) := by
  exact v_X8_stateIn w S t h _ ⟨⟨by omega, by omega⟩, dgt_get H.1 H.2.1 H.2.2, rfl⟩
set_option maxRecDepth 100000 in
set_option maxHeartbeats 4000000 in
theorem v_X8_with (w : WD) (S : Int) (t : Int) (v : Int) (h : HP) (K : Int → HP → Prop) 
    (H : ((iR (2 * t)) ∧ ((iR (2 * t)) ∧ K (ior (iand S (ixor (ishl 3 (2 * t)) (-1))) (ishl v (2 * t))) h))) :
    Ev w Y_X8_with 0 [some (vI S), some (vI t), some (vI v)] [] h (rI K) := by
  refine e_iload_n (pc := 0) dX8_with_0 rfl rfl ?_
  refine e_iconst (pc := 1) dX8_with_1 ⟨by decide, by decide⟩ ?_
  refine e_iconst (pc := 2) dX8_with_2 ⟨by decide, by decide⟩ ?_
  refine e_iload_n (pc := 3) dX8_with_3 rfl rfl ?_
  refine e_imul (pc := 4) dX8_with_4 H.1 ?_
  have H := H.2
  refine e_ishl (pc := 5) dX8_with_5 ?_
  refine e_iconst (pc := 6) dX8_with_6 ⟨by decide, by decide⟩ ?_
  refine e_ixor (pc := 7) dX8_with_7 ?_
  refine e_iand (pc := 8) dX8_with_8 ?_
  refine e_iload_n (pc := 9) dX8_with_9 rfl rfl ?_
  refine e_iconst (pc := 10) dX8_with_10 ⟨by decide, by decide⟩ ?_
  refine e_iload_n (pc := 11) dX8_with_11 rfl rfl ?_
  refine e_imul (pc := 12) dX8_with_12 H.1 ?_
  have H := H.2
  refine e_ishl (pc := 13) dX8_with_13 ?_
  refine e_ior (pc := 14) dX8_with_14 ?_
  exact e_ret (pc := 15) (v := some (vI (ior (iand S (ixor (ishl 3 (2 * t)) (-1))) (ishl v (2 * t))))) dX8_with_15 rfl trivial ⟨_, rfl, H⟩
set_option maxRecDepth 100000 in
set_option maxHeartbeats 4000000 in
theorem c_X8_with (w : WD) (S : Int) (t : Int) (v : Int) (h : HP) (H : inS S ∧ (0 ≤ t ∧ t < 10) ∧ (0 ≤ v ∧ v ≤ 3)) : Ev w Y_X8_with 0 [some (vI S), some (vI t), some (vI v)] [] h (rI (fun r h' => r = (wth S t v) ∧ h' = h)) := by
  refine v_X8_with w S t v h _ ⟨⟨by omega, by omega⟩, ⟨by omega, by omega⟩, ?_, rfl⟩
  have e := pack_with (f := dgt S) (n := 10) (in3_dgt S) (by decide) H.2.1.1 H.2.1.2 H.2.2
  rw [← pack_dgt (inS_4 H.1)] at e
  exact e
set_option maxRecDepth 100000 in
set_option maxHeartbeats 4000000 in
theorem v_X8_withAll (w : WD) (S : Int) (b : Int) (v : Int) (h : HP) (K : Int → HP → Prop) 
    (I1 : Nat → Int → Int → HP → Prop)
    (H : (∃ m : Nat, I1 m S 0 h))
    (H1 : ∀ (n1 : Nat) (x3 : Int) (x4 : Int) (g1 : HP), I1 n1 x3 x4 g1 → ((10 ≤ x4 → K x3 g1) ∧ (¬ 10 ≤ x4 → ((inB b x4) ∧ ((¬ (mem b x4) → ((iR (x4 + 1)) ∧ (∃ m : Nat, m < n1 ∧ I1 m x3 (x4 + 1) g1))) ∧ ((mem b x4) → ((inS x3 ∧ (0 ≤ x4 ∧ x4 < 10) ∧ (0 ≤ v ∧ v ≤ 3)) ∧ ((iR (x4 + 1)) ∧ (∃ m : Nat, m < n1 ∧ I1 m (wth x3 x4 v) (x4 + 1) g1))))))))) :
    Ev w Y_X8_withAll 0 [some (vI S), some (vI b), some (vI v), none, none] [] h (rI K) := by
  have L1 : ∀ (n1 : Nat) (x3 : Int) (x4 : Int) (g1 : HP), I1 n1 x3 x4 g1 → Ev w Y_X8_withAll 5 [none, some (vI b), some (vI v), some (vI x3), some (vI x4)] [] g1 (rI K) := by
    intro n1
    induction n1 using Nat.strongRecOn with
    | ind n1 ih1 =>
      intro x3 x4 g1 H
      have H := H1 n1 x3 x4 g1 H
      refine e_iload (pc := 5) dX8_withAll_5 rfl ?_
      refine e_bipush (pc := 7) dX8_withAll_7 ⟨by decide, by decide⟩ (by decide) ?_
      refine e_icmp_ge (pc := 9) (tgt := 35) dX8_withAll_9 (by decide) (fun c1 => ?_) (fun c1 => ?_)
      · have H := H.1 c1
        refine e_iload_n (pc := 35) dX8_withAll_35 rfl rfl ?_
        exact e_ret (pc := 36) (v := some (vI x3)) dX8_withAll_36 rfl trivial ⟨_, rfl, H⟩
      · have H := H.2 c1
        refine e_iload_n (pc := 12) dX8_withAll_12 rfl rfl ?_
        refine e_iload (pc := 13) dX8_withAll_13 rfl ?_
        refine e_invS (pc := 15) (Y' := Y_X8_isIn) (as := [vI b, vI x4]) (st := []) (lv0 := [some (vI b), some (vI x4)]) dX8_withAll_15 m_X8_isIn ul_3_142 ul_3_102 ⟨rfl, rfl⟩ rfl rfl rfl rfl rfl (c_X8_isIn w b x4 g1 H.1) ?_
        rintro _ hz ⟨_, rfl, rfl, hh⟩
        rw [hh]
        show Ev w Y_X8_withAll 18 [none, some (vI b), some (vI v), some (vI x3), some (vI x4)] [vI (b2i (mem b x4))] g1 (rI K)
        have H := H.2
        refine e_ifb_eq (pc := 18) (tgt := 29) dX8_withAll_18 (by decide) (fun c2 => ?_) (fun c2 => ?_)
        · have H := H.1 c2
          refine e_iinc (lv' := [none, some (vI b), some (vI v), some (vI x3), some (vI (x4 + 1))]) (pc := 29) dX8_withAll_29 rfl H.1 rfl rfl ?_
          have H := H.2
          refine e_goto (pc := 32) (tgt := 5) dX8_withAll_32 (by decide) ?_
          obtain ⟨m, hm, H⟩ := H
          exact ih1 m hm _ _ _ H
        · have H := H.2 c2
          refine e_iload_n (pc := 21) dX8_withAll_21 rfl rfl ?_
          refine e_iload (pc := 22) dX8_withAll_22 rfl ?_
          refine e_iload_n (pc := 24) dX8_withAll_24 rfl rfl ?_
          refine e_invS (pc := 25) (Y' := Y_X8_with) (as := [vI x3, vI x4, vI v]) (st := []) (lv0 := [some (vI x3), some (vI x4), some (vI v)]) dX8_withAll_25 m_X8_with ul_3_143 ul_3_144 ⟨rfl, rfl⟩ rfl rfl rfl rfl rfl (c_X8_with w x3 x4 v g1 H.1) ?_
          rintro _ hz ⟨_, rfl, rfl, hh⟩
          rw [hh]
          show Ev w Y_X8_withAll 28 [none, some (vI b), some (vI v), some (vI x3), some (vI x4)] [vI (wth x3 x4 v)] g1 (rI K)
          have H := H.2
          refine e_istore_n (lv' := [none, some (vI b), some (vI v), some (vI (wth x3 x4 v)), some (vI x4)]) (pc := 28) dX8_withAll_28 rfl rfl rfl ?_
          refine e_iinc (lv' := [none, some (vI b), some (vI v), some (vI (wth x3 x4 v)), some (vI (x4 + 1))]) (pc := 29) dX8_withAll_29 rfl H.1 rfl rfl ?_
          have H := H.2
          refine e_goto (pc := 32) (tgt := 5) dX8_withAll_32 (by decide) ?_
          obtain ⟨m, hm, H⟩ := H
          exact ih1 m hm _ _ _ H
  refine e_iload_n (pc := 0) dX8_withAll_0 rfl rfl ?_
  refine e_istore_n (lv' := [some (vI S), some (vI b), some (vI v), some (vI S), none]) (pc := 1) dX8_withAll_1 rfl rfl rfl ?_
  refine e_iconst (pc := 2) dX8_withAll_2 ⟨by decide, by decide⟩ ?_
  refine e_istore (lv' := [some (vI S), some (vI b), some (vI v), some (vI S), some (vI 0)]) (pc := 3) dX8_withAll_3 rfl rfl ?_
  refine e_mask [false, true, true, true, true] rfl ?_
  obtain ⟨m, H⟩ := H
  exact L1 m _ _ _ H
set_option maxRecDepth 100000 in
set_option maxHeartbeats 4000000 in
theorem c_X8_withAll (w : WD) (S : Int) (b : Int) (v : Int) (h : HP) (H : inS S ∧ (0 ≤ b ∧ b < 1024) ∧ (0 ≤ v ∧ v ≤ 3)) : Ev w Y_X8_withAll 0 [some (vI S), some (vI b), some (vI v), none, none] [] h (rI (fun r h' => r = (wAll S b v) ∧ h' = h)) := by
  obtain ⟨hS, hb, hv⟩ := H
  refine v_X8_withAll w S b v h _ (fun n x3 x4 g => g = h ∧ (0 ≤ x4 ∧ x4 ≤ 10) ∧ n = (10 - x4).toNat ∧ inS x3 ∧ ∀ u : Int, 0 ≤ u → u < 10 → dgt x3 u = if u < x4 then cif (mem b u) v (dgt S u) else dgt S u) ⟨10, rfl, by decide, rfl, hS, fun u h0 h1 => by rw [if_neg (by omega)]⟩ ?_
  rintro n x3 x4 g ⟨rfl, h0, rfl, hx, hd⟩
  refine ⟨fun c => ⟨?_, rfl⟩, fun c => ⟨⟨⟨hb.1, by omega⟩, h0.1, by omega⟩, fun c2 => ⟨⟨by omega, by omega⟩, (10 - (x4 + 1)).toNat, by omega, rfl, by omega, rfl, hx, fun u h1 h2 => ?_⟩, fun c2 => ⟨⟨hx, ⟨h0.1, by omega⟩, hv⟩, ⟨by omega, by omega⟩, (10 - (x4 + 1)).toNat, by omega, rfl, by omega, rfl, inS_wth hv, fun u h1 h2 => ?_⟩⟩⟩
  · exact dgt_ext hx (inS_wAll hv) (fun t h1 h2 => by rw [hd t h1 h2, if_pos (by omega), dgt_wAll hv h1 h2])
  · rw [hd u h1 h2]
    by_cases e : u = x4
    · subst e; rw [if_neg (by omega), if_pos (by omega), cif_f c2]
    · by_cases e2 : u < x4
      · rw [if_pos e2, if_pos (by omega)]
      · rw [if_neg e2, if_neg (by omega)]
  · rw [dgt_wth hv h1 h2]
    by_cases e : u = x4
    · subst e; rw [if_pos rfl, if_pos (by omega), cif_t c2]
    · rw [if_neg e, hd u h1 h2]
      by_cases e2 : u < x4
      · rw [if_pos e2, if_pos (by omega)]
      · rw [if_neg e2, if_neg (by omega)]
set_option maxRecDepth 100000 in
set_option maxHeartbeats 4000000 in
theorem v_X8_fitsSounds (w : WD) (n : Int) (v : Int) (h : HP) (K : Int → HP → Prop) 
    (H : ((((v < 0 → True) ∧ (¬ v < 0 → ((iR (4 * n)) ∧ True)))) ∧ K (b2i ((¬ v < 0) ∧ (¬ (jshl 1 (4 * n)) ≤ v))) h)) :
    Ev w Y_X8_fitsSounds 0 [some (vI n), some (vL v), none] [] h (rI K) := by
  refine e_lload_n (pc := 0) dX8_fitsSounds_0 rfl rfl ?_
  refine e_lconst (x := 0) (pc := 1) dX8_fitsSounds_1 ⟨by decide, by decide⟩ (by decide) ?_
  have J : Ev w Y_X8_fitsSounds 21 [some (vI n), some (vL v), none] [vI (b2i ((¬ v < 0) ∧ (¬ (jshl 1 (4 * n)) ≤ v)))] h (rI K) := by
    have H := H.2
    exact e_ret (pc := 21) (v := some (vI (b2i ((¬ v < 0) ∧ (¬ (jshl 1 (4 * n)) ≤ v))))) dX8_fitsSounds_21 rfl (b2i_01 _) ⟨_, rfl, H⟩
  have Ho := H.1
  refine e_lcif_lt (pc := 2) (tgt := 20) dX8_fitsSounds_2 dX8_fitsSounds_3 (by decide) (fun c1 => ?_) (fun c1 => ?_)
  · have Ho := Ho.1 c1
    refine e_iconst (pc := 20) dX8_fitsSounds_20 ⟨by decide, by decide⟩ ?_
    exact e_top (b2i_f (fun z => (fun z => z c1) z.1)) J
  · have Ho := Ho.2 c1
    refine e_lload_n (pc := 6) dX8_fitsSounds_6 rfl rfl ?_
    refine e_lconst (x := 1) (pc := 7) dX8_fitsSounds_7 ⟨by decide, by decide⟩ (by decide) ?_
    refine e_iconst (pc := 8) dX8_fitsSounds_8 ⟨by decide, by decide⟩ ?_
    refine e_iload_n (pc := 9) dX8_fitsSounds_9 rfl rfl ?_
    refine e_imul (pc := 10) dX8_fitsSounds_10 Ho.1 ?_
    have Ho := Ho.2
    refine e_lshl (pc := 11) dX8_fitsSounds_11 ?_
    refine e_lcif_ge (pc := 12) (tgt := 20) dX8_fitsSounds_12 dX8_fitsSounds_13 (by decide) (fun c2 => ?_) (fun c2 => ?_)
    · refine e_iconst (pc := 20) dX8_fitsSounds_20 ⟨by decide, by decide⟩ ?_
      exact e_top (b2i_f (fun z => (fun z => z c2) z.2)) J
    · refine e_iconst (pc := 16) dX8_fitsSounds_16 ⟨by decide, by decide⟩ ?_
      refine e_goto (pc := 17) (tgt := 21) dX8_fitsSounds_17 (by decide) ?_
      exact e_top (b2i_t ⟨c1, c2⟩) J
set_option maxRecDepth 100000 in
set_option maxHeartbeats 4000000 in
theorem c_X8_fitsSounds (w : WD) (n : Int) (v : Int) (h : HP) (H : 1 ≤ n ∧ n ≤ 8) : Ev w Y_X8_fitsSounds 0 [some (vI n), some (vL v), none] [] h (rI (fun r h' => r = b2i (0 ≤ v ∧ v < 16 ^ Int.toNat n) ∧ h' = h)) := by
  refine v_X8_fitsSounds w n v h _ ⟨⟨fun _ => trivial, fun _ => ⟨⟨by omega, by omega⟩, trivial⟩⟩, b2i_c ?_, rfl⟩
  obtain ⟨k, rfl⟩ : ∃ k : Nat, n = (k : Int) := ⟨n.toNat, by omega⟩
  have e : jshl 1 (4 * (k : Int)) = 16 ^ k := by
    have h1 : 2 ^ (4 * k) ≤ 2 ^ 32 := Nat.pow_le_pow_right (by decide) (by omega)
    rw [show (4 * (k : Int)) = ((4 * k : Nat) : Int) by omega, show (1 : Int) = ((1 : Nat) : Int) from rfl, jshl_n (by decide) (by omega) (by omega), Nat.one_mul, Nat.pow_mul, Int.natCast_pow]
    rfl
  rw [e, Int.toNat_natCast]
  omega
set_option maxRecDepth 100000 in
set_option maxHeartbeats 4000000 in
theorem v_X4_isThing (w : WD) (t : Int) (h : HP) (K : Int → HP → Prop) 
    (H : K (b2i ((¬ t < 0) ∧ (¬ (h 1 7) ≤ t))) h) :
    Ev w Y_X4_isThing 0 [some (vR 1), some (vI t)] [] h (rI K) := by
  refine e_iload_n (pc := 0) dX4_isThing_0 rfl rfl ?_
  have J : Ev w Y_X4_isThing 17 [some (vR 1), some (vI t)] [vI (b2i ((¬ t < 0) ∧ (¬ (h 1 7) ≤ t)))] h (rI K) := by
    exact e_ret (pc := 17) (v := some (vI (b2i ((¬ t < 0) ∧ (¬ (h 1 7) ≤ t))))) dX4_isThing_17 rfl (b2i_01 _) ⟨_, rfl, H⟩
  refine e_if_lt (pc := 1) (tgt := 16) dX4_isThing_1 (by decide) (fun c1 => ?_) (fun c1 => ?_)
  · refine e_iconst (pc := 16) dX4_isThing_16 ⟨by decide, by decide⟩ ?_
    exact e_top (b2i_f (fun z => (fun z => z c1) z.1)) J
  · refine e_iload_n (pc := 4) dX4_isThing_4 rfl rfl ?_
    refine e_aload_n (pc := 5) dX4_isThing_5 rfl rfl ?_
    refine e_getI (q := 1) (ci := 4) (k := 7) (kz := 7) (C := RX4) (T := TX4) (N := 10) (x := (h 1 7)) (pc := 6) dX4_isThing_6 rfl rfl rfl ev_in4 rfl ul_1_47 ⟨rfl, by decide⟩ rfl ?_
    refine e_icmp_ge (pc := 9) (tgt := 16) dX4_isThing_9 (by decide) (fun c2 => ?_) (fun c2 => ?_)
    · refine e_iconst (pc := 16) dX4_isThing_16 ⟨by decide, by decide⟩ ?_
      exact e_top (b2i_f (fun z => (fun z => z c2) z.2)) J
    · refine e_iconst (pc := 12) dX4_isThing_12 ⟨by decide, by decide⟩ ?_
      refine e_goto (pc := 13) (tgt := 17) dX4_isThing_13 (by decide) ?_
      exact e_top (b2i_t ⟨c1, c2⟩) J
set_option maxRecDepth 100000 in
set_option maxHeartbeats 4000000 in
theorem c_X4_isThing (w : WD) (t : Int) (h : HP) : Ev w Y_X4_isThing 0 [some (vR 1), some (vI t)] [] h (rI (fun r h' => r = b2i (0 ≤ t ∧ t < h 1 7) ∧ h' = h)) := by
  exact v_X4_isThing w t h _ ⟨b2i_c (by omega), rfl⟩
theorem ro_top (w : WD) {s : Int} (h : 0 ≤ s ∧ s ≤ 3) : ro w 90 s = top s := by
  rcases (show s = 0 ∨ s = 1 ∨ s = 2 ∨ s = 3 by omega) with rfl | rfl | rfl | rfl <;> rfl
set_option maxRecDepth 100000 in
set_option maxHeartbeats 4000000 in
theorem v_X4_canBe (w : WD) (t : Int) (v : Int) (h : HP) (K : Int → HP → Prop) 
    (H : ((((¬ (0 ≤ t ∧ t < h 1 7) → True) ∧ ((0 ≤ t ∧ t < h 1 7) → ((v < 0 → True) ∧ (¬ v < 0 → ((0 ≤ t ∧ t < 10) ∧ ((0 ≤ (h 10 t) ∧ (h 10 t) < 4) ∧ True))))))) ∧ K (b2i (((0 ≤ t ∧ t < h 1 7)) ∧ ((¬ v < 0) ∧ (¬ (ro w 90 (h 10 t)) < v)))) h)) :
    Ev w Y_X4_canBe 0 [some (vR 1), some (vI t), some (vI v)] [] h (rI K) := by
  refine e_aload_n (pc := 0) dX4_canBe_0 rfl rfl ?_
  refine e_iload_n (pc := 1) dX4_canBe_1 rfl rfl ?_
  refine e_invV (pc := 2) (Y' := Y_X4_isThing) (as := [vI t]) (st := []) (lv0 := [some (vR 1), some (vI t)]) (q := 1) (ci := 4) (T := TX4) (N := 10) dX4_canBe_2 m_X4_isThing ul_3_108 ⟨ul_2_150, ul_2_151⟩ ⟨rfl, rfl⟩ rfl rfl rfl rfl rfl rfl rfl (c_X4_isThing w t h) ?_
  rintro _ hz ⟨_, rfl, rfl, hh⟩
  rw [hh]
  show Ev w Y_X4_canBe 5 [some (vR 1), some (vI t), some (vI v)] [vI (b2i (0 ≤ t ∧ t < h 1 7))] h (rI K)
  have J : Ev w Y_X4_canBe 31 [some (vR 1), some (vI t), some (vI v)] [vI (b2i (((0 ≤ t ∧ t < h 1 7)) ∧ ((¬ v < 0) ∧ (¬ (ro w 90 (h 10 t)) < v))))] h (rI K) := by
    have H := H.2
    exact e_ret (pc := 31) (v := some (vI (b2i (((0 ≤ t ∧ t < h 1 7)) ∧ ((¬ v < 0) ∧ (¬ (ro w 90 (h 10 t)) < v)))))) dX4_canBe_31 rfl (b2i_01 _) ⟨_, rfl, H⟩
  have Ho := H.1
  refine e_ifb_eq (pc := 5) (tgt := 30) dX4_canBe_5 (by decide) (fun c1 => ?_) (fun c1 => ?_)
  · have Ho := Ho.1 c1
    refine e_iconst (pc := 30) dX4_canBe_30 ⟨by decide, by decide⟩ ?_
    exact e_top (b2i_f (fun z => c1 z.1)) J
  · have Ho := Ho.2 c1
    refine e_iload_n (pc := 8) dX4_canBe_8 rfl rfl ?_
    refine e_if_lt (pc := 9) (tgt := 30) dX4_canBe_9 (by decide) (fun c2 => ?_) (fun c2 => ?_)
    · have Ho := Ho.1 c2
      refine e_iconst (pc := 30) dX4_canBe_30 ⟨by decide, by decide⟩ ?_
      exact e_top (b2i_f (fun z => (fun z => (fun z => z c2) z.1) z.2)) J
    · have Ho := Ho.2 c2
      refine e_iload_n (pc := 12) dX4_canBe_12 rfl rfl ?_
      refine e_getsN (pc := 13) dX4_canBe_13 nl_5 ?_
      refine e_aload_n (pc := 16) dX4_canBe_16 rfl rfl ?_
      refine e_getR (q := 1) (ci := 4) (k := 1) (y := 10) (C := RX4) (T := TX4) (N := 10) (pc := 17) dX4_canBe_17 rfl rfl ev_in4 rfl ul_1_35 ⟨rfl, rfl⟩ rfl ?_
      refine e_iload_n (pc := 20) dX4_canBe_20 rfl rfl ?_
      refine e_iald (q := 10) (x := (h 10 t)) (pc := 21) dX4_canBe_21 rfl Ho.1 rfl ?_
      have Ho := Ho.2
      refine e_rold (q := 90) (x := (ro w 90 (h 10 t))) (pc := 22) dX4_canBe_22 ⟨by decide, by decide⟩ Ho.1 rfl (ro_R w 90 _) ?_
      have Ho := Ho.2
      refine e_icmp_gt (pc := 23) (tgt := 30) dX4_canBe_23 (by decide) (fun c3 => ?_) (fun c3 => ?_)
      · refine e_iconst (pc := 30) dX4_canBe_30 ⟨by decide, by decide⟩ ?_
        exact e_top (b2i_f (fun z => (fun z => (fun z => z c3) z.2) z.2)) J
      · refine e_iconst (pc := 26) dX4_canBe_26 ⟨by decide, by decide⟩ ?_
        refine e_goto (pc := 27) (tgt := 31) dX4_canBe_27 (by decide) ?_
        exact e_top (b2i_t ⟨c1, ⟨c2, c3⟩⟩) J
set_option maxRecDepth 100000 in
set_option maxHeartbeats 4000000 in
theorem c_X4_canBe (w : WD) (t : Int) (v : Int) (h : HP) (H : HOK h) : Ev w Y_X4_canBe 0 [some (vR 1), some (vI t), some (vI v)] [] h (rI (fun r h' => r = b2i ((0 ≤ t ∧ t < h 1 7) ∧ 0 ≤ v ∧ v ≤ top (h 10 t)) ∧ h' = h)) := by
  have h1 := H.1
  have h2 := H.2.1
  refine v_X4_canBe w t v h _ ⟨⟨fun _ => trivial, fun c => ⟨fun _ => trivial, fun _ => ⟨by omega, ?_, trivial⟩⟩⟩, b2i_c ?_, rfl⟩
  · have := (h2 t (by omega) (by omega)).2.1
    omega
  · by_cases c : 0 ≤ t ∧ t < h 1 7
    · rw [ro_top w (h2 t c.1 (by omega)).2.1]
      simp only [c, true_and, and_self]
      omega
    · simp only [c, false_and]
set_option maxRecDepth 100000 in
set_option maxHeartbeats 4000000 in
theorem v_X4_thingsUnlike (w : WD) (b : Int) (v : Int) (h : HP) (K : Int → HP → Prop) 
    (I1 : Nat → Int → Int → HP → Prop)
    (H : (∃ m : Nat, I1 m 0 0 h))
    (H1 : ∀ (n1 : Nat) (x3 : Int) (x4 : Int) (g1 : HP), I1 n1 x3 x4 g1 → (((g1 1 7) ≤ x4 → K x3 g1) ∧ (¬ (g1 1 7) ≤ x4 → ((inB b x4) ∧ ((((¬ (mem b x4) → True) ∧ ((mem b x4) → ((inS (g1 1 8) ∧ 0 ≤ x4 ∧ x4 < 10) ∧ True)))) ∧ ((((¬ (mem b x4)) ∨ ((dgt (g1 1 8) x4) = v)) → ((iR (x4 + 1)) ∧ (∃ m : Nat, m < n1 ∧ I1 m x3 (x4 + 1) g1))) ∧ (¬ ((¬ (mem b x4)) ∨ ((dgt (g1 1 8) x4) = v)) → ((iR (x4 + 1)) ∧ (∃ m : Nat, m < n1 ∧ I1 m (ior x3 (ishl 1 x4)) (x4 + 1) g1))))))))) :
    Ev w Y_X4_thingsUnlike 0 [some (vR 1), some (vI b), some (vI v), none, none] [] h (rI K) := by
  have L1 : ∀ (n1 : Nat) (x3 : Int) (x4 : Int) (g1 : HP), I1 n1 x3 x4 g1 → Ev w Y_X4_thingsUnlike 5 [some (vR 1), some (vI b), some (vI v), some (vI x3), some (vI x4)] [] g1 (rI K) := by
    intro n1
    induction n1 using Nat.strongRecOn with
    | ind n1 ih1 =>
      intro x3 x4 g1 H
      have H := H1 n1 x3 x4 g1 H
      refine e_iload (pc := 5) dX4_thingsUnlike_5 rfl ?_
      refine e_aload_n (pc := 7) dX4_thingsUnlike_7 rfl rfl ?_
      refine e_getI (q := 1) (ci := 4) (k := 7) (kz := 7) (C := RX4) (T := TX4) (N := 10) (x := (g1 1 7)) (pc := 8) dX4_thingsUnlike_8 rfl rfl rfl ev_in4 rfl ul_1_47 ⟨rfl, by decide⟩ rfl ?_
      refine e_icmp_ge (pc := 11) (tgt := 49) dX4_thingsUnlike_11 (by decide) (fun c1 => ?_) (fun c1 => ?_)
      · have H := H.1 c1
        refine e_iload_n (pc := 49) dX4_thingsUnlike_49 rfl rfl ?_
        exact e_ret (pc := 50) (v := some (vI x3)) dX4_thingsUnlike_50 rfl trivial ⟨_, rfl, H⟩
      · have H := H.2 c1
        refine e_iload_n (pc := 14) dX4_thingsUnlike_14 rfl rfl ?_
        refine e_iload (pc := 15) dX4_thingsUnlike_15 rfl ?_
        refine e_invSN (pc := 17) (Y' := Y_X8_isIn) (as := [vI b, vI x4]) (st := []) (lv0 := [some (vI b), some (vI x4)]) dX4_thingsUnlike_17 m_X8_isIn nl_4 ul_3_102 ⟨rfl, rfl⟩ rfl rfl rfl rfl rfl (c_X8_isIn w b x4 g1 H.1) ?_
        rintro _ hz ⟨_, rfl, rfl, hh⟩
        rw [hh]
        show Ev w Y_X4_thingsUnlike 20 [some (vR 1), some (vI b), some (vI v), some (vI x3), some (vI x4)] [vI (b2i (mem b x4))] g1 (rI K)
        have H := H.2
        have Ho := H.1
        have H := H.2
        have J1 : ((¬ (mem b x4)) ∨ ((dgt (g1 1 8) x4) = v)) → Ev w Y_X4_thingsUnlike 43 [some (vR 1), some (vI b), some (vI v), some (vI x3), some (vI x4)] [] g1 (rI K) := by
          intro hp
          have H := H.1 hp
          refine e_iinc (lv' := [some (vR 1), some (vI b), some (vI v), some (vI x3), some (vI (x4 + 1))]) (pc := 43) dX4_thingsUnlike_43 rfl H.1 rfl rfl ?_
          have H := H.2
          refine e_goto (pc := 46) (tgt := 5) dX4_thingsUnlike_46 (by decide) ?_
          obtain ⟨m, hm, H⟩ := H
          exact ih1 m hm _ _ _ H
        have J2 : ¬ ((¬ (mem b x4)) ∨ ((dgt (g1 1 8) x4) = v)) → Ev w Y_X4_thingsUnlike 36 [some (vR 1), some (vI b), some (vI v), some (vI x3), some (vI x4)] [] g1 (rI K) := by
          intro hp
          have H := H.2 hp
          refine e_iload_n (pc := 36) dX4_thingsUnlike_36 rfl rfl ?_
          refine e_iconst (pc := 37) dX4_thingsUnlike_37 ⟨by decide, by decide⟩ ?_
          refine e_iload (pc := 38) dX4_thingsUnlike_38 rfl ?_
          refine e_ishl (pc := 40) dX4_thingsUnlike_40 ?_
          refine e_ior (pc := 41) dX4_thingsUnlike_41 ?_
          refine e_istore_n (lv' := [some (vR 1), some (vI b), some (vI v), some (vI (ior x3 (ishl 1 x4))), some (vI x4)]) (pc := 42) dX4_thingsUnlike_42 rfl rfl rfl ?_
          refine e_iinc (lv' := [some (vR 1), some (vI b), some (vI v), some (vI (ior x3 (ishl 1 x4))), some (vI (x4 + 1))]) (pc := 43) dX4_thingsUnlike_43 rfl H.1 rfl rfl ?_
          have H := H.2
          refine e_goto (pc := 46) (tgt := 5) dX4_thingsUnlike_46 (by decide) ?_
          obtain ⟨m, hm, H⟩ := H
          exact ih1 m hm _ _ _ H
        refine e_ifb_eq (pc := 20) (tgt := 43) dX4_thingsUnlike_20 (by decide) (fun c2 => ?_) (fun c2 => ?_)
        · have Ho := Ho.1 c2
          exact J1 (Or.inl c2)
        · have Ho := Ho.2 c2
          refine e_aload_n (pc := 23) dX4_thingsUnlike_23 rfl rfl ?_
          refine e_getI (q := 1) (ci := 4) (k := 8) (kz := 8) (C := RX4) (T := TX4) (N := 10) (x := (g1 1 8)) (pc := 24) dX4_thingsUnlike_24 rfl rfl rfl ev_in4 rfl ul_1_51 ⟨rfl, by decide⟩ rfl ?_
          refine e_iload (pc := 27) dX4_thingsUnlike_27 rfl ?_
          refine e_invSN (pc := 29) (Y' := Y_X8_stateIn) (as := [vI (g1 1 8), vI x4]) (st := []) (lv0 := [some (vI (g1 1 8)), some (vI x4)]) dX4_thingsUnlike_29 m_X8_stateIn nl_7 ul_2_154 ⟨rfl, rfl⟩ rfl rfl rfl rfl rfl (c_X8_stateIn w (g1 1 8) x4 g1 Ho.1) ?_
          rintro _ hz ⟨_, rfl, rfl, hh⟩
          rw [hh]
          show Ev w Y_X4_thingsUnlike 32 [some (vR 1), some (vI b), some (vI v), some (vI x3), some (vI x4)] [vI (dgt (g1 1 8) x4)] g1 (rI K)
          have Ho := Ho.2
          refine e_iload_n (pc := 32) dX4_thingsUnlike_32 rfl rfl ?_
          refine e_icmp_eq (pc := 33) (tgt := 43) dX4_thingsUnlike_33 (by decide) (fun c3 => ?_) (fun c3 => ?_)
          · exact J1 (Or.inr c3)
          · exact J2 (fun z => z.elim (fun z => z c2) c3)
  refine e_iconst (pc := 0) dX4_thingsUnlike_0 ⟨by decide, by decide⟩ ?_
  refine e_istore_n (lv' := [some (vR 1), some (vI b), some (vI v), some (vI 0), none]) (pc := 1) dX4_thingsUnlike_1 rfl rfl rfl ?_
  refine e_iconst (pc := 2) dX4_thingsUnlike_2 ⟨by decide, by decide⟩ ?_
  refine e_istore (lv' := [some (vR 1), some (vI b), some (vI v), some (vI 0), some (vI 0)]) (pc := 3) dX4_thingsUnlike_3 rfl rfl ?_
  obtain ⟨m, H⟩ := H
  exact L1 m _ _ _ H
set_option maxRecDepth 100000 in
set_option maxHeartbeats 4000000 in
theorem c_X4_thingsUnlike (w : WD) (b : Int) (v : Int) (h : HP) (H : HOK h ∧ (0 ≤ b ∧ b < 1024)) : Ev w Y_X4_thingsUnlike 0 [some (vR 1), some (vI b), some (vI v), none, none] [] h (rI (fun r h' => r = (bset (fun t => t < h 1 7 ∧ mem b t ∧ ¬ dgt (h 1 8) t = v) 10) ∧ h' = h)) := by
  obtain ⟨hH, hb⟩ := H
  have h1 := hH.1
  refine v_X4_thingsUnlike w b v h _ (fun n x3 x4 g => g = h ∧ (0 ≤ x4 ∧ x4 ≤ h 1 7) ∧ n = (10 - x4).toNat ∧ x3 = bset (fun t => t < h 1 7 ∧ mem b t ∧ ¬ dgt (h 1 8) t = v) x4.toNat) ⟨10, rfl, by omega, rfl, rfl⟩ ?_
  rintro n x3 x4 g ⟨rfl, h0, rfl, rfl⟩
  refine ⟨fun c => ⟨?_, rfl⟩, fun c => ⟨⟨⟨hb.1, by omega⟩, h0.1, by omega⟩, ⟨fun _ => trivial, fun _ => ⟨⟨hH.2.2.1, by omega, by omega⟩, trivial⟩⟩, fun c2 => ⟨⟨by omega, by omega⟩, (10 - (x4 + 1)).toNat, by omega, rfl, by omega, rfl, bset_skip h0.1 (fun z => c2.elim (fun q => q z.2.1) (fun q => z.2.2 q))⟩, fun c2 => ⟨⟨by omega, by omega⟩, (10 - (x4 + 1)).toNat, by omega, rfl, by omega, rfl, bset_next h0.1 (by omega) ⟨by omega, Classical.not_not.mp (fun z => c2 (Or.inl z)), fun z => c2 (Or.inr z)⟩⟩⟩⟩
  exact (bset_past (by omega) (fun i a b z => by omega)).symm
set_option maxRecDepth 100000 in
set_option maxHeartbeats 4000000 in
theorem v_X4_thingsThere (w : WD) (so : Int) (rm : Int) (h : HP) (K : Int → HP → Prop) 
    (I1 : Nat → Int → Int → HP → Prop)
    (H : (∃ m : Nat, I1 m 0 0 h))
    (H1 : ∀ (n1 : Nat) (x3 : Int) (x4 : Int) (g1 : HP), I1 n1 x3 x4 g1 → (((g1 1 7) ≤ x4 → K x3 g1) ∧ (¬ (g1 1 7) ≤ x4 → ((0 ≤ x4 ∧ x4 < 10) ∧ ((((¬ (g1 10 x4) = so → True) ∧ ((g1 10 x4) = so → ((0 ≤ x4 ∧ x4 < 10) ∧ True)))) ∧ (((((g1 10 x4) = so) ∧ ((g1 9 x4) = rm)) → ((iR (x4 + 1)) ∧ (∃ m : Nat, m < n1 ∧ I1 m (ior x3 (ishl 1 x4)) (x4 + 1) g1))) ∧ (¬ (((g1 10 x4) = so) ∧ ((g1 9 x4) = rm)) → ((iR (x4 + 1)) ∧ (∃ m : Nat, m < n1 ∧ I1 m x3 (x4 + 1) g1))))))))) :
    Ev w Y_X4_thingsThere 0 [some (vR 1), some (vI so), some (vI rm), none, none] [] h (rI K) := by
  have L1 : ∀ (n1 : Nat) (x3 : Int) (x4 : Int) (g1 : HP), I1 n1 x3 x4 g1 → Ev w Y_X4_thingsThere 5 [some (vR 1), some (vI so), some (vI rm), some (vI x3), some (vI x4)] [] g1 (rI K) := by
    intro n1
    induction n1 using Nat.strongRecOn with
    | ind n1 ih1 =>
      intro x3 x4 g1 H
      have H := H1 n1 x3 x4 g1 H
      refine e_iload (pc := 5) dX4_thingsThere_5 rfl ?_
      refine e_aload_n (pc := 7) dX4_thingsThere_7 rfl rfl ?_
      refine e_getI (q := 1) (ci := 4) (k := 7) (kz := 7) (C := RX4) (T := TX4) (N := 10) (x := (g1 1 7)) (pc := 8) dX4_thingsThere_8 rfl rfl rfl ev_in4 rfl ul_1_47 ⟨rfl, by decide⟩ rfl ?_
      refine e_icmp_ge (pc := 11) (tgt := 49) dX4_thingsThere_11 (by decide) (fun c1 => ?_) (fun c1 => ?_)
      · have H := H.1 c1
        refine e_iload_n (pc := 49) dX4_thingsThere_49 rfl rfl ?_
        exact e_ret (pc := 50) (v := some (vI x3)) dX4_thingsThere_50 rfl trivial ⟨_, rfl, H⟩
      · have H := H.2 c1
        refine e_aload_n (pc := 14) dX4_thingsThere_14 rfl rfl ?_
        refine e_getR (q := 1) (ci := 4) (k := 1) (y := 10) (C := RX4) (T := TX4) (N := 10) (pc := 15) dX4_thingsThere_15 rfl rfl ev_in4 rfl ul_1_35 ⟨rfl, rfl⟩ rfl ?_
        refine e_iload (pc := 18) dX4_thingsThere_18 rfl ?_
        refine e_iald (q := 10) (x := (g1 10 x4)) (pc := 20) dX4_thingsThere_20 rfl H.1 rfl ?_
        have H := H.2
        refine e_iload_n (pc := 21) dX4_thingsThere_21 rfl rfl ?_
        have Ho := H.1
        have H := H.2
        have J1 : (((g1 10 x4) = so) ∧ ((g1 9 x4) = rm)) → Ev w Y_X4_thingsThere 36 [some (vR 1), some (vI so), some (vI rm), some (vI x3), some (vI x4)] [] g1 (rI K) := by
          intro hp
          have H := H.1 hp
          refine e_iload_n (pc := 36) dX4_thingsThere_36 rfl rfl ?_
          refine e_iconst (pc := 37) dX4_thingsThere_37 ⟨by decide, by decide⟩ ?_
          refine e_iload (pc := 38) dX4_thingsThere_38 rfl ?_
          refine e_ishl (pc := 40) dX4_thingsThere_40 ?_
          refine e_ior (pc := 41) dX4_thingsThere_41 ?_
          refine e_istore_n (lv' := [some (vR 1), some (vI so), some (vI rm), some (vI (ior x3 (ishl 1 x4))), some (vI x4)]) (pc := 42) dX4_thingsThere_42 rfl rfl rfl ?_
          refine e_iinc (lv' := [some (vR 1), some (vI so), some (vI rm), some (vI (ior x3 (ishl 1 x4))), some (vI (x4 + 1))]) (pc := 43) dX4_thingsThere_43 rfl H.1 rfl rfl ?_
          have H := H.2
          refine e_goto (pc := 46) (tgt := 5) dX4_thingsThere_46 (by decide) ?_
          obtain ⟨m, hm, H⟩ := H
          exact ih1 m hm _ _ _ H
        have J2 : ¬ (((g1 10 x4) = so) ∧ ((g1 9 x4) = rm)) → Ev w Y_X4_thingsThere 43 [some (vR 1), some (vI so), some (vI rm), some (vI x3), some (vI x4)] [] g1 (rI K) := by
          intro hp
          have H := H.2 hp
          refine e_iinc (lv' := [some (vR 1), some (vI so), some (vI rm), some (vI x3), some (vI (x4 + 1))]) (pc := 43) dX4_thingsThere_43 rfl H.1 rfl rfl ?_
          have H := H.2
          refine e_goto (pc := 46) (tgt := 5) dX4_thingsThere_46 (by decide) ?_
          obtain ⟨m, hm, H⟩ := H
          exact ih1 m hm _ _ _ H
        refine e_icmp_ne (pc := 22) (tgt := 43) dX4_thingsThere_22 (by decide) (fun c2 => ?_) (fun c2 => ?_)
        · have Ho := Ho.1 c2
          exact J2 (fun z => c2 z.1)
        · have Ho := Ho.2 c2
          refine e_aload_n (pc := 25) dX4_thingsThere_25 rfl rfl ?_
          refine e_getR (q := 1) (ci := 4) (k := 0) (y := 9) (C := RX4) (T := TX4) (N := 10) (pc := 26) dX4_thingsThere_26 rfl rfl ev_in4 rfl ul_1_33 ⟨rfl, rfl⟩ rfl ?_
          refine e_iload (pc := 29) dX4_thingsThere_29 rfl ?_
          refine e_iald (q := 9) (x := (g1 9 x4)) (pc := 31) dX4_thingsThere_31 rfl Ho.1 rfl ?_
          have Ho := Ho.2
          refine e_iload_n (pc := 32) dX4_thingsThere_32 rfl rfl ?_
          refine e_icmp_ne (pc := 33) (tgt := 43) dX4_thingsThere_33 (by decide) (fun c3 => ?_) (fun c3 => ?_)
          · exact J2 (fun z => c3 z.2)
          · exact J1 ⟨c2, c3⟩
  refine e_iconst (pc := 0) dX4_thingsThere_0 ⟨by decide, by decide⟩ ?_
  refine e_istore_n (lv' := [some (vR 1), some (vI so), some (vI rm), some (vI 0), none]) (pc := 1) dX4_thingsThere_1 rfl rfl rfl ?_
  refine e_iconst (pc := 2) dX4_thingsThere_2 ⟨by decide, by decide⟩ ?_
  refine e_istore (lv' := [some (vR 1), some (vI so), some (vI rm), some (vI 0), some (vI 0)]) (pc := 3) dX4_thingsThere_3 rfl rfl ?_
  obtain ⟨m, H⟩ := H
  exact L1 m _ _ _ H
set_option maxRecDepth 100000 in
set_option maxHeartbeats 4000000 in
theorem c_X4_thingsThere (w : WD) (so : Int) (rm : Int) (h : HP) (H : HOK h) : Ev w Y_X4_thingsThere 0 [some (vR 1), some (vI so), some (vI rm), none, none] [] h (rI (fun r h' => r = (bset (fun t => t < h 1 7 ∧ h 10 t = so ∧ h 9 t = rm) 10) ∧ h' = h)) := by
  have h1 := H.1
  refine v_X4_thingsThere w so rm h _ (fun n x3 x4 g => g = h ∧ (0 ≤ x4 ∧ x4 ≤ h 1 7) ∧ n = (10 - x4).toNat ∧ x3 = bset (fun t => t < h 1 7 ∧ h 10 t = so ∧ h 9 t = rm) x4.toNat) ⟨10, rfl, by omega, rfl, rfl⟩ ?_
  rintro n x3 x4 g ⟨rfl, h0, rfl, rfl⟩
  refine ⟨fun c => ⟨?_, rfl⟩, fun c => ⟨by omega, ⟨fun _ => trivial, fun _ => ⟨by omega, trivial⟩⟩, fun c2 => ⟨⟨by omega, by omega⟩, (10 - (x4 + 1)).toNat, by omega, rfl, by omega, rfl, bset_next h0.1 (by omega) ⟨by omega, c2⟩⟩, fun c2 => ⟨⟨by omega, by omega⟩, (10 - (x4 + 1)).toNat, by omega, rfl, by omega, rfl, bset_skip h0.1 (fun z => c2 z.2)⟩⟩⟩
  exact (bset_past (by omega) (fun i a b z => by omega)).symm
set_option maxRecDepth 100000 in
set_option maxHeartbeats 4000000 in
theorem v_X4_thingsThatCanBe (w : WD) (b : Int) (v : Int) (h : HP) (K : Int → HP → Prop) 
    (I1 : Nat → Int → Int → HP → Prop)
    (H : (∃ m : Nat, I1 m 0 0 h))
    (H1 : ∀ (n1 : Nat) (x3 : Int) (x4 : Int) (g1 : HP), I1 n1 x3 x4 g1 → (((g1 1 7) ≤ x4 → K x3 g1) ∧ (¬ (g1 1 7) ≤ x4 → ((inB b x4) ∧ ((((¬ (mem b x4) → True) ∧ ((mem b x4) → ((HOK g1) ∧ True)))) ∧ (((((mem b x4)) ∧ (((0 ≤ x4 ∧ x4 < g1 1 7) ∧ 0 ≤ v ∧ v ≤ top (g1 10 x4)))) → ((iR (x4 + 1)) ∧ (∃ m : Nat, m < n1 ∧ I1 m (ior x3 (ishl 1 x4)) (x4 + 1) g1))) ∧ (¬ (((mem b x4)) ∧ (((0 ≤ x4 ∧ x4 < g1 1 7) ∧ 0 ≤ v ∧ v ≤ top (g1 10 x4)))) → ((iR (x4 + 1)) ∧ (∃ m : Nat, m < n1 ∧ I1 m x3 (x4 + 1) g1))))))))) :
    Ev w Y_X4_thingsThatCanBe 0 [some (vR 1), some (vI b), some (vI v), none, none] [] h (rI K) := by
  have L1 : ∀ (n1 : Nat) (x3 : Int) (x4 : Int) (g1 : HP), I1 n1 x3 x4 g1 → Ev w Y_X4_thingsThatCanBe 5 [some (vR 1), some (vI b), some (vI v), some (vI x3), some (vI x4)] [] g1 (rI K) := by
    intro n1
    induction n1 using Nat.strongRecOn with
    | ind n1 ih1 =>
      intro x3 x4 g1 H
      have H := H1 n1 x3 x4 g1 H
      refine e_iload (pc := 5) dX4_thingsThatCanBe_5 rfl ?_
      refine e_aload_n (pc := 7) dX4_thingsThatCanBe_7 rfl rfl ?_
      refine e_getI (q := 1) (ci := 4) (k := 7) (kz := 7) (C := RX4) (T := TX4) (N := 10) (x := (g1 1 7)) (pc := 8) dX4_thingsThatCanBe_8 rfl rfl rfl ev_in4 rfl ul_1_47 ⟨rfl, by decide⟩ rfl ?_
      refine e_icmp_ge (pc := 11) (tgt := 46) dX4_thingsThatCanBe_11 (by decide) (fun c1 => ?_) (fun c1 => ?_)
      · have H := H.1 c1
        refine e_iload_n (pc := 46) dX4_thingsThatCanBe_46 rfl rfl ?_
        exact e_ret (pc := 47) (v := some (vI x3)) dX4_thingsThatCanBe_47 rfl trivial ⟨_, rfl, H⟩
      · have H := H.2 c1
        refine e_iload_n (pc := 14) dX4_thingsThatCanBe_14 rfl rfl ?_
        refine e_iload (pc := 15) dX4_thingsThatCanBe_15 rfl ?_
        refine e_invSN (pc := 17) (Y' := Y_X8_isIn) (as := [vI b, vI x4]) (st := []) (lv0 := [some (vI b), some (vI x4)]) dX4_thingsThatCanBe_17 m_X8_isIn nl_4 ul_3_102 ⟨rfl, rfl⟩ rfl rfl rfl rfl rfl (c_X8_isIn w b x4 g1 H.1) ?_
        rintro _ hz ⟨_, rfl, rfl, hh⟩
        rw [hh]
        show Ev w Y_X4_thingsThatCanBe 20 [some (vR 1), some (vI b), some (vI v), some (vI x3), some (vI x4)] [vI (b2i (mem b x4))] g1 (rI K)
        have H := H.2
        have Ho := H.1
        have H := H.2
        have J1 : (((mem b x4)) ∧ (((0 ≤ x4 ∧ x4 < g1 1 7) ∧ 0 ≤ v ∧ v ≤ top (g1 10 x4)))) → Ev w Y_X4_thingsThatCanBe 33 [some (vR 1), some (vI b), some (vI v), some (vI x3), some (vI x4)] [] g1 (rI K) := by
          intro hp
          have H := H.1 hp
          refine e_iload_n (pc := 33) dX4_thingsThatCanBe_33 rfl rfl ?_
          refine e_iconst (pc := 34) dX4_thingsThatCanBe_34 ⟨by decide, by decide⟩ ?_
          refine e_iload (pc := 35) dX4_thingsThatCanBe_35 rfl ?_
          refine e_ishl (pc := 37) dX4_thingsThatCanBe_37 ?_
          refine e_ior (pc := 38) dX4_thingsThatCanBe_38 ?_
          refine e_istore_n (lv' := [some (vR 1), some (vI b), some (vI v), some (vI (ior x3 (ishl 1 x4))), some (vI x4)]) (pc := 39) dX4_thingsThatCanBe_39 rfl rfl rfl ?_
          refine e_iinc (lv' := [some (vR 1), some (vI b), some (vI v), some (vI (ior x3 (ishl 1 x4))), some (vI (x4 + 1))]) (pc := 40) dX4_thingsThatCanBe_40 rfl H.1 rfl rfl ?_
          have H := H.2
          refine e_goto (pc := 43) (tgt := 5) dX4_thingsThatCanBe_43 (by decide) ?_
          obtain ⟨m, hm, H⟩ := H
          exact ih1 m hm _ _ _ H
        have J2 : ¬ (((mem b x4)) ∧ (((0 ≤ x4 ∧ x4 < g1 1 7) ∧ 0 ≤ v ∧ v ≤ top (g1 10 x4)))) → Ev w Y_X4_thingsThatCanBe 40 [some (vR 1), some (vI b), some (vI v), some (vI x3), some (vI x4)] [] g1 (rI K) := by
          intro hp
          have H := H.2 hp
          refine e_iinc (lv' := [some (vR 1), some (vI b), some (vI v), some (vI x3), some (vI (x4 + 1))]) (pc := 40) dX4_thingsThatCanBe_40 rfl H.1 rfl rfl ?_
          have H := H.2
          refine e_goto (pc := 43) (tgt := 5) dX4_thingsThatCanBe_43 (by decide) ?_
          obtain ⟨m, hm, H⟩ := H
          exact ih1 m hm _ _ _ H
        refine e_ifb_eq (pc := 20) (tgt := 40) dX4_thingsThatCanBe_20 (by decide) (fun c2 => ?_) (fun c2 => ?_)
        · have Ho := Ho.1 c2
          exact J2 (fun z => c2 z.1)
        · have Ho := Ho.2 c2
          refine e_aload_n (pc := 23) dX4_thingsThatCanBe_23 rfl rfl ?_
          refine e_iload (pc := 24) dX4_thingsThatCanBe_24 rfl ?_
          refine e_iload_n (pc := 26) dX4_thingsThatCanBe_26 rfl rfl ?_
          refine e_invV (pc := 27) (Y' := Y_X4_canBe) (as := [vI x4, vI v]) (st := []) (lv0 := [some (vR 1), some (vI x4), some (vI v)]) (q := 1) (ci := 4) (T := TX4) (N := 10) dX4_thingsThatCanBe_27 m_X4_canBe ul_3_104 ⟨ul_3_105, ul_3_106⟩ ⟨rfl, rfl⟩ rfl rfl rfl rfl rfl rfl rfl (c_X4_canBe w x4 v g1 Ho.1) ?_
          rintro _ hz ⟨_, rfl, rfl, hh⟩
          rw [hh]
          show Ev w Y_X4_thingsThatCanBe 30 [some (vR 1), some (vI b), some (vI v), some (vI x3), some (vI x4)] [vI (b2i ((0 ≤ x4 ∧ x4 < g1 1 7) ∧ 0 ≤ v ∧ v ≤ top (g1 10 x4)))] g1 (rI K)
          have Ho := Ho.2
          refine e_ifb_eq (pc := 30) (tgt := 40) dX4_thingsThatCanBe_30 (by decide) (fun c3 => ?_) (fun c3 => ?_)
          · exact J2 (fun z => c3 z.2)
          · exact J1 ⟨c2, c3⟩
  refine e_iconst (pc := 0) dX4_thingsThatCanBe_0 ⟨by decide, by decide⟩ ?_
  refine e_istore_n (lv' := [some (vR 1), some (vI b), some (vI v), some (vI 0), none]) (pc := 1) dX4_thingsThatCanBe_1 rfl rfl rfl ?_
  refine e_iconst (pc := 2) dX4_thingsThatCanBe_2 ⟨by decide, by decide⟩ ?_
  refine e_istore (lv' := [some (vR 1), some (vI b), some (vI v), some (vI 0), some (vI 0)]) (pc := 3) dX4_thingsThatCanBe_3 rfl rfl ?_
  obtain ⟨m, H⟩ := H
  exact L1 m _ _ _ H
set_option maxRecDepth 100000 in
set_option maxHeartbeats 4000000 in
theorem c_X4_thingsThatCanBe (w : WD) (b : Int) (v : Int) (h : HP) (H : HOK h ∧ (0 ≤ b ∧ b < 1024)) : Ev w Y_X4_thingsThatCanBe 0 [some (vR 1), some (vI b), some (vI v), none, none] [] h (rI (fun r h' => r = (bset (fun t => t < h 1 7 ∧ mem b t ∧ 0 ≤ v ∧ v ≤ top (h 10 t)) 10) ∧ h' = h)) := by
  obtain ⟨hH, hb⟩ := H
  have h1 := hH.1
  refine v_X4_thingsThatCanBe w b v h _ (fun n x3 x4 g => g = h ∧ (0 ≤ x4 ∧ x4 ≤ h 1 7) ∧ n = (10 - x4).toNat ∧ x3 = bset (fun t => t < h 1 7 ∧ mem b t ∧ 0 ≤ v ∧ v ≤ top (h 10 t)) x4.toNat) ⟨10, rfl, by omega, rfl, rfl⟩ ?_
  rintro n x3 x4 g ⟨rfl, h0, rfl, rfl⟩
  refine ⟨fun c => ⟨?_, rfl⟩, fun c => ⟨⟨⟨hb.1, by omega⟩, h0.1, by omega⟩, ⟨fun _ => trivial, fun _ => ⟨hH, trivial⟩⟩, fun c2 => ⟨⟨by omega, by omega⟩, (10 - (x4 + 1)).toNat, by omega, rfl, by omega, rfl, bset_next h0.1 (by omega) ⟨by omega, c2.1, c2.2.2⟩⟩, fun c2 => ⟨⟨by omega, by omega⟩, (10 - (x4 + 1)).toNat, by omega, rfl, by omega, rfl, bset_skip h0.1 (fun z => c2 ⟨z.2.1, ⟨h0.1, z.1⟩, z.2.2⟩)⟩⟩⟩
  exact (bset_past (by omega) (fun i a b z => by omega)).symm
def S_X4_addThing (a1 : Int) (a2 : Int) (a3 : Int) (h : HP) (K : Int → HP → Prop) : Prop :=
  (((h 1 7) < 10 → ((0 ≤ (h 1 7) ∧ (h 1 7) < 10) ∧ ((0 ≤ (h 1 7) ∧ (h 1 7) < 10) ∧ ((0 ≤ (h 1 7) ∧ (h 1 7) < 10) ∧ ((iR ((h 1 7) + 1)) ∧ ((iR (((h 1 7) + 1) - 1)) ∧ K (((h 1 7) + 1) - 1) (sth (sth (sth (sth h 9 (h 1 7) a1) 10 (h 1 7) a2) 11 (h 1 7) a3) 1 7 ((h 1 7) + 1)))))))) ∧ (¬ (h 1 7) < 10 → K (-3) h))
set_option maxRecDepth 100000 in
set_option maxHeartbeats 4000000 in
theorem v_X4_addThing (w : WD) (a1 : Int) (a2 : Int) (a3 : Int) (h : HP) (K : Int → HP → Prop) 
    (H : (((h 1 7) < 10 → ((0 ≤ (h 1 7) ∧ (h 1 7) < 10) ∧ ((0 ≤ (h 1 7) ∧ (h 1 7) < 10) ∧ ((0 ≤ (h 1 7) ∧ (h 1 7) < 10) ∧ ((iR ((h 1 7) + 1)) ∧ ((iR (((h 1 7) + 1) - 1)) ∧ K (((h 1 7) + 1) - 1) (sth (sth (sth (sth h 9 (h 1 7) a1) 10 (h 1 7) a2) 11 (h 1 7) a3) 1 7 ((h 1 7) + 1)))))))) ∧ (¬ (h 1 7) < 10 → K (-3) h))) :
    Ev w Y_X4_addThing 0 [some (vR 1), some (vI a1), some (vI a2), some (vI a3)] [] h (rI K) := by
  refine e_aload_n (pc := 0) dX4_addThing_0 rfl rfl ?_
  refine e_getI (q := 1) (ci := 4) (k := 7) (kz := 7) (C := RX4) (T := TX4) (N := 10) (x := (h 1 7)) (pc := 1) dX4_addThing_1 rfl rfl rfl ev_in4 rfl ul_1_47 ⟨rfl, by decide⟩ rfl ?_
  refine e_bipush (pc := 4) dX4_addThing_4 ⟨by decide, by decide⟩ (by decide) ?_
  refine e_icmp_lt (pc := 6) (tgt := 12) dX4_addThing_6 (by decide) (fun c1 => ?_) (fun c1 => ?_)
  · have H := H.1 c1
    refine e_aload_n (pc := 12) dX4_addThing_12 rfl rfl ?_
    refine e_getR (q := 1) (ci := 4) (k := 0) (y := 9) (C := RX4) (T := TX4) (N := 10) (pc := 13) dX4_addThing_13 rfl rfl ev_in4 rfl ul_1_33 ⟨rfl, rfl⟩ rfl ?_
    refine e_aload_n (pc := 16) dX4_addThing_16 rfl rfl ?_
    refine e_getI (q := 1) (ci := 4) (k := 7) (kz := 7) (C := RX4) (T := TX4) (N := 10) (x := (h 1 7)) (pc := 17) dX4_addThing_17 rfl rfl rfl ev_in4 rfl ul_1_47 ⟨rfl, by decide⟩ rfl ?_
    refine e_iload_n (pc := 20) dX4_addThing_20 rfl rfl ?_
    refine e_iast (q := 9) (pc := 21) dX4_addThing_21 rfl H.1 ?_
    have H := H.2
    refine e_aload_n (pc := 22) dX4_addThing_22 rfl rfl ?_
    refine e_getR (q := 1) (ci := 4) (k := 1) (y := 10) (C := RX4) (T := TX4) (N := 10) (pc := 23) dX4_addThing_23 rfl rfl ev_in4 rfl ul_1_35 ⟨rfl, rfl⟩ rfl ?_
    refine e_aload_n (pc := 26) dX4_addThing_26 rfl rfl ?_
    refine e_getI (q := 1) (ci := 4) (k := 7) (kz := 7) (C := RX4) (T := TX4) (N := 10) (x := (h 1 7)) (pc := 27) dX4_addThing_27 rfl rfl rfl ev_in4 rfl ul_1_47 ⟨rfl, by decide⟩ rfl ?_
    refine e_iload_n (pc := 30) dX4_addThing_30 rfl rfl ?_
    refine e_iast (q := 10) (pc := 31) dX4_addThing_31 rfl H.1 ?_
    have H := H.2
    refine e_aload_n (pc := 32) dX4_addThing_32 rfl rfl ?_
    refine e_getR (q := 1) (ci := 4) (k := 2) (y := 11) (C := RX4) (T := TX4) (N := 10) (pc := 33) dX4_addThing_33 rfl rfl ev_in4 rfl ul_1_37 ⟨rfl, rfl⟩ rfl ?_
    refine e_aload_n (pc := 36) dX4_addThing_36 rfl rfl ?_
    refine e_getI (q := 1) (ci := 4) (k := 7) (kz := 7) (C := RX4) (T := TX4) (N := 10) (x := (h 1 7)) (pc := 37) dX4_addThing_37 rfl rfl rfl ev_in4 rfl ul_1_47 ⟨rfl, by decide⟩ rfl ?_
    refine e_iload_n (pc := 40) dX4_addThing_40 rfl rfl ?_
    refine e_iast (q := 11) (pc := 41) dX4_addThing_41 rfl H.1 ?_
    have H := H.2
    refine e_aload_n (pc := 42) dX4_addThing_42 rfl rfl ?_
    refine e_dup (pc := 43) dX4_addThing_43 rfl ?_
    refine e_getI (q := 1) (ci := 4) (k := 7) (kz := 7) (C := RX4) (T := TX4) (N := 10) (x := (h 1 7)) (pc := 44) dX4_addThing_44 rfl rfl rfl ev_in4 rfl ul_1_47 ⟨rfl, by decide⟩ rfl ?_
    refine e_iconst (pc := 47) dX4_addThing_47 ⟨by decide, by decide⟩ ?_
    refine e_iadd (pc := 48) dX4_addThing_48 H.1 ?_
    have H := H.2
    refine e_put (q := 1) (ci := 4) (k := 7) (kz := 7) (C := RX4) (T := TX4) (N := 10) (ty := .int) (pc := 49) dX4_addThing_49 rfl rfl rfl ev_in4 tyX4 tyX4_ok nmX4 rfl ul_1_47 ⟨rfl, by decide⟩ rfl (tyX4_ok 7 (by decide)) (Or.inl rfl) ?_
    refine e_aload_n (pc := 52) dX4_addThing_52 rfl rfl ?_
    refine e_getI (q := 1) (ci := 4) (k := 7) (kz := 7) (C := RX4) (T := TX4) (N := 10) (x := ((h 1 7) + 1)) (pc := 53) dX4_addThing_53 rfl rfl rfl ev_in4 rfl ul_1_47 ⟨rfl, by decide⟩ rfl ?_
    refine e_iconst (pc := 56) dX4_addThing_56 ⟨by decide, by decide⟩ ?_
    refine e_isub (pc := 57) dX4_addThing_57 H.1 ?_
    have H := H.2
    exact e_ret (pc := 58) (v := some (vI (((h 1 7) + 1) - 1))) dX4_addThing_58 rfl trivial ⟨_, rfl, H⟩
  · have H := H.2 c1
    refine e_bipush (pc := 9) dX4_addThing_9 ⟨by decide, by decide⟩ (by decide) ?_
    exact e_ret (pc := 11) (v := some (vI (-3))) dX4_addThing_11 rfl trivial ⟨_, rfl, H⟩
theorem c_X4_addThing (w : WD) (a1 : Int) (a2 : Int) (a3 : Int) (h : HP) (K : Int → HP → Prop)  (H : S_X4_addThing a1 a2 a3 h K) : Ev w Y_X4_addThing 0 [some (vR 1), some (vI a1), some (vI a2), some (vI a3)] [] h (rI K) := v_X4_addThing w a1 a2 a3 h K  H
def S_X4_move (a1 : Int) (a2 : Int) (h : HP) (K : Int → HP → Prop) : Prop :=
  ((0 ≤ a1 ∧ a1 < 6) ∧ (((h 14 a1) = (-1) → ((a2 = (-1) → ((0 ≤ a1 ∧ a1 < 6) ∧ K (h 14 a1) (sth h 14 a1 a2))) ∧ (¬ a2 = (-1) → ((0 ≤ a2 ∧ a2 < 5) ∧ ((iR ((h 15 a2) + 1)) ∧ ((0 ≤ a2 ∧ a2 < 5) ∧ ((0 ≤ a1 ∧ a1 < 6) ∧ K (h 14 a1) (sth (sth h 15 a2 ((h 15 a2) + 1)) 14 a1 a2)))))))) ∧ (¬ (h 14 a1) = (-1) → ((0 ≤ (h 14 a1) ∧ (h 14 a1) < 5) ∧ ((iR ((h 15 (h 14 a1)) - 1)) ∧ ((0 ≤ (h 14 a1) ∧ (h 14 a1) < 5) ∧ ((a2 = (-1) → ((0 ≤ a1 ∧ a1 < 6) ∧ K (h 14 a1) (sth (sth h 15 (h 14 a1) ((h 15 (h 14 a1)) - 1)) 14 a1 a2))) ∧ (¬ a2 = (-1) → ((0 ≤ a2 ∧ a2 < 5) ∧ ((iR (((sth h 15 (h 14 a1) ((h 15 (h 14 a1)) - 1)) 15 a2) + 1)) ∧ ((0 ≤ a2 ∧ a2 < 5) ∧ ((0 ≤ a1 ∧ a1 < 6) ∧ K (h 14 a1) (sth (sth (sth h 15 (h 14 a1) ((h 15 (h 14 a1)) - 1)) 15 a2 (((sth h 15 (h 14 a1) ((h 15 (h 14 a1)) - 1)) 15 a2) + 1)) 14 a1 a2)))))))))))))
set_option maxRecDepth 100000 in
set_option maxHeartbeats 4000000 in
theorem v_X4_move (w : WD) (a1 : Int) (a2 : Int) (h : HP) (K : Int → HP → Prop) 
    (H : ((0 ≤ a1 ∧ a1 < 6) ∧ (((h 14 a1) = (-1) → ((a2 = (-1) → ((0 ≤ a1 ∧ a1 < 6) ∧ K (h 14 a1) (sth h 14 a1 a2))) ∧ (¬ a2 = (-1) → ((0 ≤ a2 ∧ a2 < 5) ∧ ((iR ((h 15 a2) + 1)) ∧ ((0 ≤ a2 ∧ a2 < 5) ∧ ((0 ≤ a1 ∧ a1 < 6) ∧ K (h 14 a1) (sth (sth h 15 a2 ((h 15 a2) + 1)) 14 a1 a2)))))))) ∧ (¬ (h 14 a1) = (-1) → ((0 ≤ (h 14 a1) ∧ (h 14 a1) < 5) ∧ ((iR ((h 15 (h 14 a1)) - 1)) ∧ ((0 ≤ (h 14 a1) ∧ (h 14 a1) < 5) ∧ ((a2 = (-1) → ((0 ≤ a1 ∧ a1 < 6) ∧ K (h 14 a1) (sth (sth h 15 (h 14 a1) ((h 15 (h 14 a1)) - 1)) 14 a1 a2))) ∧ (¬ a2 = (-1) → ((0 ≤ a2 ∧ a2 < 5) ∧ ((iR (((sth h 15 (h 14 a1) ((h 15 (h 14 a1)) - 1)) 15 a2) + 1)) ∧ ((0 ≤ a2 ∧ a2 < 5) ∧ ((0 ≤ a1 ∧ a1 < 6) ∧ K (h 14 a1) (sth (sth (sth h 15 (h 14 a1) ((h 15 (h 14 a1)) - 1)) 15 a2 (((sth h 15 (h 14 a1) ((h 15 (h 14 a1)) - 1)) 15 a2) + 1)) 14 a1 a2)))))))))))))) :
    Ev w Y_X4_move 0 [some (vR 1), some (vI a1), some (vI a2), none] [] h (rI K) := by
  refine e_aload_n (pc := 0) dX4_move_0 rfl rfl ?_
  refine e_getR (q := 1) (ci := 4) (k := 5) (y := 14) (C := RX4) (T := TX4) (N := 10) (pc := 1) dX4_move_1 rfl rfl ev_in4 rfl ul_1_42 ⟨rfl, rfl⟩ rfl ?_
  refine e_iload_n (pc := 4) dX4_move_4 rfl rfl ?_
  refine e_iald (q := 14) (x := (h 14 a1)) (pc := 5) dX4_move_5 rfl H.1 rfl ?_
  have H := H.2
  refine e_istore_n (lv' := [some (vR 1), some (vI a1), some (vI a2), some (vI (h 14 a1))]) (pc := 6) dX4_move_6 rfl rfl rfl ?_
  refine e_iload_n (pc := 7) dX4_move_7 rfl rfl ?_
  refine e_iconst (pc := 8) dX4_move_8 ⟨by decide, by decide⟩ ?_
  refine e_icmp_eq (pc := 9) (tgt := 22) dX4_move_9 (by decide) (fun c1 => ?_) (fun c1 => ?_)
  · have H := H.1 c1
    refine e_iload_n (pc := 22) dX4_move_22 rfl rfl ?_
    refine e_iconst (pc := 23) dX4_move_23 ⟨by decide, by decide⟩ ?_
    refine e_icmp_eq (pc := 24) (tgt := 37) dX4_move_24 (by decide) (fun c2 => ?_) (fun c2 => ?_)
    · have H := H.1 c2
      refine e_aload_n (pc := 37) dX4_move_37 rfl rfl ?_
      refine e_getR (q := 1) (ci := 4) (k := 5) (y := 14) (C := RX4) (T := TX4) (N := 10) (pc := 38) dX4_move_38 rfl rfl ev_in4 rfl ul_1_42 ⟨rfl, rfl⟩ rfl ?_
      refine e_iload_n (pc := 41) dX4_move_41 rfl rfl ?_
      refine e_iload_n (pc := 42) dX4_move_42 rfl rfl ?_
      refine e_iast (q := 14) (pc := 43) dX4_move_43 rfl H.1 ?_
      have H := H.2
      refine e_iload_n (pc := 44) dX4_move_44 rfl rfl ?_
      exact e_ret (pc := 45) (v := some (vI (h 14 a1))) dX4_move_45 rfl trivial ⟨_, rfl, H⟩
    · have H := H.2 c2
      refine e_aload_n (pc := 27) dX4_move_27 rfl rfl ?_
      refine e_getR (q := 1) (ci := 4) (k := 6) (y := 15) (C := RX4) (T := TX4) (N := 10) (pc := 28) dX4_move_28 rfl rfl ev_in4 rfl ul_1_45 ⟨rfl, rfl⟩ rfl ?_
      refine e_iload_n (pc := 31) dX4_move_31 rfl rfl ?_
      refine e_dup2 (pc := 32) dX4_move_32 rfl rfl ?_
      refine e_iald (q := 15) (x := (h 15 a2)) (pc := 33) dX4_move_33 rfl H.1 rfl ?_
      have H := H.2
      refine e_iconst (pc := 34) dX4_move_34 ⟨by decide, by decide⟩ ?_
      refine e_iadd (pc := 35) dX4_move_35 H.1 ?_
      have H := H.2
      refine e_iast (q := 15) (pc := 36) dX4_move_36 rfl H.1 ?_
      have H := H.2
      refine e_aload_n (pc := 37) dX4_move_37 rfl rfl ?_
      refine e_getR (q := 1) (ci := 4) (k := 5) (y := 14) (C := RX4) (T := TX4) (N := 10) (pc := 38) dX4_move_38 rfl rfl ev_in4 rfl ul_1_42 ⟨rfl, rfl⟩ rfl ?_
      refine e_iload_n (pc := 41) dX4_move_41 rfl rfl ?_
      refine e_iload_n (pc := 42) dX4_move_42 rfl rfl ?_
      refine e_iast (q := 14) (pc := 43) dX4_move_43 rfl H.1 ?_
      have H := H.2
      refine e_iload_n (pc := 44) dX4_move_44 rfl rfl ?_
      exact e_ret (pc := 45) (v := some (vI (h 14 a1))) dX4_move_45 rfl trivial ⟨_, rfl, H⟩
  · have H := H.2 c1
    refine e_aload_n (pc := 12) dX4_move_12 rfl rfl ?_
    refine e_getR (q := 1) (ci := 4) (k := 6) (y := 15) (C := RX4) (T := TX4) (N := 10) (pc := 13) dX4_move_13 rfl rfl ev_in4 rfl ul_1_45 ⟨rfl, rfl⟩ rfl ?_
    refine e_iload_n (pc := 16) dX4_move_16 rfl rfl ?_
    refine e_dup2 (pc := 17) dX4_move_17 rfl rfl ?_
    refine e_iald (q := 15) (x := (h 15 (h 14 a1))) (pc := 18) dX4_move_18 rfl H.1 rfl ?_
    have H := H.2
    refine e_iconst (pc := 19) dX4_move_19 ⟨by decide, by decide⟩ ?_
    refine e_isub (pc := 20) dX4_move_20 H.1 ?_
    have H := H.2
    refine e_iast (q := 15) (pc := 21) dX4_move_21 rfl H.1 ?_
    have H := H.2
    refine e_iload_n (pc := 22) dX4_move_22 rfl rfl ?_
    refine e_iconst (pc := 23) dX4_move_23 ⟨by decide, by decide⟩ ?_
    refine e_icmp_eq (pc := 24) (tgt := 37) dX4_move_24 (by decide) (fun c3 => ?_) (fun c3 => ?_)
    · have H := H.1 c3
      refine e_aload_n (pc := 37) dX4_move_37 rfl rfl ?_
      refine e_getR (q := 1) (ci := 4) (k := 5) (y := 14) (C := RX4) (T := TX4) (N := 10) (pc := 38) dX4_move_38 rfl rfl ev_in4 rfl ul_1_42 ⟨rfl, rfl⟩ rfl ?_
      refine e_iload_n (pc := 41) dX4_move_41 rfl rfl ?_
      refine e_iload_n (pc := 42) dX4_move_42 rfl rfl ?_
      refine e_iast (q := 14) (pc := 43) dX4_move_43 rfl H.1 ?_
      have H := H.2
      refine e_iload_n (pc := 44) dX4_move_44 rfl rfl ?_
      exact e_ret (pc := 45) (v := some (vI (h 14 a1))) dX4_move_45 rfl trivial ⟨_, rfl, H⟩
    · have H := H.2 c3
      refine e_aload_n (pc := 27) dX4_move_27 rfl rfl ?_
      refine e_getR (q := 1) (ci := 4) (k := 6) (y := 15) (C := RX4) (T := TX4) (N := 10) (pc := 28) dX4_move_28 rfl rfl ev_in4 rfl ul_1_45 ⟨rfl, rfl⟩ rfl ?_
      refine e_iload_n (pc := 31) dX4_move_31 rfl rfl ?_
      refine e_dup2 (pc := 32) dX4_move_32 rfl rfl ?_
      refine e_iald (q := 15) (x := ((sth h 15 (h 14 a1) ((h 15 (h 14 a1)) - 1)) 15 a2)) (pc := 33) dX4_move_33 rfl H.1 rfl ?_
      have H := H.2
      refine e_iconst (pc := 34) dX4_move_34 ⟨by decide, by decide⟩ ?_
      refine e_iadd (pc := 35) dX4_move_35 H.1 ?_
      have H := H.2
      refine e_iast (q := 15) (pc := 36) dX4_move_36 rfl H.1 ?_
      have H := H.2
      refine e_aload_n (pc := 37) dX4_move_37 rfl rfl ?_
      refine e_getR (q := 1) (ci := 4) (k := 5) (y := 14) (C := RX4) (T := TX4) (N := 10) (pc := 38) dX4_move_38 rfl rfl ev_in4 rfl ul_1_42 ⟨rfl, rfl⟩ rfl ?_
      refine e_iload_n (pc := 41) dX4_move_41 rfl rfl ?_
      refine e_iload_n (pc := 42) dX4_move_42 rfl rfl ?_
      refine e_iast (q := 14) (pc := 43) dX4_move_43 rfl H.1 ?_
      have H := H.2
      refine e_iload_n (pc := 44) dX4_move_44 rfl rfl ?_
      exact e_ret (pc := 45) (v := some (vI (h 14 a1))) dX4_move_45 rfl trivial ⟨_, rfl, H⟩
theorem c_X4_move (w : WD) (a1 : Int) (a2 : Int) (h : HP) (K : Int → HP → Prop)  (H : S_X4_move a1 a2 h K) : Ev w Y_X4_move 0 [some (vR 1), some (vI a1), some (vI a2), none] [] h (rI K) := v_X4_move w a1 a2 h K  H
def S_X4_change (a1 : Int) (a2 : Int) (a3 : Int) (h : HP) (K : HP → Prop) : Prop :=
  ((inS (h 1 8) ∧ (0 ≤ a1 ∧ a1 < 10) ∧ (0 ≤ a2 ∧ a2 ≤ 3)) ∧ ((0 ≤ a1 ∧ a1 < 10) ∧ K (sth (sth h 1 8 (wth (h 1 8) a1 a2)) 13 a1 a3)))
set_option maxRecDepth 100000 in
set_option maxHeartbeats 4000000 in
theorem v_X4_change (w : WD) (a1 : Int) (a2 : Int) (a3 : Int) (h : HP) (K : HP → Prop) 
    (H : ((inS (h 1 8) ∧ (0 ≤ a1 ∧ a1 < 10) ∧ (0 ≤ a2 ∧ a2 ≤ 3)) ∧ ((0 ≤ a1 ∧ a1 < 10) ∧ K (sth (sth h 1 8 (wth (h 1 8) a1 a2)) 13 a1 a3)))) :
    Ev w Y_X4_change 0 [some (vR 1), some (vI a1), some (vI a2), some (vI a3)] [] h (rV K) := by
  refine e_aload_n (pc := 0) dX4_change_0 rfl rfl ?_
  refine e_aload_n (pc := 1) dX4_change_1 rfl rfl ?_
  refine e_getI (q := 1) (ci := 4) (k := 8) (kz := 8) (C := RX4) (T := TX4) (N := 10) (x := (h 1 8)) (pc := 2) dX4_change_2 rfl rfl rfl ev_in4 rfl ul_1_51 ⟨rfl, by decide⟩ rfl ?_
  refine e_iload_n (pc := 5) dX4_change_5 rfl rfl ?_
  refine e_iload_n (pc := 6) dX4_change_6 rfl rfl ?_
  refine e_invSN (pc := 7) (Y' := Y_X8_with) (as := [vI (h 1 8), vI a1, vI a2]) (st := [vR 1]) (lv0 := [some (vI (h 1 8)), some (vI a1), some (vI a2)]) dX4_change_7 m_X8_with nl_8 ul_3_144 ⟨rfl, rfl⟩ rfl rfl rfl rfl rfl (c_X8_with w (h 1 8) a1 a2 h H.1) ?_
  rintro _ hz ⟨_, rfl, rfl, hh⟩
  rw [hh]
  show Ev w Y_X4_change 10 [some (vR 1), some (vI a1), some (vI a2), some (vI a3)] [vI (wth (h 1 8) a1 a2), vR 1] h (rV K)
  have H := H.2
  refine e_put (q := 1) (ci := 4) (k := 8) (kz := 8) (C := RX4) (T := TX4) (N := 10) (ty := .int) (pc := 10) dX4_change_10 rfl rfl rfl ev_in4 tyX4 tyX4_ok nmX4 rfl ul_1_51 ⟨rfl, by decide⟩ rfl (tyX4_ok 8 (by decide)) (Or.inl rfl) ?_
  refine e_aload_n (pc := 13) dX4_change_13 rfl rfl ?_
  refine e_getR (q := 1) (ci := 4) (k := 4) (y := 13) (C := RX4) (T := TX4) (N := 10) (pc := 14) dX4_change_14 rfl rfl ev_in4 rfl ul_1_40 ⟨rfl, rfl⟩ rfl ?_
  refine e_iload_n (pc := 17) dX4_change_17 rfl rfl ?_
  refine e_iload_n (pc := 18) dX4_change_18 rfl rfl ?_
  refine e_iast (q := 13) (pc := 19) dX4_change_19 rfl H.1 ?_
  have H := H.2
  exact e_ret (pc := 20) (v := none) dX4_change_20 rfl trivial ⟨rfl, H⟩
theorem c_X4_change (w : WD) (a1 : Int) (a2 : Int) (a3 : Int) (h : HP) (K : HP → Prop)  (H : S_X4_change a1 a2 a3 h K) : Ev w Y_X4_change 0 [some (vR 1), some (vI a1), some (vI a2), some (vI a3)] [] h (rV K) := v_X4_change w a1 a2 a3 h K  H
set_option maxRecDepth 100000 in
set_option maxHeartbeats 4000000 in
theorem v_X9_in (w : WD) (v : Int) (lo : Int) (hi : Int) (h : HP) (K : Int → HP → Prop) 
    (H : K (b2i ((¬ v < lo) ∧ (¬ hi < v))) h) :
    Ev w Y_X9_in 0 [some (vL v), none, some (vL lo), none, some (vL hi), none] [] h (rI K) := by
  refine e_lload_n (pc := 0) dX9_in_0 rfl rfl ?_
  refine e_lload_n (pc := 1) dX9_in_1 rfl rfl ?_
  have J : Ev w Y_X9_in 18 [some (vL v), none, some (vL lo), none, some (vL hi), none] [vI (b2i ((¬ v < lo) ∧ (¬ hi < v)))] h (rI K) := by
    exact e_ret (pc := 18) (v := some (vI (b2i ((¬ v < lo) ∧ (¬ hi < v))))) dX9_in_18 rfl (b2i_01 _) ⟨_, rfl, H⟩
  refine e_lcif_lt (pc := 2) (tgt := 17) dX9_in_2 dX9_in_3 (by decide) (fun c1 => ?_) (fun c1 => ?_)
  · refine e_iconst (pc := 17) dX9_in_17 ⟨by decide, by decide⟩ ?_
    exact e_top (b2i_f (fun z => (fun z => z c1) z.1)) J
  · refine e_lload_n (pc := 6) dX9_in_6 rfl rfl ?_
    refine e_lload (pc := 7) dX9_in_7 rfl ?_
    refine e_lcif_gt (pc := 9) (tgt := 17) dX9_in_9 dX9_in_10 (by decide) (fun c2 => ?_) (fun c2 => ?_)
    · refine e_iconst (pc := 17) dX9_in_17 ⟨by decide, by decide⟩ ?_
      exact e_top (b2i_f (fun z => (fun z => z c2) z.2)) J
    · refine e_iconst (pc := 13) dX9_in_13 ⟨by decide, by decide⟩ ?_
      refine e_goto (pc := 14) (tgt := 18) dX9_in_14 (by decide) ?_
      exact e_top (b2i_t ⟨c1, c2⟩) J
set_option maxRecDepth 100000 in
set_option maxHeartbeats 4000000 in
theorem c_X9_in (w : WD) (v : Int) (lo : Int) (hi : Int) (h : HP) : Ev w Y_X9_in 0 [some (vL v), none, some (vL lo), none, some (vL hi), none] [] h (rI (fun r h' => r = b2i (lo ≤ v ∧ v ≤ hi) ∧ h' = h)) := by
  exact v_X9_in w v lo hi h _ ⟨b2i_c (by omega), rfl⟩
set_option maxRecDepth 100000 in
set_option maxHeartbeats 4000000 in
theorem v_X9_has (w : WD) (b : Int) (t : Int) (h : HP) (K : Int → HP → Prop) 
    (H : K (b2i ((iand (ishr b t) 1) = 1)) h) :
    Ev w Y_X9_has 0 [some (vI b), some (vI t)] [] h (rI K) := by
  refine e_iload_n (pc := 0) dX9_has_0 rfl rfl ?_
  refine e_iload_n (pc := 1) dX9_has_1 rfl rfl ?_
  refine e_ishr (pc := 2) dX9_has_2 ?_
  refine e_iconst (pc := 3) dX9_has_3 ⟨by decide, by decide⟩ ?_
  refine e_iand (pc := 4) dX9_has_4 ?_
  refine e_iconst (pc := 5) dX9_has_5 ⟨by decide, by decide⟩ ?_
  have J : Ev w Y_X9_has 14 [some (vI b), some (vI t)] [vI (b2i ((iand (ishr b t) 1) = 1))] h (rI K) := by
    exact e_ret (pc := 14) (v := some (vI (b2i ((iand (ishr b t) 1) = 1)))) dX9_has_14 rfl (b2i_01 _) ⟨_, rfl, H⟩
  refine e_icmp_ne (pc := 6) (tgt := 13) dX9_has_6 (by decide) (fun c1 => ?_) (fun c1 => ?_)
  · refine e_iconst (pc := 13) dX9_has_13 ⟨by decide, by decide⟩ ?_
    exact e_top (b2i_f c1) J
  · refine e_iconst (pc := 9) dX9_has_9 ⟨by decide, by decide⟩ ?_
    refine e_goto (pc := 10) (tgt := 14) dX9_has_10 (by decide) ?_
    exact e_top (b2i_t c1) J
set_option maxRecDepth 100000 in
set_option maxHeartbeats 4000000 in
theorem c_X9_has (w : WD) (b : Int) (t : Int) (h : HP) (H : inB b t) : Ev w Y_X9_has 0 [some (vI b), some (vI t)] [] h (rI (fun r h' => r = b2i (mem b t) ∧ h' = h)) := by
  refine v_X9_has w b t h _ ⟨b2i_c ?_, rfl⟩
  rw [mem_get H.1 ⟨H.2.1, by have := H.2.2; omega⟩, b2i_1]
set_option maxRecDepth 100000 in
set_option maxHeartbeats 4000000 in
theorem v_X9_isThing (w : WD) (t : Int) (h : HP) (K : Int → HP → Prop) 
    (H : ((iR ((h 55 0) - 1)) ∧ K (b2i (0 ≤ t ∧ t ≤ ((h 55 0) - 1))) h)) :
    Ev w Y_X9_isThing 0 [some (vR 55), some (vI t)] [] h (rI K) := by
  refine e_iload_n (pc := 0) dX9_isThing_0 rfl rfl ?_
  refine e_i2l (pc := 1) dX9_isThing_1 ?_
  refine e_lconst (x := 0) (pc := 2) dX9_isThing_2 ⟨by decide, by decide⟩ (by decide) ?_
  refine e_aload_n (pc := 3) dX9_isThing_3 rfl rfl ?_
  refine e_getI (q := 55) (ci := 9) (k := 0) (kz := 0) (C := RX9) (T := TX9) (N := 52) (x := (h 55 0)) (pc := 4) dX9_isThing_4 rfl rfl rfl ev_in9 rfl ul_4_182 ⟨rfl, by decide⟩ rfl ?_
  refine e_iconst (pc := 7) dX9_isThing_7 ⟨by decide, by decide⟩ ?_
  refine e_isub (pc := 8) dX9_isThing_8 H.1 ?_
  have H := H.2
  refine e_i2l (pc := 9) dX9_isThing_9 ?_
  refine e_invS (pc := 10) (Y' := Y_X9_in) (as := [vL t, vL 0, vL ((h 55 0) - 1)]) (st := []) (lv0 := [some (vL t), none, some (vL 0), none, some (vL ((h 55 0) - 1)), none]) dX9_isThing_10 m_X9_in ul_5_104 ul_5_105 ⟨rfl, rfl⟩ rfl rfl rfl rfl rfl (c_X9_in w t 0 ((h 55 0) - 1) h) ?_
  rintro _ hz ⟨_, rfl, rfl, hh⟩
  rw [hh]
  show Ev w Y_X9_isThing 13 [some (vR 55), some (vI t)] [vI (b2i (0 ≤ t ∧ t ≤ ((h 55 0) - 1)))] h (rI K)
  exact e_ret (pc := 13) (v := some (vI (b2i (0 ≤ t ∧ t ≤ ((h 55 0) - 1))))) dX9_isThing_13 rfl (b2i_01 _) ⟨_, rfl, H⟩
set_option maxRecDepth 100000 in
set_option maxHeartbeats 4000000 in
theorem c_X9_isThing (w : WD) (t : Int) (h : HP) (H : 0 ≤ h 55 0 ∧ h 55 0 ≤ 10) : Ev w Y_X9_isThing 0 [some (vR 55), some (vI t)] [] h (rI (fun r h' => r = b2i (0 ≤ t ∧ t < h 55 0) ∧ h' = h)) := by
  exact v_X9_isThing w t h _ ⟨⟨by omega, by omega⟩, b2i_c (by omega), rfl⟩
set_option maxRecDepth 100000 in
set_option maxHeartbeats 4000000 in
theorem v_X9_greatest (w : WD) (s : Int) (h : HP) (K : Int → HP → Prop) 
    (H : K (cif (¬ s = 0) (cif (¬ s = 2) 1 2) 3) h) :
    Ev w Y_X9_greatest 0 [some (vI s)] [] h (rI K) := by
  refine e_iload_n (pc := 0) dX9_greatest_0 rfl rfl ?_
  have J : Ev w Y_X9_greatest 18 [some (vI s)] [vI (cif (¬ s = 0) (cif (¬ s = 2) 1 2) 3)] h (rI K) := by
    exact e_ret (pc := 18) (v := some (vI (cif (¬ s = 0) (cif (¬ s = 2) 1 2) 3))) dX9_greatest_18 rfl trivial ⟨_, rfl, H⟩
  refine e_if_ne (pc := 1) (tgt := 8) dX9_greatest_1 (by decide) (fun c1 => ?_) (fun c1 => ?_)
  · refine e_iload_n (pc := 8) dX9_greatest_8 rfl rfl ?_
    refine e_iconst (pc := 9) dX9_greatest_9 ⟨by decide, by decide⟩ ?_
    refine e_icmp_ne (pc := 10) (tgt := 17) dX9_greatest_10 (by decide) (fun c2 => ?_) (fun c2 => ?_)
    · refine e_iconst (pc := 17) dX9_greatest_17 ⟨by decide, by decide⟩ ?_
      exact e_top ((cif_t c1).trans (cif_t c2)) J
    · refine e_iconst (pc := 13) dX9_greatest_13 ⟨by decide, by decide⟩ ?_
      refine e_goto (pc := 14) (tgt := 18) dX9_greatest_14 (by decide) ?_
      exact e_top ((cif_t c1).trans (cif_f (fun z => z c2))) J
  · refine e_iconst (pc := 4) dX9_greatest_4 ⟨by decide, by decide⟩ ?_
    refine e_goto (pc := 5) (tgt := 18) dX9_greatest_5 (by decide) ?_
    exact e_top (cif_f (fun z => z c1)) J
set_option maxRecDepth 100000 in
set_option maxHeartbeats 4000000 in
theorem c_X9_greatest (w : WD) (s : Int) (h : HP) : Ev w Y_X9_greatest 0 [some (vI s)] [] h (rI (fun r h' => r = (top s) ∧ h' = h)) := by
  refine v_X9_greatest w s h _ ⟨?_, rfl⟩
  unfold top
  by_cases c : s = 0
  · rw [cif_f (fun z => z c), if_pos c]
  · rw [cif_t c, if_neg c]
    by_cases c2 : s = 2
    · rw [cif_f (fun z => z c2), if_pos c2]
    · rw [cif_t c2, if_neg c2]
