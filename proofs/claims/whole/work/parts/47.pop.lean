/-! counts of bits; fill -/
theorem iushr_n {a k : Nat} (ha : a < 2 ^ 31) (hk : k < 32) : iushr (a : Int) (k : Int) = ((a / 2 ^ k : Nat) : Int) := by
  unfold iushr
  rw [i_nat ha, i_nat (Nat.lt_trans hk (by decide)), pk_ushrN (Nat.lt_trans ha (by decide)) _ k (nb_su k hk), nI_toInt (Nat.lt_of_le_of_lt (Nat.div_le_self _ _) ha)]
theorem jushr_n {a k : Nat} (ha : a < 2 ^ 63) (hk : k < 64) : jushr (a : Int) (k : Int) = ((a / 2 ^ k : Nat) : Int) := by
  unfold jushr
  rw [l_nat ha, i_nat (Nat.lt_trans hk (by decide)), nl_cu k hk]
  have : ((lN a).toUInt64 >>> UInt64.ofNat k).toInt64 = lN (a / 2 ^ k) := by
    apply Int64.toBitVec_inj.mp
    show ((lN a).toUInt64 >>> UInt64.ofNat k).toBitVec = BitVec.ofNat 64 (a / 2 ^ k)
    rw [UInt64.toBitVec_shiftRight]
    show BitVec.ofNat 64 a >>> (BitVec.ofNat 64 k % 64#64) = _
    have e : (BitVec.ofNat 64 k % 64#64) = BitVec.ofNat 64 k := by
      apply BitVec.eq_of_toNat_eq
      rw [BitVec.toNat_umod, BitVec.toNat_ofNat, Nat.mod_eq_of_lt (show k < 2 ^ 64 by omega)]
      exact Nat.mod_eq_of_lt hk
    rw [e, BitVec.ushiftRight_eq', BitVec.toNat_ofNat, Nat.mod_eq_of_lt (show k < 2 ^ 64 by omega)]
    apply BitVec.eq_of_toNat_eq
    rw [BitVec.toNat_ushiftRight, BitVec.toNat_ofNat, BitVec.toNat_ofNat, Nat.mod_eq_of_lt (show a < 2 ^ 64 by omega), Nat.shiftRight_eq_div_pow, Nat.mod_eq_of_lt (Nat.lt_of_le_of_lt (Nat.div_le_self _ _) (show a < 2 ^ 64 by omega))]
  rw [this, pk_lT (Nat.lt_of_le_of_lt (Nat.div_le_self _ _) ha)]
def pcb : Nat → Nat → Nat
  | 0, _ => 0
  | n + 1, x => pcb n x + (x.testBit n).toNat
theorem cnt_pcb (x : Nat) : ∀ n : Nat, cnt (mem (x : Int)) n = (pcb n x : Int)
  | 0 => rfl
  | n + 1 => by
    simp only [cnt, pcb]
    rw [cnt_pcb x n]
    have : mem (x : Int) (n : Int) ↔ x.testBit n = true := by unfold mem; rw [Int.toNat_natCast, Int.toNat_natCast]
    cases hb : x.testBit n with
    | true => rw [b2i_t (this.mpr hb)]; simp
    | false => rw [b2i_f (fun y => by rw [this, hb] at y; cases y)]; simp
theorem pcb_split (x m : Nat) : ∀ n : Nat, pcb (m + n) x = pcb m x + pcb n (x / 2 ^ m)
  | 0 => rfl
  | n + 1 => by
    rw [← Nat.add_assoc]
    simp only [pcb]
    rw [pcb_split x m n, Nat.testBit_div_two_pow, Nat.add_comm n m, Nat.add_assoc]
theorem pcb_mod (x m : Nat) : ∀ n : Nat, n ≤ m → pcb n (x % 2 ^ m) = pcb n x
  | 0, _ => rfl
  | n + 1, h => by
    simp only [pcb]
    rw [pcb_mod x m n (by omega), Nat.testBit_mod_two_pow]
    have : n < m := by omega
    simp [this]
theorem land_256 {a b c d : Nat} (hb : b < 256) (hd : d < 256) : (256 * a + b) &&& (256 * c + d) = 256 * (a &&& c) + (b &&& d) := by
  have hbd : b &&& d < 2 ^ 8 := Nat.lt_of_le_of_lt Nat.and_le_left hb
  apply Nat.eq_of_testBit_eq
  intro i
  rw [Nat.testBit_and, show (256 : Nat) = 2 ^ 8 from rfl, Nat.testBit_two_pow_mul_add _ hb, Nat.testBit_two_pow_mul_add _ hd, Nat.testBit_two_pow_mul_add _ hbd]
  by_cases h : i < 8
  · rw [if_pos h, if_pos h, if_pos h, Nat.testBit_and]
  · rw [if_neg h, if_neg h, if_neg h, Nat.testBit_and]
def rpt (b : Nat) : Nat → Nat
  | 0 => 0
  | n + 1 => 256 * rpt b n + b
def sw1 (n x : Nat) : Nat := x - ((x / 2) &&& rpt 85 n)
def sw2 (n x : Nat) : Nat := (x &&& rpt 51 n) + ((x / 4) &&& rpt 51 n)
def sw3 (n x : Nat) : Nat := (x + x / 16) &&& rpt 15 n
def cc1 (b : Nat) : Nat := b - ((b / 2) &&& 85)
def cc2 (b : Nat) : Nat := (b &&& 51) + ((b / 4) &&& 51)
def cc3 (b : Nat) : Nat := (b + b / 16) &&& 15
def vl : List Nat → Nat
  | [] => 0
  | b :: l => 256 * vl l + b
theorem dc1 : ∀ b, b < 256 → ∀ r, r < 2 → (128 * r + b / 2) &&& 85 = (b / 2) &&& 85 := by decide +kernel
theorem dc2 : ∀ b, b < 256 → ∀ r, r < 4 → (64 * r + b / 4) &&& 51 = (b / 4) &&& 51 := by decide +kernel
theorem dc3 : ∀ b, b < 69 → ∀ r, r < 5 → (b + 16 * r + b / 16) &&& 15 = (b + b / 16) &&& 15 := by decide +kernel
theorem dc4 : ∀ b, b < 256 → cc1 b < 256 ∧ cc2 (cc1 b) < 69 ∧ cc2 (cc1 b) % 16 < 5 ∧ cc3 (cc2 (cc1 b)) = pcb 8 b ∧ pcb 8 b < 9 := by decide +kernel
theorem sw1_s {n y b : Nat} (hb : b < 256) : sw1 (n + 1) (256 * y + b) = 256 * sw1 n y + cc1 b := by
  unfold sw1 cc1
  have e : (256 * y + b) / 2 = 256 * (y / 2) + (128 * (y % 2) + b / 2) := by omega
  rw [e]
  simp only [rpt]
  rw [land_256 (by omega) (by decide), dc1 b hb _ (by omega)]
  have h1 : (y / 2) &&& rpt 85 n ≤ y / 2 := Nat.and_le_left
  have h2 : (b / 2) &&& 85 ≤ b / 2 := Nat.and_le_left
  omega
theorem sw2_s {n y b : Nat} (hb : b < 256) : sw2 (n + 1) (256 * y + b) = 256 * sw2 n y + cc2 b := by
  unfold sw2 cc2
  have e : (256 * y + b) / 4 = 256 * (y / 4) + (64 * (y % 4) + b / 4) := by omega
  rw [e]
  simp only [rpt]
  rw [land_256 hb (by decide), land_256 (by omega) (by decide), dc2 b hb _ (by omega)]
  omega
theorem sw3_s {n y b : Nat} (hb : b < 69) (hy : y % 16 < 5) : sw3 (n + 1) (256 * y + b) = 256 * sw3 n y + cc3 b := by
  unfold sw3 cc3
  have e : 256 * y + b + (256 * y + b) / 16 = 256 * (y + y / 16) + (b + 16 * (y % 16) + b / 16) := by omega
  rw [e]
  simp only [rpt]
  rw [land_256 (by omega) (by decide), dc3 b hb _ hy]
def bts (l : List Nat) : Prop := ∀ b ∈ l, b < 256
theorem sw1_l : ∀ l : List Nat, bts l → sw1 l.length (vl l) = vl (l.map cc1)
  | [], _ => rfl
  | b :: l, h => by
    show sw1 (l.length + 1) (256 * vl l + b) = 256 * vl (l.map cc1) + cc1 b
    rw [sw1_s (h b List.mem_cons_self), sw1_l l (fun x hx => h x (List.mem_cons_of_mem _ hx))]
theorem sw2_l : ∀ l : List Nat, bts l → sw2 l.length (vl (l.map cc1)) = vl (l.map (fun b => cc2 (cc1 b)))
  | [], _ => rfl
  | b :: l, h => by
    show sw2 (l.length + 1) (256 * vl (l.map cc1) + cc1 b) = 256 * vl (l.map (fun b => cc2 (cc1 b))) + cc2 (cc1 b)
    rw [sw2_s (dc4 b (h b List.mem_cons_self)).1, sw2_l l (fun x hx => h x (List.mem_cons_of_mem _ hx))]
theorem vl_16 : ∀ l : List Nat, bts l → vl (l.map (fun b => cc2 (cc1 b))) % 16 < 5
  | [], _ => by decide
  | b :: l, h => by
    show (256 * vl (l.map (fun b => cc2 (cc1 b))) + cc2 (cc1 b)) % 16 < 5
    have := (dc4 b (h b List.mem_cons_self)).2.2.1
    omega
theorem sw3_l : ∀ l : List Nat, bts l → sw3 l.length (vl (l.map (fun b => cc2 (cc1 b)))) = vl (l.map (pcb 8))
  | [], _ => rfl
  | b :: l, h => by
    show sw3 (l.length + 1) (256 * vl (l.map (fun b => cc2 (cc1 b))) + cc2 (cc1 b)) = 256 * vl (l.map (pcb 8)) + pcb 8 b
    have hb := dc4 b (h b List.mem_cons_self)
    rw [sw3_s hb.2.1 (vl_16 l (fun x hx => h x (List.mem_cons_of_mem _ hx))), sw3_l l (fun x hx => h x (List.mem_cons_of_mem _ hx)), hb.2.2.2.1]
set_option maxRecDepth 100000 in
set_option maxHeartbeats 4000000 in
theorem v_J6_bitCount_0f7a4 (w : WD) (a : Int) (h : HP) (K : Int → HP → Prop) 
    (H : ((iR (a - (iand (iushr a 1) 1431655765))) ∧ ((iR ((iand (a - (iand (iushr a 1) 1431655765)) 858993459) + (iand (iushr (a - (iand (iushr a 1) 1431655765)) 2) 858993459))) ∧ ((iR (((iand (a - (iand (iushr a 1) 1431655765)) 858993459) + (iand (iushr (a - (iand (iushr a 1) 1431655765)) 2) 858993459)) + (iushr ((iand (a - (iand (iushr a 1) 1431655765)) 858993459) + (iand (iushr (a - (iand (iushr a 1) 1431655765)) 2) 858993459)) 4))) ∧ ((iR ((iand (((iand (a - (iand (iushr a 1) 1431655765)) 858993459) + (iand (iushr (a - (iand (iushr a 1) 1431655765)) 2) 858993459)) + (iushr ((iand (a - (iand (iushr a 1) 1431655765)) 858993459) + (iand (iushr (a - (iand (iushr a 1) 1431655765)) 2) 858993459)) 4)) 252645135) + (iushr (iand (((iand (a - (iand (iushr a 1) 1431655765)) 858993459) + (iand (iushr (a - (iand (iushr a 1) 1431655765)) 2) 858993459)) + (iushr ((iand (a - (iand (iushr a 1) 1431655765)) 858993459) + (iand (iushr (a - (iand (iushr a 1) 1431655765)) 2) 858993459)) 4)) 252645135) 8))) ∧ ((iR (((iand (((iand (a - (iand (iushr a 1) 1431655765)) 858993459) + (iand (iushr (a - (iand (iushr a 1) 1431655765)) 2) 858993459)) + (iushr ((iand (a - (iand (iushr a 1) 1431655765)) 858993459) + (iand (iushr (a - (iand (iushr a 1) 1431655765)) 2) 858993459)) 4)) 252645135) + (iushr (iand (((iand (a - (iand (iushr a 1) 1431655765)) 858993459) + (iand (iushr (a - (iand (iushr a 1) 1431655765)) 2) 858993459)) + (iushr ((iand (a - (iand (iushr a 1) 1431655765)) 858993459) + (iand (iushr (a - (iand (iushr a 1) 1431655765)) 2) 858993459)) 4)) 252645135) 8)) + (iushr ((iand (((iand (a - (iand (iushr a 1) 1431655765)) 858993459) + (iand (iushr (a - (iand (iushr a 1) 1431655765)) 2) 858993459)) + (iushr ((iand (a - (iand (iushr a 1) 1431655765)) 858993459) + (iand (iushr (a - (iand (iushr a 1) 1431655765)) 2) 858993459)) 4)) 252645135) + (iushr (iand (((iand (a - (iand (iushr a 1) 1431655765)) 858993459) + (iand (iushr (a - (iand (iushr a 1) 1431655765)) 2) 858993459)) + (iushr ((iand (a - (iand (iushr a 1) 1431655765)) 858993459) + (iand (iushr (a - (iand (iushr a 1) 1431655765)) 2) 858993459)) 4)) 252645135) 8)) 16))) ∧ K (iand (((iand (((iand (a - (iand (iushr a 1) 1431655765)) 858993459) + (iand (iushr (a - (iand (iushr a 1) 1431655765)) 2) 858993459)) + (iushr ((iand (a - (iand (iushr a 1) 1431655765)) 858993459) + (iand (iushr (a - (iand (iushr a 1) 1431655765)) 2) 858993459)) 4)) 252645135) + (iushr (iand (((iand (a - (iand (iushr a 1) 1431655765)) 858993459) + (iand (iushr (a - (iand (iushr a 1) 1431655765)) 2) 858993459)) + (iushr ((iand (a - (iand (iushr a 1) 1431655765)) 858993459) + (iand (iushr (a - (iand (iushr a 1) 1431655765)) 2) 858993459)) 4)) 252645135) 8)) + (iushr ((iand (((iand (a - (iand (iushr a 1) 1431655765)) 858993459) + (iand (iushr (a - (iand (iushr a 1) 1431655765)) 2) 858993459)) + (iushr ((iand (a - (iand (iushr a 1) 1431655765)) 858993459) + (iand (iushr (a - (iand (iushr a 1) 1431655765)) 2) 858993459)) 4)) 252645135) + (iushr (iand (((iand (a - (iand (iushr a 1) 1431655765)) 858993459) + (iand (iushr (a - (iand (iushr a 1) 1431655765)) 2) 858993459)) + (iushr ((iand (a - (iand (iushr a 1) 1431655765)) 858993459) + (iand (iushr (a - (iand (iushr a 1) 1431655765)) 2) 858993459)) 4)) 252645135) 8)) 16)) 63) h)))))) :
    Ev w Y_J6_bitCount_0f7a4 0 [some (vI a)] [] h (rI K) := by
  refine e_iload_n (pc := 0) dJ6_bitCount_0f7a4_0 rfl rfl ?_
  refine e_iload_n (pc := 1) dJ6_bitCount_0f7a4_1 rfl rfl ?_
  refine e_iconst (pc := 2) dJ6_bitCount_0f7a4_2 ⟨by decide, by decide⟩ ?_
  refine e_iushr (pc := 3) dJ6_bitCount_0f7a4_3 ?_
  refine e_ldcw (x := 1431655765) (pc := 4) dJ6_bitCount_0f7a4_4 ul_4_17 ⟨by decide, by decide⟩ ?_
  refine e_iand (pc := 7) dJ6_bitCount_0f7a4_7 ?_
  refine e_isub (pc := 8) dJ6_bitCount_0f7a4_8 H.1 ?_
  have H := H.2
  refine e_istore_n (lv' := [some (vI (a - (iand (iushr a 1) 1431655765)))]) (pc := 9) dJ6_bitCount_0f7a4_9 rfl rfl rfl ?_
  refine e_iload_n (pc := 10) dJ6_bitCount_0f7a4_10 rfl rfl ?_
  refine e_ldcw (x := 858993459) (pc := 11) dJ6_bitCount_0f7a4_11 ul_4_18 ⟨by decide, by decide⟩ ?_
  refine e_iand (pc := 14) dJ6_bitCount_0f7a4_14 ?_
  refine e_iload_n (pc := 15) dJ6_bitCount_0f7a4_15 rfl rfl ?_
  refine e_iconst (pc := 16) dJ6_bitCount_0f7a4_16 ⟨by decide, by decide⟩ ?_
  refine e_iushr (pc := 17) dJ6_bitCount_0f7a4_17 ?_
  refine e_ldcw (x := 858993459) (pc := 18) dJ6_bitCount_0f7a4_18 ul_4_18 ⟨by decide, by decide⟩ ?_
  refine e_iand (pc := 21) dJ6_bitCount_0f7a4_21 ?_
  refine e_iadd (pc := 22) dJ6_bitCount_0f7a4_22 H.1 ?_
  have H := H.2
  refine e_istore_n (lv' := [some (vI ((iand (a - (iand (iushr a 1) 1431655765)) 858993459) + (iand (iushr (a - (iand (iushr a 1) 1431655765)) 2) 858993459)))]) (pc := 23) dJ6_bitCount_0f7a4_23 rfl rfl rfl ?_
  refine e_iload_n (pc := 24) dJ6_bitCount_0f7a4_24 rfl rfl ?_
  refine e_iload_n (pc := 25) dJ6_bitCount_0f7a4_25 rfl rfl ?_
  refine e_iconst (pc := 26) dJ6_bitCount_0f7a4_26 ⟨by decide, by decide⟩ ?_
  refine e_iushr (pc := 27) dJ6_bitCount_0f7a4_27 ?_
  refine e_iadd (pc := 28) dJ6_bitCount_0f7a4_28 H.1 ?_
  have H := H.2
  refine e_ldcw (x := 252645135) (pc := 29) dJ6_bitCount_0f7a4_29 ul_4_19 ⟨by decide, by decide⟩ ?_
  refine e_iand (pc := 32) dJ6_bitCount_0f7a4_32 ?_
  refine e_istore_n (lv' := [some (vI (iand (((iand (a - (iand (iushr a 1) 1431655765)) 858993459) + (iand (iushr (a - (iand (iushr a 1) 1431655765)) 2) 858993459)) + (iushr ((iand (a - (iand (iushr a 1) 1431655765)) 858993459) + (iand (iushr (a - (iand (iushr a 1) 1431655765)) 2) 858993459)) 4)) 252645135))]) (pc := 33) dJ6_bitCount_0f7a4_33 rfl rfl rfl ?_
  refine e_iload_n (pc := 34) dJ6_bitCount_0f7a4_34 rfl rfl ?_
  refine e_iload_n (pc := 35) dJ6_bitCount_0f7a4_35 rfl rfl ?_
  refine e_bipush (pc := 36) dJ6_bitCount_0f7a4_36 ⟨by decide, by decide⟩ (by decide) ?_
  refine e_iushr (pc := 38) dJ6_bitCount_0f7a4_38 ?_
  refine e_iadd (pc := 39) dJ6_bitCount_0f7a4_39 H.1 ?_
  have H := H.2
  refine e_istore_n (lv' := [some (vI ((iand (((iand (a - (iand (iushr a 1) 1431655765)) 858993459) + (iand (iushr (a - (iand (iushr a 1) 1431655765)) 2) 858993459)) + (iushr ((iand (a - (iand (iushr a 1) 1431655765)) 858993459) + (iand (iushr (a - (iand (iushr a 1) 1431655765)) 2) 858993459)) 4)) 252645135) + (iushr (iand (((iand (a - (iand (iushr a 1) 1431655765)) 858993459) + (iand (iushr (a - (iand (iushr a 1) 1431655765)) 2) 858993459)) + (iushr ((iand (a - (iand (iushr a 1) 1431655765)) 858993459) + (iand (iushr (a - (iand (iushr a 1) 1431655765)) 2) 858993459)) 4)) 252645135) 8)))]) (pc := 40) dJ6_bitCount_0f7a4_40 rfl rfl rfl ?_
  refine e_iload_n (pc := 41) dJ6_bitCount_0f7a4_41 rfl rfl ?_
  refine e_iload_n (pc := 42) dJ6_bitCount_0f7a4_42 rfl rfl ?_
  refine e_bipush (pc := 43) dJ6_bitCount_0f7a4_43 ⟨by decide, by decide⟩ (by decide) ?_
  refine e_iushr (pc := 45) dJ6_bitCount_0f7a4_45 ?_
  refine e_iadd (pc := 46) dJ6_bitCount_0f7a4_46 H.1 ?_
  have H := H.2
  refine e_istore_n (lv' := [some (vI (((iand (((iand (a - (iand (iushr a 1) 1431655765)) 858993459) + (iand (iushr (a - (iand (iushr a 1) 1431655765)) 2) 858993459)) + (iushr ((iand (a - (iand (iushr a 1) 1431655765)) 858993459) + (iand (iushr (a - (iand (iushr a 1) 1431655765)) 2) 858993459)) 4)) 252645135) + (iushr (iand (((iand (a - (iand (iushr a 1) 1431655765)) 858993459) + (iand (iushr (a - (iand (iushr a 1) 1431655765)) 2) 858993459)) + (iushr ((iand (a - (iand (iushr a 1) 1431655765)) 858993459) + (iand (iushr (a - (iand (iushr a 1) 1431655765)) 2) 858993459)) 4)) 252645135) 8)) + (iushr ((iand (((iand (a - (iand (iushr a 1) 1431655765)) 858993459) + (iand (iushr (a - (iand (iushr a 1) 1431655765)) 2) 858993459)) + (iushr ((iand (a - (iand (iushr a 1) 1431655765)) 858993459) + (iand (iushr (a - (iand (iushr a 1) 1431655765)) 2) 858993459)) 4)) 252645135) + (iushr (iand (((iand (a - (iand (iushr a 1) 1431655765)) 858993459) + (iand (iushr (a - (iand (iushr a 1) 1431655765)) 2) 858993459)) + (iushr ((iand (a - (iand (iushr a 1) 1431655765)) 858993459) + (iand (iushr (a - (iand (iushr a 1) 1431655765)) 2) 858993459)) 4)) 252645135) 8)) 16)))]) (pc := 47) dJ6_bitCount_0f7a4_47 rfl rfl rfl ?_
  refine e_iload_n (pc := 48) dJ6_bitCount_0f7a4_48 rfl rfl ?_
  refine e_bipush (pc := 49) dJ6_bitCount_0f7a4_49 ⟨by decide, by decide⟩ (by decide) ?_
  refine e_iand (pc := 51) dJ6_bitCount_0f7a4_51 ?_
  exact e_ret (pc := 52) (v := some (vI (iand (((iand (((iand (a - (iand (iushr a 1) 1431655765)) 858993459) + (iand (iushr (a - (iand (iushr a 1) 1431655765)) 2) 858993459)) + (iushr ((iand (a - (iand (iushr a 1) 1431655765)) 858993459) + (iand (iushr (a - (iand (iushr a 1) 1431655765)) 2) 858993459)) 4)) 252645135) + (iushr (iand (((iand (a - (iand (iushr a 1) 1431655765)) 858993459) + (iand (iushr (a - (iand (iushr a 1) 1431655765)) 2) 858993459)) + (iushr ((iand (a - (iand (iushr a 1) 1431655765)) 858993459) + (iand (iushr (a - (iand (iushr a 1) 1431655765)) 2) 858993459)) 4)) 252645135) 8)) + (iushr ((iand (((iand (a - (iand (iushr a 1) 1431655765)) 858993459) + (iand (iushr (a - (iand (iushr a 1) 1431655765)) 2) 858993459)) + (iushr ((iand (a - (iand (iushr a 1) 1431655765)) 858993459) + (iand (iushr (a - (iand (iushr a 1) 1431655765)) 2) 858993459)) 4)) 252645135) + (iushr (iand (((iand (a - (iand (iushr a 1) 1431655765)) 858993459) + (iand (iushr (a - (iand (iushr a 1) 1431655765)) 2) 858993459)) + (iushr ((iand (a - (iand (iushr a 1) 1431655765)) 858993459) + (iand (iushr (a - (iand (iushr a 1) 1431655765)) 2) 858993459)) 4)) 252645135) 8)) 16)) 63))) dJ6_bitCount_0f7a4_52 rfl trivial ⟨_, rfl, H⟩
set_option maxRecDepth 100000 in
set_option maxHeartbeats 4000000 in
theorem c_J6_bitCount_0f7a4 (w : WD) (a : Int) (h : HP) (H : 0 ≤ a ∧ a < 65536) : Ev w Y_J6_bitCount_0f7a4 0 [some (vI a)] [] h (rI (fun r h' => r = (cnt (mem a) 16) ∧ h' = h)) := by
  obtain ⟨x, rfl⟩ : ∃ x : Nat, a = (x : Int) := ⟨a.toNat, by omega⟩
  have hx : x < 65536 := by omega
  have hl : bts [x % 256, x / 256, 0, 0] := by
    intro b hb
    simp only [List.mem_cons, List.not_mem_nil, or_false] at hb
    rcases hb with rfl | rfl | rfl | rfl <;> omega
  have hv : vl [x % 256, x / 256, 0, 0] = x := by simp only [vl]; omega
  have h1 := sw1_l _ hl
  have h2 := sw2_l _ hl
  have h3 := sw3_l _ hl
  rw [← h2, ← h1, hv] at h3
  rw [← h1, hv] at h2
  rw [hv] at h1
  simp only [List.length_cons, List.length_nil] at h1 h2 h3
  have p0 := dc4 (x % 256) (by omega)
  have p1 := dc4 (x / 256) (by omega)
  have v3 : vl ([x % 256, x / 256, 0, 0].map (pcb 8)) = pcb 8 (x % 256) + 256 * pcb 8 (x / 256) := by
    have z : pcb 8 0 = 0 := by decide
    simp only [List.map_cons, List.map_nil, vl, z]; omega
  have v1 : sw1 4 x < 65536 := by unfold sw1; omega
  have w2 : sw2 4 (sw1 4 x) < 131072 := by
    unfold sw2
    have q1 : sw1 4 x &&& rpt 51 4 ≤ sw1 4 x := Nat.and_le_left
    have q2 : sw1 4 x / 4 &&& rpt 51 4 ≤ sw1 4 x / 4 := Nat.and_le_left
    omega
  have e1 : (x : Int) - iand (iushr (x : Int) 1) 1431655765 = ((sw1 4 x : Nat) : Int) := by
    have q := iushr_n (a := x) (k := 1) (by omega) (by decide)
    rw [show ((1 : Nat) : Int) = 1 from rfl] at q
    rw [q, show (1431655765 : Int) = ((1431655765 : Nat) : Int) from rfl, iand_n (by omega) (by decide)]
    have : (x / 2 ^ 1) &&& 1431655765 ≤ x / 2 ^ 1 := Nat.and_le_left
    unfold sw1
    rw [show rpt 85 4 = 1431655765 by decide, show x / 2 = x / 2 ^ 1 from rfl]
    omega
  have e2 : iand ((sw1 4 x : Nat) : Int) 858993459 + iand (iushr ((sw1 4 x : Nat) : Int) 2) 858993459 = ((sw2 4 (sw1 4 x) : Nat) : Int) := by
    have q := iushr_n (a := sw1 4 x) (k := 2) (by omega) (by decide)
    rw [show ((2 : Nat) : Int) = 2 from rfl] at q
    rw [q, show (858993459 : Int) = ((858993459 : Nat) : Int) from rfl, iand_n (by omega) (by decide), iand_n (by omega) (by decide), ← Int.natCast_add]
    rfl
  have e3 : iand (((sw2 4 (sw1 4 x) : Nat) : Int) + iushr ((sw2 4 (sw1 4 x) : Nat) : Int) 4) 252645135 = ((pcb 8 (x % 256) + 256 * pcb 8 (x / 256) : Nat) : Int) := by
    have q := iushr_n (a := sw2 4 (sw1 4 x)) (k := 4) (by omega) (by decide)
    rw [show ((4 : Nat) : Int) = 4 from rfl] at q
    rw [q, ← Int.natCast_add, show (252645135 : Int) = ((252645135 : Nat) : Int) from rfl, iand_n (by omega) (by decide), ← v3, ← h3]
    rfl
  have r3 : iR (((sw2 4 (sw1 4 x) : Nat) : Int) + iushr ((sw2 4 (sw1 4 x) : Nat) : Int) 4) := by
    have q := iushr_n (a := sw2 4 (sw1 4 x)) (k := 4) (by omega) (by decide)
    rw [show ((4 : Nat) : Int) = 4 from rfl] at q
    rw [q, ← Int.natCast_add]
    exact ⟨by omega, by omega⟩
  have hc : cnt (mem (x : Int)) 16 = ((pcb 8 (x % 256) + pcb 8 (x / 256) : Nat) : Int) := by
    rw [cnt_pcb, show (16 : Nat) = 8 + 8 from rfl, pcb_split, ← pcb_mod x 8 8 (Nat.le_refl _)]
  generalize pcb 8 (x % 256) = P0 at *
  generalize pcb 8 (x / 256) = P1 at *
  have e4 : ((P0 + 256 * P1 : Nat) : Int) + iushr ((P0 + 256 * P1 : Nat) : Int) 8 = ((P0 + 257 * P1 : Nat) : Int) := by
    have q := iushr_n (a := P0 + 256 * P1) (k := 8) (by omega) (by decide)
    rw [show ((8 : Nat) : Int) = 8 from rfl] at q
    rw [q, ← Int.natCast_add]
    congr 1; omega
  have e5 : ((P0 + 257 * P1 : Nat) : Int) + iushr ((P0 + 257 * P1 : Nat) : Int) 16 = ((P0 + 257 * P1 : Nat) : Int) := by
    have q := iushr_n (a := P0 + 257 * P1) (k := 16) (by omega) (by decide)
    rw [show ((16 : Nat) : Int) = 16 from rfl] at q
    rw [q, ← Int.natCast_add]
    congr 1; omega
  have e6 : iand ((P0 + 257 * P1 : Nat) : Int) 63 = ((P0 + P1 : Nat) : Int) := by
    rw [show (63 : Int) = ((63 : Nat) : Int) from rfl, iand_n (by omega) (by decide), show (63 : Nat) = 2 ^ 6 - 1 from rfl, Nat.and_two_pow_sub_one_eq_mod]
    congr 1; omega
  refine v_J6_bitCount_0f7a4 w _ h _ ?_
  rw [e1, e2, e3, e4, e5, e6, hc]
  exact ⟨⟨by omega, by omega⟩, ⟨by omega, by omega⟩, r3, ⟨by omega, by omega⟩, ⟨by omega, by omega⟩, rfl, rfl⟩
set_option maxRecDepth 100000 in
set_option maxHeartbeats 4000000 in
theorem v_J13_bitCount_95d88 (w : WD) (a : Int) (h : HP) (K : Int → HP → Prop) 
    (H : ((lR (a - (jand (jushr a 1) 6148914691236517205))) ∧ ((lR ((jand (a - (jand (jushr a 1) 6148914691236517205)) 3689348814741910323) + (jand (jushr (a - (jand (jushr a 1) 6148914691236517205)) 2) 3689348814741910323))) ∧ ((lR (((jand (a - (jand (jushr a 1) 6148914691236517205)) 3689348814741910323) + (jand (jushr (a - (jand (jushr a 1) 6148914691236517205)) 2) 3689348814741910323)) + (jushr ((jand (a - (jand (jushr a 1) 6148914691236517205)) 3689348814741910323) + (jand (jushr (a - (jand (jushr a 1) 6148914691236517205)) 2) 3689348814741910323)) 4))) ∧ ((lR ((jand (((jand (a - (jand (jushr a 1) 6148914691236517205)) 3689348814741910323) + (jand (jushr (a - (jand (jushr a 1) 6148914691236517205)) 2) 3689348814741910323)) + (jushr ((jand (a - (jand (jushr a 1) 6148914691236517205)) 3689348814741910323) + (jand (jushr (a - (jand (jushr a 1) 6148914691236517205)) 2) 3689348814741910323)) 4)) 1085102592571150095) + (jushr (jand (((jand (a - (jand (jushr a 1) 6148914691236517205)) 3689348814741910323) + (jand (jushr (a - (jand (jushr a 1) 6148914691236517205)) 2) 3689348814741910323)) + (jushr ((jand (a - (jand (jushr a 1) 6148914691236517205)) 3689348814741910323) + (jand (jushr (a - (jand (jushr a 1) 6148914691236517205)) 2) 3689348814741910323)) 4)) 1085102592571150095) 8))) ∧ ((lR (((jand (((jand (a - (jand (jushr a 1) 6148914691236517205)) 3689348814741910323) + (jand (jushr (a - (jand (jushr a 1) 6148914691236517205)) 2) 3689348814741910323)) + (jushr ((jand (a - (jand (jushr a 1) 6148914691236517205)) 3689348814741910323) + (jand (jushr (a - (jand (jushr a 1) 6148914691236517205)) 2) 3689348814741910323)) 4)) 1085102592571150095) + (jushr (jand (((jand (a - (jand (jushr a 1) 6148914691236517205)) 3689348814741910323) + (jand (jushr (a - (jand (jushr a 1) 6148914691236517205)) 2) 3689348814741910323)) + (jushr ((jand (a - (jand (jushr a 1) 6148914691236517205)) 3689348814741910323) + (jand (jushr (a - (jand (jushr a 1) 6148914691236517205)) 2) 3689348814741910323)) 4)) 1085102592571150095) 8)) + (jushr ((jand (((jand (a - (jand (jushr a 1) 6148914691236517205)) 3689348814741910323) + (jand (jushr (a - (jand (jushr a 1) 6148914691236517205)) 2) 3689348814741910323)) + (jushr ((jand (a - (jand (jushr a 1) 6148914691236517205)) 3689348814741910323) + (jand (jushr (a - (jand (jushr a 1) 6148914691236517205)) 2) 3689348814741910323)) 4)) 1085102592571150095) + (jushr (jand (((jand (a - (jand (jushr a 1) 6148914691236517205)) 3689348814741910323) + (jand (jushr (a - (jand (jushr a 1) 6148914691236517205)) 2) 3689348814741910323)) + (jushr ((jand (a - (jand (jushr a 1) 6148914691236517205)) 3689348814741910323) + (jand (jushr (a - (jand (jushr a 1) 6148914691236517205)) 2) 3689348814741910323)) 4)) 1085102592571150095) 8)) 16))) ∧ ((lR ((((jand (((jand (a - (jand (jushr a 1) 6148914691236517205)) 3689348814741910323) + (jand (jushr (a - (jand (jushr a 1) 6148914691236517205)) 2) 3689348814741910323)) + (jushr ((jand (a - (jand (jushr a 1) 6148914691236517205)) 3689348814741910323) + (jand (jushr (a - (jand (jushr a 1) 6148914691236517205)) 2) 3689348814741910323)) 4)) 1085102592571150095) + (jushr (jand (((jand (a - (jand (jushr a 1) 6148914691236517205)) 3689348814741910323) + (jand (jushr (a - (jand (jushr a 1) 6148914691236517205)) 2) 3689348814741910323)) + (jushr ((jand (a - (jand (jushr a 1) 6148914691236517205)) 3689348814741910323) + (jand (jushr (a - (jand (jushr a 1) 6148914691236517205)) 2) 3689348814741910323)) 4)) 1085102592571150095) 8)) + (jushr ((jand (((jand (a - (jand (jushr a 1) 6148914691236517205)) 3689348814741910323) + (jand (jushr (a - (jand (jushr a 1) 6148914691236517205)) 2) 3689348814741910323)) + (jushr ((jand (a - (jand (jushr a 1) 6148914691236517205)) 3689348814741910323) + (jand (jushr (a - (jand (jushr a 1) 6148914691236517205)) 2) 3689348814741910323)) 4)) 1085102592571150095) + (jushr (jand (((jand (a - (jand (jushr a 1) 6148914691236517205)) 3689348814741910323) + (jand (jushr (a - (jand (jushr a 1) 6148914691236517205)) 2) 3689348814741910323)) + (jushr ((jand (a - (jand (jushr a 1) 6148914691236517205)) 3689348814741910323) + (jand (jushr (a - (jand (jushr a 1) 6148914691236517205)) 2) 3689348814741910323)) 4)) 1085102592571150095) 8)) 16)) + (jushr (((jand (((jand (a - (jand (jushr a 1) 6148914691236517205)) 3689348814741910323) + (jand (jushr (a - (jand (jushr a 1) 6148914691236517205)) 2) 3689348814741910323)) + (jushr ((jand (a - (jand (jushr a 1) 6148914691236517205)) 3689348814741910323) + (jand (jushr (a - (jand (jushr a 1) 6148914691236517205)) 2) 3689348814741910323)) 4)) 1085102592571150095) + (jushr (jand (((jand (a - (jand (jushr a 1) 6148914691236517205)) 3689348814741910323) + (jand (jushr (a - (jand (jushr a 1) 6148914691236517205)) 2) 3689348814741910323)) + (jushr ((jand (a - (jand (jushr a 1) 6148914691236517205)) 3689348814741910323) + (jand (jushr (a - (jand (jushr a 1) 6148914691236517205)) 2) 3689348814741910323)) 4)) 1085102592571150095) 8)) + (jushr ((jand (((jand (a - (jand (jushr a 1) 6148914691236517205)) 3689348814741910323) + (jand (jushr (a - (jand (jushr a 1) 6148914691236517205)) 2) 3689348814741910323)) + (jushr ((jand (a - (jand (jushr a 1) 6148914691236517205)) 3689348814741910323) + (jand (jushr (a - (jand (jushr a 1) 6148914691236517205)) 2) 3689348814741910323)) 4)) 1085102592571150095) + (jushr (jand (((jand (a - (jand (jushr a 1) 6148914691236517205)) 3689348814741910323) + (jand (jushr (a - (jand (jushr a 1) 6148914691236517205)) 2) 3689348814741910323)) + (jushr ((jand (a - (jand (jushr a 1) 6148914691236517205)) 3689348814741910323) + (jand (jushr (a - (jand (jushr a 1) 6148914691236517205)) 2) 3689348814741910323)) 4)) 1085102592571150095) 8)) 16)) 32))) ∧ K (iand (j2i ((((jand (((jand (a - (jand (jushr a 1) 6148914691236517205)) 3689348814741910323) + (jand (jushr (a - (jand (jushr a 1) 6148914691236517205)) 2) 3689348814741910323)) + (jushr ((jand (a - (jand (jushr a 1) 6148914691236517205)) 3689348814741910323) + (jand (jushr (a - (jand (jushr a 1) 6148914691236517205)) 2) 3689348814741910323)) 4)) 1085102592571150095) + (jushr (jand (((jand (a - (jand (jushr a 1) 6148914691236517205)) 3689348814741910323) + (jand (jushr (a - (jand (jushr a 1) 6148914691236517205)) 2) 3689348814741910323)) + (jushr ((jand (a - (jand (jushr a 1) 6148914691236517205)) 3689348814741910323) + (jand (jushr (a - (jand (jushr a 1) 6148914691236517205)) 2) 3689348814741910323)) 4)) 1085102592571150095) 8)) + (jushr ((jand (((jand (a - (jand (jushr a 1) 6148914691236517205)) 3689348814741910323) + (jand (jushr (a - (jand (jushr a 1) 6148914691236517205)) 2) 3689348814741910323)) + (jushr ((jand (a - (jand (jushr a 1) 6148914691236517205)) 3689348814741910323) + (jand (jushr (a - (jand (jushr a 1) 6148914691236517205)) 2) 3689348814741910323)) 4)) 1085102592571150095) + (jushr (jand (((jand (a - (jand (jushr a 1) 6148914691236517205)) 3689348814741910323) + (jand (jushr (a - (jand (jushr a 1) 6148914691236517205)) 2) 3689348814741910323)) + (jushr ((jand (a - (jand (jushr a 1) 6148914691236517205)) 3689348814741910323) + (jand (jushr (a - (jand (jushr a 1) 6148914691236517205)) 2) 3689348814741910323)) 4)) 1085102592571150095) 8)) 16)) + (jushr (((jand (((jand (a - (jand (jushr a 1) 6148914691236517205)) 3689348814741910323) + (jand (jushr (a - (jand (jushr a 1) 6148914691236517205)) 2) 3689348814741910323)) + (jushr ((jand (a - (jand (jushr a 1) 6148914691236517205)) 3689348814741910323) + (jand (jushr (a - (jand (jushr a 1) 6148914691236517205)) 2) 3689348814741910323)) 4)) 1085102592571150095) + (jushr (jand (((jand (a - (jand (jushr a 1) 6148914691236517205)) 3689348814741910323) + (jand (jushr (a - (jand (jushr a 1) 6148914691236517205)) 2) 3689348814741910323)) + (jushr ((jand (a - (jand (jushr a 1) 6148914691236517205)) 3689348814741910323) + (jand (jushr (a - (jand (jushr a 1) 6148914691236517205)) 2) 3689348814741910323)) 4)) 1085102592571150095) 8)) + (jushr ((jand (((jand (a - (jand (jushr a 1) 6148914691236517205)) 3689348814741910323) + (jand (jushr (a - (jand (jushr a 1) 6148914691236517205)) 2) 3689348814741910323)) + (jushr ((jand (a - (jand (jushr a 1) 6148914691236517205)) 3689348814741910323) + (jand (jushr (a - (jand (jushr a 1) 6148914691236517205)) 2) 3689348814741910323)) 4)) 1085102592571150095) + (jushr (jand (((jand (a - (jand (jushr a 1) 6148914691236517205)) 3689348814741910323) + (jand (jushr (a - (jand (jushr a 1) 6148914691236517205)) 2) 3689348814741910323)) + (jushr ((jand (a - (jand (jushr a 1) 6148914691236517205)) 3689348814741910323) + (jand (jushr (a - (jand (jushr a 1) 6148914691236517205)) 2) 3689348814741910323)) 4)) 1085102592571150095) 8)) 16)) 32))) 127) h))))))) :
    Ev w Y_J13_bitCount_95d88 0 [some (vL a), none] [] h (rI K) := by
  refine e_lload_n (pc := 0) dJ13_bitCount_95d88_0 rfl rfl ?_
  refine e_lload_n (pc := 1) dJ13_bitCount_95d88_1 rfl rfl ?_
  refine e_iconst (pc := 2) dJ13_bitCount_95d88_2 ⟨by decide, by decide⟩ ?_
  refine e_lushr (pc := 3) dJ13_bitCount_95d88_3 ?_
  refine e_ldc2 (x := 6148914691236517205) (pc := 4) dJ13_bitCount_95d88_4 ul_3_34 ⟨by decide, by decide⟩ ?_
  refine e_land (pc := 7) dJ13_bitCount_95d88_7 ?_
  refine e_lsub (pc := 8) dJ13_bitCount_95d88_8 H.1 ?_
  have H := H.2
  refine e_lstore_n (lv' := [some (vL (a - (jand (jushr a 1) 6148914691236517205))), none]) (pc := 9) dJ13_bitCount_95d88_9 rfl rfl rfl ?_
  refine e_lload_n (pc := 10) dJ13_bitCount_95d88_10 rfl rfl ?_
  refine e_ldc2 (x := 3689348814741910323) (pc := 11) dJ13_bitCount_95d88_11 ul_3_35 ⟨by decide, by decide⟩ ?_
  refine e_land (pc := 14) dJ13_bitCount_95d88_14 ?_
  refine e_lload_n (pc := 15) dJ13_bitCount_95d88_15 rfl rfl ?_
  refine e_iconst (pc := 16) dJ13_bitCount_95d88_16 ⟨by decide, by decide⟩ ?_
  refine e_lushr (pc := 17) dJ13_bitCount_95d88_17 ?_
  refine e_ldc2 (x := 3689348814741910323) (pc := 18) dJ13_bitCount_95d88_18 ul_3_35 ⟨by decide, by decide⟩ ?_
  refine e_land (pc := 21) dJ13_bitCount_95d88_21 ?_
  refine e_ladd (pc := 22) dJ13_bitCount_95d88_22 H.1 ?_
  have H := H.2
  refine e_lstore_n (lv' := [some (vL ((jand (a - (jand (jushr a 1) 6148914691236517205)) 3689348814741910323) + (jand (jushr (a - (jand (jushr a 1) 6148914691236517205)) 2) 3689348814741910323))), none]) (pc := 23) dJ13_bitCount_95d88_23 rfl rfl rfl ?_
  refine e_lload_n (pc := 24) dJ13_bitCount_95d88_24 rfl rfl ?_
  refine e_lload_n (pc := 25) dJ13_bitCount_95d88_25 rfl rfl ?_
  refine e_iconst (pc := 26) dJ13_bitCount_95d88_26 ⟨by decide, by decide⟩ ?_
  refine e_lushr (pc := 27) dJ13_bitCount_95d88_27 ?_
  refine e_ladd (pc := 28) dJ13_bitCount_95d88_28 H.1 ?_
  have H := H.2
  refine e_ldc2 (x := 1085102592571150095) (pc := 29) dJ13_bitCount_95d88_29 ul_3_36 ⟨by decide, by decide⟩ ?_
  refine e_land (pc := 32) dJ13_bitCount_95d88_32 ?_
  refine e_lstore_n (lv' := [some (vL (jand (((jand (a - (jand (jushr a 1) 6148914691236517205)) 3689348814741910323) + (jand (jushr (a - (jand (jushr a 1) 6148914691236517205)) 2) 3689348814741910323)) + (jushr ((jand (a - (jand (jushr a 1) 6148914691236517205)) 3689348814741910323) + (jand (jushr (a - (jand (jushr a 1) 6148914691236517205)) 2) 3689348814741910323)) 4)) 1085102592571150095)), none]) (pc := 33) dJ13_bitCount_95d88_33 rfl rfl rfl ?_
  refine e_lload_n (pc := 34) dJ13_bitCount_95d88_34 rfl rfl ?_
  refine e_lload_n (pc := 35) dJ13_bitCount_95d88_35 rfl rfl ?_
  refine e_bipush (pc := 36) dJ13_bitCount_95d88_36 ⟨by decide, by decide⟩ (by decide) ?_
  refine e_lushr (pc := 38) dJ13_bitCount_95d88_38 ?_
  refine e_ladd (pc := 39) dJ13_bitCount_95d88_39 H.1 ?_
  have H := H.2
  refine e_lstore_n (lv' := [some (vL ((jand (((jand (a - (jand (jushr a 1) 6148914691236517205)) 3689348814741910323) + (jand (jushr (a - (jand (jushr a 1) 6148914691236517205)) 2) 3689348814741910323)) + (jushr ((jand (a - (jand (jushr a 1) 6148914691236517205)) 3689348814741910323) + (jand (jushr (a - (jand (jushr a 1) 6148914691236517205)) 2) 3689348814741910323)) 4)) 1085102592571150095) + (jushr (jand (((jand (a - (jand (jushr a 1) 6148914691236517205)) 3689348814741910323) + (jand (jushr (a - (jand (jushr a 1) 6148914691236517205)) 2) 3689348814741910323)) + (jushr ((jand (a - (jand (jushr a 1) 6148914691236517205)) 3689348814741910323) + (jand (jushr (a - (jand (jushr a 1) 6148914691236517205)) 2) 3689348814741910323)) 4)) 1085102592571150095) 8))), none]) (pc := 40) dJ13_bitCount_95d88_40 rfl rfl rfl ?_
  refine e_lload_n (pc := 41) dJ13_bitCount_95d88_41 rfl rfl ?_
  refine e_lload_n (pc := 42) dJ13_bitCount_95d88_42 rfl rfl ?_
  refine e_bipush (pc := 43) dJ13_bitCount_95d88_43 ⟨by decide, by decide⟩ (by decide) ?_
  refine e_lushr (pc := 45) dJ13_bitCount_95d88_45 ?_
  refine e_ladd (pc := 46) dJ13_bitCount_95d88_46 H.1 ?_
  have H := H.2
  refine e_lstore_n (lv' := [some (vL (((jand (((jand (a - (jand (jushr a 1) 6148914691236517205)) 3689348814741910323) + (jand (jushr (a - (jand (jushr a 1) 6148914691236517205)) 2) 3689348814741910323)) + (jushr ((jand (a - (jand (jushr a 1) 6148914691236517205)) 3689348814741910323) + (jand (jushr (a - (jand (jushr a 1) 6148914691236517205)) 2) 3689348814741910323)) 4)) 1085102592571150095) + (jushr (jand (((jand (a - (jand (jushr a 1) 6148914691236517205)) 3689348814741910323) + (jand (jushr (a - (jand (jushr a 1) 6148914691236517205)) 2) 3689348814741910323)) + (jushr ((jand (a - (jand (jushr a 1) 6148914691236517205)) 3689348814741910323) + (jand (jushr (a - (jand (jushr a 1) 6148914691236517205)) 2) 3689348814741910323)) 4)) 1085102592571150095) 8)) + (jushr ((jand (((jand (a - (jand (jushr a 1) 6148914691236517205)) 3689348814741910323) + (jand (jushr (a - (jand (jushr a 1) 6148914691236517205)) 2) 3689348814741910323)) + (jushr ((jand (a - (jand (jushr a 1) 6148914691236517205)) 3689348814741910323) + (jand (jushr (a - (jand (jushr a 1) 6148914691236517205)) 2) 3689348814741910323)) 4)) 1085102592571150095) + (jushr (jand (((jand (a - (jand (jushr a 1) 6148914691236517205)) 3689348814741910323) + (jand (jushr (a - (jand (jushr a 1) 6148914691236517205)) 2) 3689348814741910323)) + (jushr ((jand (a - (jand (jushr a 1) 6148914691236517205)) 3689348814741910323) + (jand (jushr (a - (jand (jushr a 1) 6148914691236517205)) 2) 3689348814741910323)) 4)) 1085102592571150095) 8)) 16))), none]) (pc := 47) dJ13_bitCount_95d88_47 rfl rfl rfl ?_
  refine e_lload_n (pc := 48) dJ13_bitCount_95d88_48 rfl rfl ?_
  refine e_lload_n (pc := 49) dJ13_bitCount_95d88_49 rfl rfl ?_
  refine e_bipush (pc := 50) dJ13_bitCount_95d88_50 ⟨by decide, by decide⟩ (by decide) ?_
  refine e_lushr (pc := 52) dJ13_bitCount_95d88_52 ?_
  refine e_ladd (pc := 53) dJ13_bitCount_95d88_53 H.1 ?_
  have H := H.2
  refine e_lstore_n (lv' := [some (vL ((((jand (((jand (a - (jand (jushr a 1) 6148914691236517205)) 3689348814741910323) + (jand (jushr (a - (jand (jushr a 1) 6148914691236517205)) 2) 3689348814741910323)) + (jushr ((jand (a - (jand (jushr a 1) 6148914691236517205)) 3689348814741910323) + (jand (jushr (a - (jand (jushr a 1) 6148914691236517205)) 2) 3689348814741910323)) 4)) 1085102592571150095) + (jushr (jand (((jand (a - (jand (jushr a 1) 6148914691236517205)) 3689348814741910323) + (jand (jushr (a - (jand (jushr a 1) 6148914691236517205)) 2) 3689348814741910323)) + (jushr ((jand (a - (jand (jushr a 1) 6148914691236517205)) 3689348814741910323) + (jand (jushr (a - (jand (jushr a 1) 6148914691236517205)) 2) 3689348814741910323)) 4)) 1085102592571150095) 8)) + (jushr ((jand (((jand (a - (jand (jushr a 1) 6148914691236517205)) 3689348814741910323) + (jand (jushr (a - (jand (jushr a 1) 6148914691236517205)) 2) 3689348814741910323)) + (jushr ((jand (a - (jand (jushr a 1) 6148914691236517205)) 3689348814741910323) + (jand (jushr (a - (jand (jushr a 1) 6148914691236517205)) 2) 3689348814741910323)) 4)) 1085102592571150095) + (jushr (jand (((jand (a - (jand (jushr a 1) 6148914691236517205)) 3689348814741910323) + (jand (jushr (a - (jand (jushr a 1) 6148914691236517205)) 2) 3689348814741910323)) + (jushr ((jand (a - (jand (jushr a 1) 6148914691236517205)) 3689348814741910323) + (jand (jushr (a - (jand (jushr a 1) 6148914691236517205)) 2) 3689348814741910323)) 4)) 1085102592571150095) 8)) 16)) + (jushr (((jand (((jand (a - (jand (jushr a 1) 6148914691236517205)) 3689348814741910323) + (jand (jushr (a - (jand (jushr a 1) 6148914691236517205)) 2) 3689348814741910323)) + (jushr ((jand (a - (jand (jushr a 1) 6148914691236517205)) 3689348814741910323) + (jand (jushr (a - (jand (jushr a 1) 6148914691236517205)) 2) 3689348814741910323)) 4)) 1085102592571150095) + (jushr (jand (((jand (a - (jand (jushr a 1) 6148914691236517205)) 3689348814741910323) + (jand (jushr (a - (jand (jushr a 1) 6148914691236517205)) 2) 3689348814741910323)) + (jushr ((jand (a - (jand (jushr a 1) 6148914691236517205)) 3689348814741910323) + (jand (jushr (a - (jand (jushr a 1) 6148914691236517205)) 2) 3689348814741910323)) 4)) 1085102592571150095) 8)) + (jushr ((jand (((jand (a - (jand (jushr a 1) 6148914691236517205)) 3689348814741910323) + (jand (jushr (a - (jand (jushr a 1) 6148914691236517205)) 2) 3689348814741910323)) + (jushr ((jand (a - (jand (jushr a 1) 6148914691236517205)) 3689348814741910323) + (jand (jushr (a - (jand (jushr a 1) 6148914691236517205)) 2) 3689348814741910323)) 4)) 1085102592571150095) + (jushr (jand (((jand (a - (jand (jushr a 1) 6148914691236517205)) 3689348814741910323) + (jand (jushr (a - (jand (jushr a 1) 6148914691236517205)) 2) 3689348814741910323)) + (jushr ((jand (a - (jand (jushr a 1) 6148914691236517205)) 3689348814741910323) + (jand (jushr (a - (jand (jushr a 1) 6148914691236517205)) 2) 3689348814741910323)) 4)) 1085102592571150095) 8)) 16)) 32))), none]) (pc := 54) dJ13_bitCount_95d88_54 rfl rfl rfl ?_
  refine e_lload_n (pc := 55) dJ13_bitCount_95d88_55 rfl rfl ?_
  refine e_l2i (pc := 56) dJ13_bitCount_95d88_56 ?_
  refine e_bipush (pc := 57) dJ13_bitCount_95d88_57 ⟨by decide, by decide⟩ (by decide) ?_
  refine e_iand (pc := 59) dJ13_bitCount_95d88_59 ?_
  exact e_ret (pc := 60) (v := some (vI (iand (j2i ((((jand (((jand (a - (jand (jushr a 1) 6148914691236517205)) 3689348814741910323) + (jand (jushr (a - (jand (jushr a 1) 6148914691236517205)) 2) 3689348814741910323)) + (jushr ((jand (a - (jand (jushr a 1) 6148914691236517205)) 3689348814741910323) + (jand (jushr (a - (jand (jushr a 1) 6148914691236517205)) 2) 3689348814741910323)) 4)) 1085102592571150095) + (jushr (jand (((jand (a - (jand (jushr a 1) 6148914691236517205)) 3689348814741910323) + (jand (jushr (a - (jand (jushr a 1) 6148914691236517205)) 2) 3689348814741910323)) + (jushr ((jand (a - (jand (jushr a 1) 6148914691236517205)) 3689348814741910323) + (jand (jushr (a - (jand (jushr a 1) 6148914691236517205)) 2) 3689348814741910323)) 4)) 1085102592571150095) 8)) + (jushr ((jand (((jand (a - (jand (jushr a 1) 6148914691236517205)) 3689348814741910323) + (jand (jushr (a - (jand (jushr a 1) 6148914691236517205)) 2) 3689348814741910323)) + (jushr ((jand (a - (jand (jushr a 1) 6148914691236517205)) 3689348814741910323) + (jand (jushr (a - (jand (jushr a 1) 6148914691236517205)) 2) 3689348814741910323)) 4)) 1085102592571150095) + (jushr (jand (((jand (a - (jand (jushr a 1) 6148914691236517205)) 3689348814741910323) + (jand (jushr (a - (jand (jushr a 1) 6148914691236517205)) 2) 3689348814741910323)) + (jushr ((jand (a - (jand (jushr a 1) 6148914691236517205)) 3689348814741910323) + (jand (jushr (a - (jand (jushr a 1) 6148914691236517205)) 2) 3689348814741910323)) 4)) 1085102592571150095) 8)) 16)) + (jushr (((jand (((jand (a - (jand (jushr a 1) 6148914691236517205)) 3689348814741910323) + (jand (jushr (a - (jand (jushr a 1) 6148914691236517205)) 2) 3689348814741910323)) + (jushr ((jand (a - (jand (jushr a 1) 6148914691236517205)) 3689348814741910323) + (jand (jushr (a - (jand (jushr a 1) 6148914691236517205)) 2) 3689348814741910323)) 4)) 1085102592571150095) + (jushr (jand (((jand (a - (jand (jushr a 1) 6148914691236517205)) 3689348814741910323) + (jand (jushr (a - (jand (jushr a 1) 6148914691236517205)) 2) 3689348814741910323)) + (jushr ((jand (a - (jand (jushr a 1) 6148914691236517205)) 3689348814741910323) + (jand (jushr (a - (jand (jushr a 1) 6148914691236517205)) 2) 3689348814741910323)) 4)) 1085102592571150095) 8)) + (jushr ((jand (((jand (a - (jand (jushr a 1) 6148914691236517205)) 3689348814741910323) + (jand (jushr (a - (jand (jushr a 1) 6148914691236517205)) 2) 3689348814741910323)) + (jushr ((jand (a - (jand (jushr a 1) 6148914691236517205)) 3689348814741910323) + (jand (jushr (a - (jand (jushr a 1) 6148914691236517205)) 2) 3689348814741910323)) 4)) 1085102592571150095) + (jushr (jand (((jand (a - (jand (jushr a 1) 6148914691236517205)) 3689348814741910323) + (jand (jushr (a - (jand (jushr a 1) 6148914691236517205)) 2) 3689348814741910323)) + (jushr ((jand (a - (jand (jushr a 1) 6148914691236517205)) 3689348814741910323) + (jand (jushr (a - (jand (jushr a 1) 6148914691236517205)) 2) 3689348814741910323)) 4)) 1085102592571150095) 8)) 16)) 32))) 127))) dJ13_bitCount_95d88_60 rfl trivial ⟨_, rfl, H⟩
set_option maxRecDepth 100000 in
set_option maxHeartbeats 4000000 in
theorem c_J13_bitCount_95d88 (w : WD) (a : Int) (h : HP) (H : 0 ≤ a ∧ a < 1099511627776) : Ev w Y_J13_bitCount_95d88 0 [some (vL a), none] [] h (rI (fun r h' => r = (cnt (mem a) 40) ∧ h' = h)) := by
  obtain ⟨x, rfl⟩ : ∃ x : Nat, a = (x : Int) := ⟨a.toNat, by omega⟩
  have hx : x < 1099511627776 := by omega
  have hl : bts [x % 256, x / 256 % 256, x / 65536 % 256, x / 16777216 % 256, x / 4294967296, 0, 0, 0] := by
    intro b hb
    simp only [List.mem_cons, List.not_mem_nil, or_false] at hb
    rcases hb with rfl | rfl | rfl | rfl | rfl | rfl | rfl | rfl <;> omega
  have hv : vl [x % 256, x / 256 % 256, x / 65536 % 256, x / 16777216 % 256, x / 4294967296, 0, 0, 0] = x := by simp only [vl]; omega
  have h1 := sw1_l _ hl
  have h2 := sw2_l _ hl
  have h3 := sw3_l _ hl
  rw [← h2, ← h1, hv] at h3
  rw [← h1, hv] at h2
  rw [hv] at h1
  simp only [List.length_cons, List.length_nil] at h1 h2 h3
  have p0 := (dc4 (x % 256) (by omega)).2.2.2.2
  have p1 := (dc4 (x / 256 % 256) (by omega)).2.2.2.2
  have p2 := (dc4 (x / 65536 % 256) (by omega)).2.2.2.2
  have p3 := (dc4 (x / 16777216 % 256) (by omega)).2.2.2.2
  have p4 := (dc4 (x / 4294967296) (by omega)).2.2.2.2
  have v3 : vl ([x % 256, x / 256 % 256, x / 65536 % 256, x / 16777216 % 256, x / 4294967296, 0, 0, 0].map (pcb 8)) = pcb 8 (x % 256) + 256 * pcb 8 (x / 256 % 256) + 65536 * pcb 8 (x / 65536 % 256) + 16777216 * pcb 8 (x / 16777216 % 256) + 4294967296 * pcb 8 (x / 4294967296) := by
    have z : pcb 8 0 = 0 := by decide
    simp only [List.map_cons, List.map_nil, vl, z]; omega
  have v1 : sw1 8 x < 1099511627776 := by unfold sw1; omega
  have w2 : sw2 8 (sw1 8 x) < 2199023255552 := by
    unfold sw2
    have q1 : sw1 8 x &&& rpt 51 8 ≤ sw1 8 x := Nat.and_le_left
    have q2 : sw1 8 x / 4 &&& rpt 51 8 ≤ sw1 8 x / 4 := Nat.and_le_left
    omega
  have e1 : (x : Int) - jand (jushr (x : Int) 1) 6148914691236517205 = ((sw1 8 x : Nat) : Int) := by
    have q := jushr_n (a := x) (k := 1) (by omega) (by decide)
    rw [show ((1 : Nat) : Int) = 1 from rfl] at q
    rw [q, show (6148914691236517205 : Int) = ((6148914691236517205 : Nat) : Int) from rfl, jand_n (by omega) (by decide)]
    have : (x / 2 ^ 1) &&& 6148914691236517205 ≤ x / 2 ^ 1 := Nat.and_le_left
    unfold sw1
    rw [show rpt 85 8 = 6148914691236517205 by decide, show x / 2 = x / 2 ^ 1 from rfl]
    omega
  have e2 : jand ((sw1 8 x : Nat) : Int) 3689348814741910323 + jand (jushr ((sw1 8 x : Nat) : Int) 2) 3689348814741910323 = ((sw2 8 (sw1 8 x) : Nat) : Int) := by
    have q := jushr_n (a := sw1 8 x) (k := 2) (by omega) (by decide)
    rw [show ((2 : Nat) : Int) = 2 from rfl] at q
    rw [q, show (3689348814741910323 : Int) = ((3689348814741910323 : Nat) : Int) from rfl, jand_n (by omega) (by decide), jand_n (by omega) (by decide), ← Int.natCast_add]
    rfl
  have e3 : jand (((sw2 8 (sw1 8 x) : Nat) : Int) + jushr ((sw2 8 (sw1 8 x) : Nat) : Int) 4) 1085102592571150095 = ((pcb 8 (x % 256) + 256 * pcb 8 (x / 256 % 256) + 65536 * pcb 8 (x / 65536 % 256) + 16777216 * pcb 8 (x / 16777216 % 256) + 4294967296 * pcb 8 (x / 4294967296) : Nat) : Int) := by
    have q := jushr_n (a := sw2 8 (sw1 8 x)) (k := 4) (by omega) (by decide)
    rw [show ((4 : Nat) : Int) = 4 from rfl] at q
    rw [q, ← Int.natCast_add, show (1085102592571150095 : Int) = ((1085102592571150095 : Nat) : Int) from rfl, jand_n (by omega) (by decide), ← v3, ← h3]
    rfl
  have r3 : lR (((sw2 8 (sw1 8 x) : Nat) : Int) + jushr ((sw2 8 (sw1 8 x) : Nat) : Int) 4) := by
    have q := jushr_n (a := sw2 8 (sw1 8 x)) (k := 4) (by omega) (by decide)
    rw [show ((4 : Nat) : Int) = 4 from rfl] at q
    rw [q, ← Int.natCast_add]
    exact ⟨by omega, by omega⟩
  have hc : cnt (mem (x : Int)) 40 = ((pcb 8 (x % 256) + pcb 8 (x / 256 % 256) + pcb 8 (x / 65536 % 256) + pcb 8 (x / 16777216 % 256) + pcb 8 (x / 4294967296) : Nat) : Int) := by
    rw [cnt_pcb, show (40 : Nat) = 8 + (8 + (8 + (8 + 8))) from rfl, pcb_split, pcb_split, pcb_split, pcb_split, Nat.div_div_eq_div_mul, Nat.div_div_eq_div_mul, Nat.div_div_eq_div_mul, ← pcb_mod x 8 8 (Nat.le_refl _), ← pcb_mod (x / 2 ^ 8) 8 8 (Nat.le_refl _), ← pcb_mod (x / (2 ^ 8 * 2 ^ 8)) 8 8 (Nat.le_refl _), ← pcb_mod (x / (2 ^ 8 * 2 ^ 8 * 2 ^ 8)) 8 8 (Nat.le_refl _)]
    show ((pcb 8 (x % 256) + (pcb 8 (x / 256 % 256) + (pcb 8 (x / 65536 % 256) + (pcb 8 (x / 16777216 % 256) + pcb 8 (x / 4294967296)))) : Nat) : Int) = _
    congr 1; omega
  generalize pcb 8 (x % 256) = P0 at *
  generalize pcb 8 (x / 256 % 256) = P1 at *
  generalize pcb 8 (x / 65536 % 256) = P2 at *
  generalize pcb 8 (x / 16777216 % 256) = P3 at *
  generalize pcb 8 (x / 4294967296) = P4 at *
  generalize hy : P0 + 256 * P1 + 65536 * P2 + 16777216 * P3 + 4294967296 * P4 = y at *
  have e4 : (y : Int) + jushr (y : Int) 8 = ((y + y / 256 : Nat) : Int) := by
    have q := jushr_n (a := y) (k := 8) (by omega) (by decide)
    rw [show ((8 : Nat) : Int) = 8 from rfl] at q
    rw [q, ← Int.natCast_add]
  generalize hz : y + y / 256 = z at *
  have e5 : (z : Int) + jushr (z : Int) 16 = ((z + z / 65536 : Nat) : Int) := by
    have q := jushr_n (a := z) (k := 16) (by omega) (by decide)
    rw [show ((16 : Nat) : Int) = 16 from rfl] at q
    rw [q, ← Int.natCast_add]
  generalize hu : z + z / 65536 = u at *
  have e6 : (u : Int) + jushr (u : Int) 32 = ((u + u / 4294967296 : Nat) : Int) := by
    have q := jushr_n (a := u) (k := 32) (by omega) (by decide)
    rw [show ((32 : Nat) : Int) = 32 from rfl] at q
    rw [q, ← Int.natCast_add]
  generalize hs : u + u / 4294967296 = s at *
  have e7 : iand (j2i (s : Int)) 127 = ((P0 + P1 + P2 + P3 + P4 : Nat) : Int) := by
    have e : j2i (s : Int) = ((s % 4294967296 : Nat) : Int) ∨ True := Or.inr trivial
    have hj : (Int64.ofInt (s : Int)).toInt32 = nI s := by
      rw [l_nat (by omega)]
      apply Int32.toBitVec_inj.mp
      rw [Int64.toBitVec_toInt32]
      apply BitVec.eq_of_toNat_eq
      show (BitVec.signExtend 32 (BitVec.ofNat 64 s)).toNat = (BitVec.ofNat 32 s).toNat
      rw [BitVec.signExtend_eq_setWidth_of_le _ (by decide), BitVec.toNat_setWidth, BitVec.toNat_ofNat, BitVec.toNat_ofNat]
      omega
    unfold iand j2i
    rw [hj, i_of, show (127 : Int) = ((127 : Nat) : Int) from rfl, i_nat (by decide), nb_and, show (127 : Nat) = 2 ^ 7 - 1 from rfl, Nat.and_two_pow_sub_one_eq_mod, nI_toInt (by omega)]
    have f1 : y / 256 = P1 + 256 * P2 + 65536 * P3 + 16777216 * P4 := by omega
    have f2 : z = (P0 + P1) + 256 * (P1 + P2) + 65536 * (P2 + P3) + 16777216 * (P3 + P4) + 4294967296 * P4 := by omega
    have f3 : z / 65536 = (P2 + P3) + 256 * (P3 + P4) + 65536 * P4 := by omega
    have f4 : u = (P0 + P1 + P2 + P3) + 256 * (P1 + P2 + P3 + P4) + 65536 * (P2 + P3 + P4) + 16777216 * (P3 + P4) + 4294967296 * P4 := by omega
    have f5 : u / 4294967296 = P4 := by omega
    have f6 : s = (P0 + P1 + P2 + P3 + P4) + 128 * (2 * (P1 + P2 + P3 + P4) + 512 * (P2 + P3 + P4) + 131072 * (P3 + P4) + 33554432 * P4) := by omega
    clear e1 e2 e3 e4 e5 e6 r3 h1 h2 h3 hl hv hc v3
    congr 1; omega
  refine v_J13_bitCount_95d88 w _ h _ ?_
  rw [e1, e2, e3, e4, e5, e6, e7, hc]
  exact ⟨⟨by omega, by omega⟩, ⟨by omega, by omega⟩, r3, ⟨by omega, by omega⟩, ⟨by omega, by omega⟩, ⟨by omega, by omega⟩, rfl, rfl⟩
theorem ly_iR {q n : Nat} {b : Bool} (h : ly q = some (.inr (b, n))) : iR (n : Int) := by
  have ha : ev_lay.all (fun x => match x with | .inr (_, n) => Nat.ble n 4000 | .inl _ => true) = true := by decide +kernel
  have hm : (Sum.inr (b, n) : Nat ⊕ (Bool × Nat)) ∈ ev_lay := List.mem_of_getElem? h
  have := List.all_eq_true.mp ha _ hm
  have h2 : n ≤ 4000 := Nat.le_of_ble_eq_true this
  exact ⟨by omega, by omega⟩
def S_J7_fill_53178 (q : Nat) (v : Int) (h : HP) (K : HP → Prop) : Prop := ∀ h' : HP, (∀ q', q' ≠ q → h' q' = h q') → (∀ n : Nat, ly q = some (.inr (false, n)) → ∀ i : Int, 0 ≤ i → i < (n : Int) → h' q i = v) → K h'
set_option maxRecDepth 100000 in
set_option maxHeartbeats 4000000 in
theorem v_J7_fill_53178 (w : WD) (q : Nat) (v : Int) (h : HP) (K : HP → Prop) {n : Nat} (hq_q : ly q = some (.inr (false, n)))
    (I1 : Nat → Int → Int → HP → Prop)
    (H : (∃ m : Nat, I1 m 0 (n : Int) h))
    (H1 : ∀ (n1 : Nat) (x2 : Int) (x3 : Int) (g1 : HP), I1 n1 x2 x3 g1 → ((x3 ≤ x2 → K g1) ∧ (¬ x3 ≤ x2 → ((0 ≤ x2 ∧ x2 < n) ∧ ((iR (x2 + 1)) ∧ (∃ m : Nat, m < n1 ∧ I1 m (x2 + 1) x3 (sth g1 q x2 v))))))) :
    Ev w Y_J7_fill_53178 0 [some (vR q), some (vI v), none, none] [] h (rV K) := by
  have L1 : ∀ (n1 : Nat) (x2 : Int) (x3 : Int) (g1 : HP), I1 n1 x2 x3 g1 → Ev w Y_J7_fill_53178 5 [some (vR q), some (vI v), some (vI x2), some (vI x3)] [] g1 (rV K) := by
    intro n1
    induction n1 using Nat.strongRecOn with
    | ind n1 ih1 =>
      intro x2 x3 g1 H
      have H := H1 n1 x2 x3 g1 H
      refine e_iload_n (pc := 5) dJ7_fill_53178_5 rfl rfl ?_
      refine e_iload_n (pc := 6) dJ7_fill_53178_6 rfl rfl ?_
      refine e_icmp_ge (pc := 7) (tgt := 20) dJ7_fill_53178_7 (by decide) (fun c1 => ?_) (fun c1 => ?_)
      · have H := H.1 c1
        exact e_ret (pc := 20) (v := none) dJ7_fill_53178_20 rfl trivial ⟨rfl, H⟩
      · have H := H.2 c1
        refine e_aload_n (pc := 10) dJ7_fill_53178_10 rfl rfl ?_
        refine e_iload_n (pc := 11) dJ7_fill_53178_11 rfl rfl ?_
        refine e_iload_n (pc := 12) dJ7_fill_53178_12 rfl rfl ?_
        refine e_iast (q := q) (pc := 13) dJ7_fill_53178_13 hq_q H.1 ?_
        have H := H.2
        refine e_iinc (lv' := [some (vR q), some (vI v), some (vI (x2 + 1)), some (vI x3)]) (pc := 14) dJ7_fill_53178_14 rfl H.1 rfl rfl ?_
        have H := H.2
        refine e_goto (pc := 17) (tgt := 5) dJ7_fill_53178_17 (by decide) ?_
        obtain ⟨m, hm, H⟩ := H
        exact ih1 m hm _ _ _ H
  refine e_iconst (pc := 0) dJ7_fill_53178_0 ⟨by decide, by decide⟩ ?_
  refine e_istore_n (lv' := [some (vR q), some (vI v), some (vI 0), none]) (pc := 1) dJ7_fill_53178_1 rfl rfl rfl ?_
  refine e_aload_n (pc := 2) dJ7_fill_53178_2 rfl rfl ?_
  refine e_alen (q := q) (pc := 3) dJ7_fill_53178_3 hq_q (ly_iR hq_q) ?_
  refine e_istore_n (lv' := [some (vR q), some (vI v), some (vI 0), some (vI (n : Int))]) (pc := 4) dJ7_fill_53178_4 rfl rfl rfl ?_
  obtain ⟨m, H⟩ := H
  exact L1 m _ _ _ H
set_option maxRecDepth 100000 in
set_option maxHeartbeats 4000000 in
theorem c_J7_fill_53178 (w : WD) (q : Nat) (v : Int) (h : HP) (K : HP → Prop) {n : Nat} (hq_q : ly q = some (.inr (false, n))) (H : S_J7_fill_53178 q v h K) : Ev w Y_J7_fill_53178 0 [some (vR q), some (vI v), none, none] [] h (rV K) := by
  refine v_J7_fill_53178 w q v h K hq_q (fun m x2 x3 g => x3 = (n : Int) ∧ (0 ≤ x2 ∧ x2 ≤ (n : Int)) ∧ m = ((n : Int) - x2).toNat ∧ (∀ q', q' ≠ q → g q' = h q') ∧ ∀ i : Int, 0 ≤ i → i < x2 → g q i = v) ⟨n, rfl, by omega, by omega, fun _ _ => rfl, fun i a b => by omega⟩ ?_
  have hn := ly_iR hq_q
  rintro m x2 x3 g ⟨rfl, h0, rfl, hg, hi⟩
  refine ⟨fun c => H g hg (fun n' e i a b => ?_), fun c => ⟨by omega, ⟨by omega, by have := hn.2; omega⟩, ((n : Int) - (x2 + 1)).toNat, by omega, rfl, by omega, rfl, fun q' a => by rw [sth_ne a]; exact hg q' a, fun i a b => ?_⟩⟩
  · rw [hq_q] at e
    have e2 : n = n' := by injection e with e; injection e with e; injection e
    exact hi i a (by omega)
  · rw [sth_eq]
    by_cases e : i = x2
    · rw [e, us_s]
    · rw [us_n e]; exact hi i a (by omega)
theorem dbo : ∀ a, a < 32 → ∀ b, b < 32 → 32 * a + b = 0 ∨ ((32 * a + b) &&& (32 * a + b - 1) < 32 * a + b ∧ pcb 10 ((32 * a + b) &&& (32 * a + b - 1)) + 1 = pcb 10 (32 * a + b)) := by decide +kernel
set_option maxRecDepth 100000 in
set_option maxHeartbeats 4000000 in
theorem v_X9_bitsOf (w : WD) (a : Int) (h : HP) (K : Int → HP → Prop) 
    (I1 : Nat → Int → Int → HP → Prop)
    (H : (∃ m : Nat, I1 m 0 a h))
    (H1 : ∀ (n1 : Nat) (x1 : Int) (x2 : Int) (g1 : HP), I1 n1 x1 x2 g1 → ((x2 = 0 → K x1 g1) ∧ (¬ x2 = 0 → ((iR (x1 + 1)) ∧ ((iR (x2 - 1)) ∧ (∃ m : Nat, m < n1 ∧ I1 m (x1 + 1) (iand x2 (x2 - 1)) g1)))))) :
    Ev w Y_X9_bitsOf 0 [some (vI a), none, none] [] h (rI K) := by
  have L1 : ∀ (n1 : Nat) (x1 : Int) (x2 : Int) (g1 : HP), I1 n1 x1 x2 g1 → Ev w Y_X9_bitsOf 4 [none, some (vI x1), some (vI x2)] [] g1 (rI K) := by
    intro n1
    induction n1 using Nat.strongRecOn with
    | ind n1 ih1 =>
      intro x1 x2 g1 H
      have H := H1 n1 x1 x2 g1 H
      refine e_iload_n (pc := 4) dX9_bitsOf_4 rfl rfl ?_
      refine e_if_eq (pc := 5) (tgt := 20) dX9_bitsOf_5 (by decide) (fun c1 => ?_) (fun c1 => ?_)
      · have H := H.1 c1
        refine e_iload_n (pc := 20) dX9_bitsOf_20 rfl rfl ?_
        exact e_ret (pc := 21) (v := some (vI x1)) dX9_bitsOf_21 rfl trivial ⟨_, rfl, H⟩
      · have H := H.2 c1
        refine e_iinc (lv' := [none, some (vI (x1 + 1)), some (vI x2)]) (pc := 8) dX9_bitsOf_8 rfl H.1 rfl rfl ?_
        have H := H.2
        refine e_iload_n (pc := 11) dX9_bitsOf_11 rfl rfl ?_
        refine e_iload_n (pc := 12) dX9_bitsOf_12 rfl rfl ?_
        refine e_iconst (pc := 13) dX9_bitsOf_13 ⟨by decide, by decide⟩ ?_
        refine e_isub (pc := 14) dX9_bitsOf_14 H.1 ?_
        have H := H.2
        refine e_iand (pc := 15) dX9_bitsOf_15 ?_
        refine e_istore_n (lv' := [none, some (vI (x1 + 1)), some (vI (iand x2 (x2 - 1)))]) (pc := 16) dX9_bitsOf_16 rfl rfl rfl ?_
        refine e_goto (pc := 17) (tgt := 4) dX9_bitsOf_17 (by decide) ?_
        obtain ⟨m, hm, H⟩ := H
        exact ih1 m hm _ _ _ H
  refine e_iconst (pc := 0) dX9_bitsOf_0 ⟨by decide, by decide⟩ ?_
  refine e_istore_n (lv' := [some (vI a), some (vI 0), none]) (pc := 1) dX9_bitsOf_1 rfl rfl rfl ?_
  refine e_iload_n (pc := 2) dX9_bitsOf_2 rfl rfl ?_
  refine e_istore_n (lv' := [some (vI a), some (vI 0), some (vI a)]) (pc := 3) dX9_bitsOf_3 rfl rfl rfl ?_
  refine e_mask [false, true, true] rfl ?_
  obtain ⟨m, H⟩ := H
  exact L1 m _ _ _ H
set_option maxRecDepth 100000 in
set_option maxHeartbeats 4000000 in
theorem c_X9_bitsOf (w : WD) (a : Int) (h : HP) (H : 0 ≤ a ∧ a < 1024) : Ev w Y_X9_bitsOf 0 [some (vI a), none, none] [] h (rI (fun r h' => r = (cnt (mem a) 10) ∧ h' = h)) := by
  refine v_X9_bitsOf w a h _ (fun n x1 x2 g => g = h ∧ ∃ y : Nat, x2 = (y : Int) ∧ y = n ∧ y < 1024 ∧ (0 ≤ x1 ∧ x1 ≤ 10) ∧ x1 + (pcb 10 y : Int) = cnt (mem a) 10) ⟨a.toNat, rfl, a.toNat, by omega, rfl, by omega, by omega, ?_⟩ ?_
  · have := cnt_pcb a.toNat 10
    rw [Int.toNat_of_nonneg H.1] at this
    omega
  · rintro n x1 x2 g ⟨rfl, y, rfl, rfl, hy, h1, he⟩
    refine ⟨fun c => ⟨?_, rfl⟩, fun c => ?_⟩
    · have : y = 0 := by omega
      subst this
      have z : pcb 10 0 = 0 := by decide
      omega
    · have d := dbo (y / 32) (by omega) (y % 32) (by omega)
      rw [show 32 * (y / 32) + y % 32 = y by omega] at d
      have d := d.resolve_left (by omega)
      have e : iand (y : Int) ((y : Int) - 1) = ((y &&& (y - 1) : Nat) : Int) := by
        rw [show ((y : Int) - 1) = ((y - 1 : Nat) : Int) by omega, iand_n (by omega) (by omega)]
      have hb := cnt_b (mem a) 10
      exact ⟨⟨by omega, by omega⟩, ⟨by omega, by omega⟩, y &&& (y - 1), d.1, rfl, y &&& (y - 1), e, rfl, by omega, by omega, by omega⟩
