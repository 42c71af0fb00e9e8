/-! bits: ints as sets, ints as rows of states -/
theorem nb_and (a b : Nat) : nI a &&& nI b = nI (a &&& b) := by
  apply Int32.toBitVec_inj.1
  show BitVec.ofNat 32 a &&& BitVec.ofNat 32 b = BitVec.ofNat 32 (a &&& b)
  apply BitVec.eq_of_getLsbD_eq
  intro i hi
  simp [BitVec.getLsbD_ofNat, Nat.testBit_and, hi]
theorem nb_or (a b : Nat) : nI a ||| nI b = nI (a ||| b) := by
  apply Int32.toBitVec_inj.1
  show BitVec.ofNat 32 a ||| BitVec.ofNat 32 b = BitVec.ofNat 32 (a ||| b)
  apply BitVec.eq_of_getLsbD_eq
  intro i hi
  simp [BitVec.getLsbD_ofNat, Nat.testBit_or, hi]
theorem nb_sl : ∀ n, n < 32 → ((nI n &&& 31).toBitVec.smod 32).toNat = n := by decide +kernel
theorem nb_su : ∀ n, n < 32 → (((nI n).toUInt32 &&& Int32.toUInt32 31).toBitVec % 32).toNat = n := by decide +kernel
theorem iand_n {a b : Nat} (ha : a < 2 ^ 31) (hb : b < 2 ^ 31) : iand (a : Int) (b : Int) = ((a &&& b : Nat) : Int) := by
  unfold iand
  rw [i_nat ha, i_nat hb, nb_and, nI_toInt (Nat.lt_of_le_of_lt Nat.and_le_left ha)]
theorem ior_n {a b : Nat} (ha : a < 2 ^ 31) (hb : b < 2 ^ 31) : ior (a : Int) (b : Int) = ((a ||| b : Nat) : Int) := by
  unfold ior
  rw [i_nat ha, i_nat hb, nb_or, nI_toInt (Nat.or_lt_two_pow ha hb)]
theorem ishr_n {a k : Nat} (ha : a < 2 ^ 31) (hk : k < 32) : ishr (a : Int) (k : Int) = ((a / 2 ^ k : Nat) : Int) := by
  unfold ishr
  rw [i_nat ha, i_nat (Nat.lt_trans hk (by decide)), pk_shrN ha _ k (nb_sl k hk), nI_toInt (Nat.lt_of_le_of_lt (Nat.div_le_self _ _) ha)]
theorem ishl_n {a k : Nat} (ha : a < 2 ^ 31) (hk : k < 32) (h : a * 2 ^ k < 2 ^ 31) : ishl (a : Int) (k : Int) = ((a * 2 ^ k : Nat) : Int) := by
  unfold ishl
  rw [i_nat ha, i_nat (Nat.lt_trans hk (by decide)), pk_shlN _ k (nb_sl k hk) (Nat.lt_trans h (by decide)), nI_toInt h]
/-- a without the bits of b -/
theorem iandn_n {a b : Nat} (ha : a < 2 ^ 31) (hb : b < 2 ^ 31) : ∃ r : Nat, iand (a : Int) (ixor (b : Int) (-1)) = (r : Int) ∧ r < 2 ^ 31 ∧ ∀ i, r.testBit i = (a.testBit i && !b.testBit i) := by
  have e1 : Int32.ofInt (ixor (b : Int) (-1)) = Int32.ofInt (b : Int) ^^^ (-1) := by unfold ixor; rw [i_of]; rfl
  unfold iand
  rw [e1, i_nat ha, i_nat hb]
  have e2 : (nI a &&& (nI b ^^^ (-1))).toBitVec = BitVec.ofNat 32 (a ^^^ (a &&& b)) := by
    rw [Int32.toBitVec_and, Int32.toBitVec_xor]
    show BitVec.ofNat 32 a &&& (BitVec.ofNat 32 b ^^^ (BitVec.allOnes 32)) = _
    apply BitVec.eq_of_getLsbD_eq
    intro i hi
    simp only [BitVec.getLsbD_and, BitVec.getLsbD_xor, BitVec.getLsbD_ofNat, BitVec.getLsbD_allOnes, hi, Nat.testBit_xor, Nat.testBit_and, decide_true, Bool.true_and]
    cases a.testBit i <;> cases b.testBit i <;> rfl
  have hlt : a ^^^ (a &&& b) < 2 ^ 31 := Nat.xor_lt_two_pow ha (Nat.lt_of_le_of_lt Nat.and_le_left ha)
  refine ⟨a ^^^ (a &&& b), ?_, hlt, fun i => ?_⟩
  · have e3 : nI a &&& (nI b ^^^ (-1)) = nI (a ^^^ (a &&& b)) := Int32.toBitVec_inj.1 e2
    rw [e3, nI_toInt hlt]
  · rw [Nat.testBit_xor, Nat.testBit_and]
    cases a.testBit i <;> cases b.testBit i <;> rfl
-- long
theorem l_nat {n : Nat} (h : n < 2 ^ 63) : Int64.ofInt (n : Int) = lN n := by
  apply l_ext
  rw [l_toInt ⟨by omega, by omega⟩, pk_lT h]
theorem nl_and (a b : Nat) : lN a &&& lN b = lN (a &&& b) := by
  apply Int64.toBitVec_inj.1
  show BitVec.ofNat 64 a &&& BitVec.ofNat 64 b = BitVec.ofNat 64 (a &&& b)
  apply BitVec.eq_of_getLsbD_eq
  intro i hi
  simp [BitVec.getLsbD_ofNat, Nat.testBit_and, hi]
theorem nl_or (a b : Nat) : lN a ||| lN b = lN (a ||| b) := by
  apply Int64.toBitVec_inj.1
  show BitVec.ofNat 64 a ||| BitVec.ofNat 64 b = BitVec.ofNat 64 (a ||| b)
  apply BitVec.eq_of_getLsbD_eq
  intro i hi
  simp [BitVec.getLsbD_ofNat, Nat.testBit_or, hi]
theorem nl_c : ∀ k, k < 64 → ((nI k).toInt64 &&& 63) = lN k := by decide +kernel
theorem nl_cu : ∀ k, k < 64 → ((nI k).toInt64.toUInt64 &&& Int64.toUInt64 63) = UInt64.ofNat k := by decide +kernel
theorem nl_sm : ∀ k, k < 64 → (BitVec.ofNat 64 k).smod 64 = BitVec.ofNat 64 k := by decide +kernel
theorem jor_n {a b : Nat} (ha : a < 2 ^ 63) (hb : b < 2 ^ 63) : jor (a : Int) (b : Int) = ((a ||| b : Nat) : Int) := by
  unfold jor
  rw [l_nat ha, l_nat hb, nl_or, pk_lT (Nat.or_lt_two_pow ha hb)]
theorem jand_n {a b : Nat} (ha : a < 2 ^ 63) (hb : b < 2 ^ 63) : jand (a : Int) (b : Int) = ((a &&& b : Nat) : Int) := by
  unfold jand
  rw [l_nat ha, l_nat hb, nl_and, pk_lT (Nat.lt_of_le_of_lt Nat.and_le_left ha)]
theorem jshl_n {a k : Nat} (ha : a < 2 ^ 63) (hk : k < 63) (h : a * 2 ^ k < 2 ^ 63) : jshl (a : Int) (k : Int) = ((a * 2 ^ k : Nat) : Int) := by
  unfold jshl
  rw [l_nat ha, i_nat (by omega), nl_c k (by omega)]
  have : lN a <<< lN k = lN (a * 2 ^ k) := by
    apply Int64.toBitVec_inj.mp
    rw [Int64.toBitVec_shiftLeft]
    show BitVec.ofNat 64 a <<< ((BitVec.ofNat 64 k).smod 64).toNat = BitVec.ofNat 64 (a * 2 ^ k)
    rw [nl_sm k (by omega)]
    apply BitVec.eq_of_toNat_eq
    rw [BitVec.toNat_shiftLeft, BitVec.toNat_ofNat, BitVec.toNat_ofNat, BitVec.toNat_ofNat, Nat.mod_eq_of_lt (show k < 2 ^ 64 by omega), Nat.shiftLeft_eq, Nat.mod_eq_of_lt (show a < 2 ^ 64 by omega)]
  rw [this, pk_lT h]
theorem jandn_n {a b : Nat} (ha : a < 2 ^ 63) (hb : b < 2 ^ 63) : ∃ r : Nat, jand (a : Int) (jxor (b : Int) (-1)) = (r : Int) ∧ r < 2 ^ 63 ∧ ∀ i, r.testBit i = (a.testBit i && !b.testBit i) := by
  have e1 : Int64.ofInt (jxor (b : Int) (-1)) = Int64.ofInt (b : Int) ^^^ (-1) := by unfold jxor; rw [l_of]; rfl
  unfold jand
  rw [e1, l_nat ha, l_nat hb]
  have e2 : (lN a &&& (lN b ^^^ (-1))).toBitVec = BitVec.ofNat 64 (a ^^^ (a &&& b)) := by
    rw [Int64.toBitVec_and, Int64.toBitVec_xor]
    show BitVec.ofNat 64 a &&& (BitVec.ofNat 64 b ^^^ (BitVec.allOnes 64)) = _
    apply BitVec.eq_of_getLsbD_eq
    intro i hi
    simp only [BitVec.getLsbD_and, BitVec.getLsbD_xor, BitVec.getLsbD_ofNat, BitVec.getLsbD_allOnes, hi, Nat.testBit_xor, Nat.testBit_and, decide_true, Bool.true_and]
    cases a.testBit i <;> cases b.testBit i <;> rfl
  have hlt : a ^^^ (a &&& b) < 2 ^ 63 := Nat.xor_lt_two_pow ha (Nat.lt_of_le_of_lt Nat.and_le_left ha)
  refine ⟨a ^^^ (a &&& b), ?_, hlt, fun i => ?_⟩
  · have e3 : lN a &&& (lN b ^^^ (-1)) = lN (a ^^^ (a &&& b)) := Int64.toBitVec_inj.1 e2
    rw [e3, pk_lT hlt]
  · rw [Nat.testBit_xor, Nat.testBit_and]
    cases a.testBit i <;> cases b.testBit i <;> rfl
-- counting and sets over 0, 1, .. n - 1
noncomputable def cnt (p : Int → Prop) : Nat → Int
  | 0 => 0
  | n + 1 => cnt p n + b2i (p (n : Int))
noncomputable def bsN (p : Int → Prop) : Nat → Nat
  | 0 => 0
  | n + 1 => bsN p n + (b2i (p (n : Int))).toNat * 2 ^ n
noncomputable def bset (p : Int → Prop) (n : Nat) : Int := (bsN p n : Int)
theorem cnt_b (p : Int → Prop) : ∀ n, 0 ≤ cnt p n ∧ cnt p n ≤ (n : Int)
  | 0 => ⟨Int.le_refl 0, Int.le_refl 0⟩
  | n + 1 => by
    have h := cnt_b p n
    rcases b2i_01 (p (n : Int)) with e | e <;> simp only [cnt, e] <;> omega
theorem cnt_c {p q : Int → Prop} : ∀ {n : Nat}, (∀ i : Int, 0 ≤ i → i < (n : Int) → (p i ↔ q i)) → cnt p n = cnt q n
  | 0, _ => rfl
  | n + 1, h => by
    simp only [cnt]
    rw [cnt_c (n := n) (fun i h0 h1 => h i h0 (by omega)), b2i_c (h (n : Int) (by omega) (by omega))]
theorem bs_c {p q : Int → Prop} : ∀ {n : Nat}, (∀ i : Int, 0 ≤ i → i < (n : Int) → (p i ↔ q i)) → bsN p n = bsN q n
  | 0, _ => rfl
  | n + 1, h => by
    simp only [bsN]
    rw [bs_c (n := n) (fun i h0 h1 => h i h0 (by omega)), b2i_c (h (n : Int) (by omega) (by omega))]
theorem bset_c {p q : Int → Prop} {n : Nat} (h : ∀ i : Int, 0 ≤ i → i < (n : Int) → (p i ↔ q i)) : bset p n = bset q n := by unfold bset; rw [bs_c h]
theorem bs_lt (p : Int → Prop) : ∀ n, bsN p n < 2 ^ n
  | 0 => by simp [bsN]
  | n + 1 => by
    have h := bs_lt p n
    rw [Nat.pow_succ]
    rcases b2i_01 (p (n : Int)) with e | e <;> simp only [bsN, e] <;> simp <;> omega
theorem bs_bit (p : Int → Prop) : ∀ n i, (bsN p n).testBit i = true ↔ (i < n ∧ p (i : Int))
  | 0, i => by simp [bsN]
  | n + 1, i => by
    have hl := bs_lt p n
    have ih := bs_bit p n i
    have key : (bsN p (n + 1)).testBit i = if i = n then decide (b2i (p (n : Int)) = 1) else (bsN p n).testBit i := by
      rcases b2i_01 (p (n : Int)) with e | e
      · simp only [bsN, e]
        by_cases hi : i = n
        · subst hi
          simp [Nat.testBit_lt_two_pow hl]
        · simp [hi]
      · simp only [bsN, e]
        have e2 : bsN p n + (1 : Int).toNat * 2 ^ n = 2 ^ n + bsN p n := by simp; omega
        rw [e2]
        by_cases hi : i = n
        · subst hi
          rw [Nat.testBit_two_pow_add_eq, Nat.testBit_lt_two_pow hl]
          simp
        · rw [if_neg hi]
          rcases Nat.lt_or_gt_of_ne hi with h1 | h1
          · exact Nat.testBit_two_pow_add_gt h1 _
          · rw [Nat.testBit_lt_two_pow (Nat.lt_of_lt_of_le hl (Nat.pow_le_pow_right (by decide) (Nat.le_of_lt h1)))]
            exact Nat.testBit_lt_two_pow (by
              have : 2 ^ n + bsN p n < 2 ^ (n + 1) := by rw [Nat.pow_succ]; omega
              exact Nat.lt_of_lt_of_le this (Nat.pow_le_pow_right (by decide) h1))
    rw [key]
    by_cases hi : i = n
    · subst hi
      simp [b2i_1]
    · rw [if_neg hi, ih]
      constructor
      · rintro ⟨a, b⟩; exact ⟨by omega, b⟩
      · rintro ⟨a, b⟩; exact ⟨by omega, b⟩
theorem nat_bs {x : Nat} {n : Nat} (h : x < 2 ^ n) : x = bsN (fun i => x.testBit i.toNat = true) n := by
  apply Nat.eq_of_testBit_eq
  intro i
  by_cases hb : x.testBit i = true
  · rw [hb]
    have hi : i < n := by
      rcases Nat.lt_or_ge i n with h1 | h1
      · exact h1
      · rw [Nat.testBit_lt_two_pow (Nat.lt_of_lt_of_le h (Nat.pow_le_pow_right (by decide) h1))] at hb
        cases hb
    exact ((bs_bit _ n i).mpr ⟨hi, by simpa using hb⟩).symm
  · have h2 : ¬ (bsN (fun i => x.testBit i.toNat = true) n).testBit i = true := fun z => hb (by simpa using ((bs_bit _ n i).mp z).2)
    rw [Bool.not_eq_true] at hb h2
    rw [hb, h2]
/-- membership, as both write it -/
def mem (x t : Int) : Prop := x.toNat.testBit t.toNat = true
theorem mem_bset {p : Int → Prop} {n : Nat} {t : Int} (h0 : 0 ≤ t) : mem (bset p n) t ↔ t < (n : Int) ∧ p t := by
  unfold mem bset
  rw [Int.toNat_natCast, bs_bit]
  have : ((t.toNat : Nat) : Int) = t := Int.toNat_of_nonneg h0
  rw [this]
  constructor
  · rintro ⟨a, b⟩; exact ⟨by omega, b⟩
  · rintro ⟨a, b⟩; exact ⟨by omega, b⟩
theorem mem_get {x t : Int} (hx : 0 ≤ x ∧ x < 2147483648) (ht : 0 ≤ t ∧ t < 32) : iand (ishr x t) 1 = b2i (mem x t) := by
  obtain ⟨a, rfl⟩ : ∃ a : Nat, x = (a : Int) := ⟨x.toNat, by omega⟩
  obtain ⟨k, rfl⟩ : ∃ k : Nat, t = (k : Int) := ⟨t.toNat, by omega⟩
  have ha : a < 2 ^ 31 := by omega
  have hk : k < 32 := by omega
  rw [ishr_n ha hk, show (1 : Int) = ((1 : Nat) : Int) from rfl, iand_n (Nat.lt_of_le_of_lt (Nat.div_le_self _ _) ha) (by decide)]
  unfold mem
  rw [Int.toNat_natCast, Int.toNat_natCast, Nat.and_one_is_mod, Nat.testBit_eq_decide_div_mod_eq]
  rcases Nat.mod_two_eq_zero_or_one (a / 2 ^ k) with e | e
  · rw [e, b2i_f (by simp)]; rfl
  · rw [e, b2i_t (by simp)]; rfl
theorem bset_b (p : Int → Prop) {n : Nat} : 0 ≤ bset p n ∧ bset p n < 2 ^ n := by
  have h := bs_lt p n
  unfold bset
  refine ⟨by omega, ?_⟩
  have : ((bsN p n : Nat) : Int) < ((2 ^ n : Nat) : Int) := Int.ofNat_lt.mpr h
  rwa [Int.natCast_pow] at this
theorem bset_R {p : Int → Prop} {n : Nat} (hn : n ≤ 31) : 0 ≤ bset p n ∧ bset p n < 2147483648 := by
  have h := bs_lt p n
  have : 2 ^ n ≤ 2 ^ 31 := Nat.pow_le_pow_right (by decide) hn
  unfold bset
  constructor <;> omega
theorem set_bset {x : Int} {n : Nat} (h : 0 ≤ x ∧ x < 2 ^ n) : x = bset (mem x) n := by
  obtain ⟨a, rfl⟩ : ∃ a : Nat, x = (a : Int) := ⟨x.toNat, by omega⟩
  have h2 : a < 2 ^ n := by
    have := h.2
    rw [show (2 : Int) ^ n = ((2 ^ n : Nat) : Int) by rw [Int.natCast_pow]; rfl] at this
    exact Int.ofNat_lt.mp this
  unfold bset
  congr 1
  exact nat_bs h2
theorem or_bit {a k : Nat} (h : a < 2 ^ k) : a ||| 2 ^ k = a + 2 ^ k := by
  have e := Nat.two_pow_add_eq_or_of_lt h 1
  rw [Nat.mul_one] at e
  rw [Nat.or_comm, ← e]; omega
theorem bset_or {p : Int → Prop} {k : Nat} (hk : k < 31) : ior (bset p k) (ishl 1 (k : Int)) = bset p k + 2 ^ k := by
  have hl := bs_lt p k
  have h2 : 2 ^ k < 2 ^ 31 := Nat.pow_lt_pow_right (by decide) hk
  unfold bset
  rw [show (1 : Int) = ((1 : Nat) : Int) from rfl, ishl_n (by decide) (by omega) (by omega), Nat.one_mul, ior_n (by omega) h2, or_bit hl]
  simp
/-- a set with one more, whatever was in it -/
theorem mem_or {x t : Int} (hx : 0 ≤ x ∧ x < 2147483648) (ht : 0 ≤ t ∧ t < 31) : (0 ≤ ior x (ishl 1 t) ∧ ior x (ishl 1 t) < 2147483648) ∧ ∀ u : Int, 0 ≤ u → (mem (ior x (ishl 1 t)) u ↔ mem x u ∨ u = t) := by
  obtain ⟨a, rfl⟩ : ∃ a : Nat, x = (a : Int) := ⟨x.toNat, by omega⟩
  obtain ⟨k, rfl⟩ : ∃ k : Nat, t = (k : Int) := ⟨t.toNat, by omega⟩
  have hk : k < 31 := by omega
  have ha : a < 2 ^ 31 := by omega
  have h2 : 2 ^ k < 2 ^ 31 := Nat.pow_lt_pow_right (by decide) hk
  rw [show (1 : Int) = ((1 : Nat) : Int) from rfl, ishl_n (by decide) (by omega) (by omega), Nat.one_mul, ior_n ha h2]
  have hlt := Nat.or_lt_two_pow ha h2
  refine ⟨by omega, fun u hu => ?_⟩
  obtain ⟨j, rfl⟩ : ∃ j : Nat, u = (j : Int) := ⟨u.toNat, by omega⟩
  unfold mem
  rw [Int.toNat_natCast, Int.toNat_natCast, Int.toNat_natCast, Nat.testBit_or, Nat.testBit_two_pow, Bool.or_eq_true, decide_eq_true_eq]
  constructor
  · rintro (h | h)
    · exact Or.inl h
    · exact Or.inr (by omega)
  · rintro (h | h)
    · exact Or.inl h
    · exact Or.inr (by omega)
theorem mem_andn {x t : Int} (hx : 0 ≤ x ∧ x < 2147483648) (ht : 0 ≤ t ∧ t < 31) : (0 ≤ iand x (ixor (ishl 1 t) (-1)) ∧ iand x (ixor (ishl 1 t) (-1)) < 2147483648) ∧ ∀ u : Int, 0 ≤ u → (mem (iand x (ixor (ishl 1 t) (-1))) u ↔ mem x u ∧ u ≠ t) := by
  obtain ⟨a, rfl⟩ : ∃ a : Nat, x = (a : Int) := ⟨x.toNat, by omega⟩
  obtain ⟨k, rfl⟩ : ∃ k : Nat, t = (k : Int) := ⟨t.toNat, by omega⟩
  have hk : k < 31 := by omega
  have ha : a < 2 ^ 31 := by omega
  have h2 : 2 ^ k < 2 ^ 31 := Nat.pow_lt_pow_right (by decide) hk
  have e1 : ishl 1 (k : Int) = ((2 ^ k : Nat) : Int) := by
    rw [show (1 : Int) = ((1 : Nat) : Int) from rfl, ishl_n (by decide) (by omega) (by omega), Nat.one_mul]
  rw [e1]
  obtain ⟨r, e, hr, hb⟩ := iandn_n ha h2
  rw [e]
  refine ⟨by omega, fun u hu => ?_⟩
  obtain ⟨j, rfl⟩ : ∃ j : Nat, u = (j : Int) := ⟨u.toNat, by omega⟩
  unfold mem
  rw [Int.toNat_natCast, Int.toNat_natCast, Int.toNat_natCast, hb, Nat.testBit_two_pow]
  by_cases e2 : k = j
  · subst e2; simp
  · have e3 : ¬ (j : Int) = (k : Int) := by omega
    simp [e2, e3]
theorem mem_ext {x y : Int} {n : Nat} (hx : 0 ≤ x ∧ x < 2 ^ n) (hy : 0 ≤ y ∧ y < 2 ^ n) (h : ∀ t : Int, 0 ≤ t → t < (n : Int) → (mem x t ↔ mem y t)) : x = y := by
  rw [set_bset hx, set_bset hy]
  exact bset_c h
theorem mem_0 {x : Int} {n : Nat} (hx : 0 ≤ x ∧ x < 2 ^ n) : x = 0 ↔ ∀ t : Int, 0 ≤ t → t < (n : Int) → ¬ mem x t := by
  constructor
  · rintro rfl t h0 h1 z
    unfold mem at z
    simp at z
  · intro h
    exact mem_ext hx ⟨by omega, by
      have : (0 : Int) < 2 ^ n := Int.pow_pos (by decide)
      exact this⟩ (fun t h0 h1 => ⟨fun z => absurd z (h t h0 h1), fun z => by unfold mem at z; simp at z⟩)
-- longs
theorem bset_jor {p : Int → Prop} {k : Nat} (hk : k < 62) : jor (bset p k) (jshl 1 (k : Int)) = bset p k + 2 ^ k := by
  have hl := bs_lt p k
  have h2 : 2 ^ k < 2 ^ 63 := Nat.pow_lt_pow_right (by decide) (by omega)
  unfold bset
  rw [show (1 : Int) = ((1 : Nat) : Int) from rfl, jshl_n (by decide) (by omega) (by omega), Nat.one_mul, jor_n (by omega) h2, or_bit hl]
  simp
theorem bset_s {p : Int → Prop} {k : Nat} : bset p (k + 1) = bset p k + b2i (p (k : Int)) * 2 ^ k := by
  unfold bset
  simp only [bsN]
  rcases b2i_01 (p (k : Int)) with e | e <;> rw [e] <;> simp
theorem bset_jn {p q : Int → Prop} {m : Nat} (hm : m ≤ 62) : jand (bset p m) (jxor (bset q m) (-1)) = 0 ↔ ∀ k : Int, 0 ≤ k → k < (m : Int) → p k → q k := by
  have h1 := bs_lt p m
  have h2 := bs_lt q m
  have h3 : 2 ^ m < 2 ^ 63 := Nat.pow_lt_pow_right (by decide) (by omega)
  unfold bset
  obtain ⟨r, e, hr, hb⟩ := jandn_n (a := bsN p m) (b := bsN q m) (by omega) (by omega)
  rw [e]
  constructor
  · intro h0 k hk0 hk1 hp
    have hr0 : r = 0 := by omega
    apply Classical.byContradiction
    intro hq
    have hbk := hb k.toNat
    rw [hr0, Nat.zero_testBit, (bs_bit p m k.toNat).mpr ⟨by omega, by rw [Int.toNat_of_nonneg hk0]; exact hp⟩] at hbk
    have : (bsN q m).testBit k.toNat = true := by
      cases hx : (bsN q m).testBit k.toNat with
      | true => rfl
      | false => rw [hx] at hbk; simp at hbk
    have := ((bs_bit q m k.toNat).mp this).2
    rw [Int.toNat_of_nonneg hk0] at this
    exact hq this
  · intro h
    have hr0 : r = 0 := by
      apply Nat.eq_of_testBit_eq
      intro i
      rw [hb, Nat.zero_testBit]
      cases hx : (bsN p m).testBit i with
      | false => rfl
      | true =>
        have h4 := (bs_bit p m i).mp hx
        have : (bsN q m).testBit i = true := (bs_bit q m i).mpr ⟨h4.1, h (i : Int) (by omega) (by omega) h4.2⟩
        rw [this]; rfl
    rw [hr0]; rfl
-- rows of states: two bits a thing
def pkN (f : Int → Int) : Nat → Nat
  | 0 => 0
  | n + 1 => pkN f n + (f (n : Int)).toNat * 4 ^ n
def pack (f : Int → Int) (n : Nat) : Int := (pkN f n : Int)
def us (f : Int → Int) (i v : Int) : Int → Int := fun j => if j = i then v else f j
def in3 (f : Int → Int) (n : Nat) : Prop := ∀ i : Int, 0 ≤ i → i < (n : Int) → 0 ≤ f i ∧ f i ≤ 3
theorem pk_lt4 {f : Int → Int} : ∀ {n : Nat}, in3 f n → pkN f n < 4 ^ n
  | 0, _ => by simp [pkN]
  | n + 1, h => by
    have h1 := pk_lt4 (n := n) (fun i h0 h1 => h i h0 (by omega))
    have h2 := h (n : Int) (by omega) (by omega)
    have h3 : (f (n : Int)).toNat ≤ 3 := by omega
    have h4 : (f (n : Int)).toNat * 4 ^ n ≤ 3 * 4 ^ n := Nat.mul_le_mul_right _ h3
    simp only [pkN]
    rw [Nat.pow_succ]
    omega
theorem pk_c {f g : Int → Int} : ∀ {n : Nat}, (∀ i : Int, 0 ≤ i → i < (n : Int) → f i = g i) → pkN f n = pkN g n
  | 0, _ => rfl
  | n + 1, h => by
    simp only [pkN]
    rw [pk_c (n := n) (fun i h0 h1 => h i h0 (by omega)), h (n : Int) (by omega) (by omega)]
theorem pack_c {f g : Int → Int} {n : Nat} (h : ∀ i : Int, 0 ≤ i → i < (n : Int) → f i = g i) : pack f n = pack g n := by unfold pack; rw [pk_c h]
theorem pack_s {f : Int → Int} {k : Nat} (h : 0 ≤ f (k : Int)) : pack f (k + 1) = pack f k + f (k : Int) * 4 ^ k := by
  unfold pack
  simp only [pkN]
  rw [Int.natCast_add, Int.natCast_mul, Int.toNat_of_nonneg h, Int.natCast_pow]
  rfl
theorem pk_dg {f : Int → Int} : ∀ {n : Nat}, in3 f n → ∀ t : Nat, pkN f n / 4 ^ t % 4 = if t < n then (f (t : Int)).toNat else 0
  | 0, _, t => by simp [pkN]
  | n + 1, h, t => by
    have hf : in3 f n := fun i h0 h1 => h i h0 (by omega)
    have ih := pk_dg hf t
    have hl := pk_lt4 hf
    have h2 := h (n : Int) (by omega) (by omega)
    simp only [pkN]
    rcases Nat.lt_trichotomy t n with c | c | c
    · rw [if_pos (by omega)]
      rw [if_pos c] at ih
      have e : 4 ^ n = 4 ^ t * (4 * 4 ^ (n - t - 1)) := by
        rw [← Nat.pow_succ', ← Nat.pow_add]; congr 1; omega
      have e2 : (f (n : Int)).toNat * 4 ^ n = 4 ^ t * (4 * ((f (n : Int)).toNat * 4 ^ (n - t - 1))) := by
        rw [e]
        simp only [Nat.mul_left_comm, Nat.mul_assoc]
      rw [e2, Nat.add_mul_div_left _ _ (Nat.pow_pos (by decide)), Nat.add_mul_mod_self_left]
      exact ih
    · subst c
      rw [if_pos (by omega), Nat.add_mul_div_right _ _ (Nat.pow_pos (by decide)), Nat.div_eq_of_lt hl, Nat.zero_add, Nat.mod_eq_of_lt (by omega)]
    · rw [if_neg (by omega)]
      have hl2 := pk_lt4 (n := n + 1) h
      simp only [pkN] at hl2
      rw [Nat.div_eq_of_lt (Nat.lt_of_lt_of_le hl2 (Nat.pow_le_pow_right (by decide) c))]
theorem dg_ext : ∀ {n x y : Nat}, x < 4 ^ n → y < 4 ^ n → (∀ t, t < n → x / 4 ^ t % 4 = y / 4 ^ t % 4) → x = y
  | 0, x, y, hx, hy, _ => by simp at hx hy; omega
  | n + 1, x, y, hx, hy, h => by
    rw [Nat.pow_succ] at hx hy
    have h0 := h 0 (by omega)
    simp only [Nat.pow_zero, Nat.div_one] at h0
    have h1 : x / 4 = y / 4 := by
      refine dg_ext (n := n) (by omega) (by omega) (fun t ht => ?_)
      have := h (t + 1) (by omega)
      rw [Nat.pow_succ', ← Nat.div_div_eq_div_mul, ← Nat.div_div_eq_div_mul] at this
      exact this
    omega
theorem p42 (t : Nat) : 2 ^ (2 * t) = 4 ^ t := by rw [Nat.pow_mul]
theorem pack_b {f : Int → Int} {n : Nat} (h : in3 f n) : 0 ≤ pack f n ∧ pack f n < 4 ^ n := by
  have h1 := pk_lt4 h
  unfold pack
  refine ⟨by omega, ?_⟩
  have : ((pkN f n : Nat) : Int) < ((4 ^ n : Nat) : Int) := Int.ofNat_lt.mpr h1
  rwa [Int.natCast_pow] at this
theorem pack_get {f : Int → Int} {n : Nat} {t : Int} (h : in3 f n) (hn : n ≤ 15) (h0 : 0 ≤ t) (h1 : t < 16) : iand (ishr (pack f n) (2 * t)) 3 = if t < (n : Int) then f t else 0 := by
  obtain ⟨k, rfl⟩ : ∃ k : Nat, t = (k : Int) := ⟨t.toNat, by omega⟩
  have hl := pk_lt4 h
  have h4 : 4 ^ n ≤ 4 ^ 15 := Nat.pow_le_pow_right (by decide) hn
  have ha : pkN f n < 2 ^ 31 := by omega
  unfold pack
  rw [show (2 * (k : Int)) = ((2 * k : Nat) : Int) by omega, ishr_n ha (by omega), show (3 : Int) = ((3 : Nat) : Int) from rfl, iand_n (Nat.lt_of_le_of_lt (Nat.div_le_self _ _) ha) (by decide), p42]
  have e3 : ∀ x : Nat, x &&& 3 = x % 4 := fun x => Nat.and_two_pow_sub_one_eq_mod x 2
  rw [e3, pk_dg h k]
  by_cases c : k < n
  · rw [if_pos c, if_pos (by omega)]
    have := h (k : Int) (by omega) (by omega)
    omega
  · rw [if_neg c, if_neg (by omega)]; rfl
theorem in3_us {f : Int → Int} {n : Nat} {t v : Int} (h : in3 f n) (hv : 0 ≤ v ∧ v ≤ 3) : in3 (us f t v) n := fun i h0 h1 => by
  unfold us
  by_cases e : i = t
  · rw [if_pos e]; exact hv
  · rw [if_neg e]; exact h i h0 h1
theorem pack_with {f : Int → Int} {n : Nat} {t v : Int} (h : in3 f n) (hn : n ≤ 15) (h0 : 0 ≤ t) (h1 : t < (n : Int)) (hv : 0 ≤ v ∧ v ≤ 3) : ior (iand (pack f n) (ixor (ishl 3 (2 * t)) (-1))) (ishl v (2 * t)) = pack (us f t v) n := by
  obtain ⟨k, rfl⟩ : ∃ k : Nat, t = (k : Int) := ⟨t.toNat, by omega⟩
  obtain ⟨z, rfl⟩ : ∃ z : Nat, v = (z : Int) := ⟨v.toNat, by omega⟩
  have hk : k < n := by omega
  have hl := pk_lt4 h
  have h4 : 4 ^ n ≤ 4 ^ 15 := Nat.pow_le_pow_right (by decide) hn
  have hkn : 4 * 4 ^ k ≤ 4 ^ n := by rw [← Nat.pow_succ']; exact Nat.pow_le_pow_right (by decide) hk
  have ha : pkN f n < 2 ^ 31 := by omega
  have hz : z ≤ 3 := by omega
  have hzk : z * 4 ^ k ≤ 3 * 4 ^ k := Nat.mul_le_mul_right _ hz
  have e1 : ishl 3 (2 * (k : Int)) = ((3 * 4 ^ k : Nat) : Int) := by
    rw [show (2 * (k : Int)) = ((2 * k : Nat) : Int) by omega, show (3 : Int) = ((3 : Nat) : Int) from rfl, ishl_n (by decide) (by omega) (by rw [p42]; omega), p42]
  have e2 : ishl (z : Int) (2 * (k : Int)) = ((z * 4 ^ k : Nat) : Int) := by
    rw [show (2 * (k : Int)) = ((2 * k : Nat) : Int) by omega, ishl_n (by omega) (by omega) (by rw [p42]; omega), p42]
  unfold pack
  rw [e1, e2]
  obtain ⟨r, e3, hr, hb⟩ := iandn_n (a := pkN f n) (b := 3 * 4 ^ k) ha (by omega)
  rw [e3, ior_n hr (by omega)]
  congr 1
  have hrn : r < 4 ^ n := by
    rw [← p42]
    apply Nat.lt_pow_two_of_testBit
    intro i hi
    rw [hb, Nat.testBit_lt_two_pow (Nat.lt_of_lt_of_le (by rw [← p42] at hl; exact hl) (Nat.pow_le_pow_right (by decide) hi))]
    rfl
  have hz2 : z * 4 ^ k < 4 ^ n := by omega
  refine dg_ext (n := n) (by rw [show 4 ^ n = 2 ^ (2 * n) from (p42 n).symm] at hrn hz2 ⊢; exact Nat.or_lt_two_pow hrn hz2) (pk_lt4 (in3_us h (by omega))) (fun u hu => ?_)
  rw [pk_dg (in3_us h (by omega)) u, if_pos hu]
  have bitz : ∀ (x j : Nat), j < 2 → (x / 4 ^ u % 4).testBit j = x.testBit (2 * u + j) := by
    intro x j hj
    rw [← p42, show (4 : Nat) = 2 ^ 2 from rfl, Nat.testBit_mod_two_pow, Nat.testBit_div_two_pow]
    simp [hj, Nat.add_comm]
  have bith : ∀ (x j : Nat), ¬ j < 2 → (x % 4).testBit j = false := by
    intro x j hj
    rw [show (4 : Nat) = 2 ^ 2 from rfl, Nat.testBit_mod_two_pow]
    simp [hj]
  have sh : ∀ (c i : Nat), (c * 4 ^ k).testBit i = (decide (2 * k ≤ i) && c.testBit (i - 2 * k)) := by
    intro c i
    rw [← p42, Nat.mul_comm, Nat.testBit_two_pow_mul]
  have t3 : ∀ j : Nat, (3 : Nat).testBit j = decide (j < 2) := by
    intro j
    rw [show (3 : Nat) = 2 ^ 2 - 1 from rfl, Nat.testBit_two_pow_sub_one]
  by_cases e : u = k
  · subst e
    have : us f (u : Int) (z : Int) (u : Int) = (z : Int) := by unfold us; rw [if_pos rfl]
    rw [this, Int.toNat_natCast]
    apply Nat.eq_of_testBit_eq
    intro j
    by_cases hj : j < 2
    · rw [bitz _ j hj, Nat.testBit_or, hb, sh, sh, t3]
      simp [hj]
    · rw [bith _ j hj]
      exact (Nat.testBit_lt_two_pow (Nat.lt_of_lt_of_le (show z < 2 ^ 2 by omega) (Nat.pow_le_pow_right (by decide) (by omega)))).symm
  · have : us f (k : Int) (z : Int) (u : Int) = f (u : Int) := by unfold us; rw [if_neg (by omega)]
    rw [this]
    have hd := pk_dg h u
    rw [if_pos hu] at hd
    rw [← hd]
    apply Nat.eq_of_testBit_eq
    intro j
    by_cases hj : j < 2
    · rw [bitz _ j hj, bitz _ j hj, Nat.testBit_or, hb, sh, sh, t3]
      by_cases c : 2 * k ≤ 2 * u + j
      · have c2 : ¬ (2 * u + j - 2 * k < 2) := by omega
        have c3 : z.testBit (2 * u + j - 2 * k) = false := Nat.testBit_lt_two_pow (Nat.lt_of_lt_of_le (show z < 2 ^ 2 by omega) (Nat.pow_le_pow_right (by decide) (by omega)))
        simp [c2, c3]
      · simp [c]
    · rw [bith _ j hj, bith _ j hj]
theorem pack_inj {f g : Int → Int} {n : Nat} (hf : in3 f n) (hg : in3 g n) (h : pack f n = pack g n) : ∀ i : Int, 0 ≤ i → i < (n : Int) → f i = g i := by
  intro i h0 h1
  obtain ⟨k, rfl⟩ : ∃ k : Nat, i = (k : Int) := ⟨i.toNat, by omega⟩
  have e : pkN f n = pkN g n := by unfold pack at h; omega
  have a := pk_dg hf k
  have b := pk_dg hg k
  rw [e, if_pos (by omega)] at a
  rw [if_pos (by omega)] at b
  have := hf (k : Int) h0 h1
  have := hg (k : Int) h0 h1
  omega
theorem pack_or {f : Int → Int} {k : Nat} {v : Int} (h : in3 f k) (hk : k < 15) (hv : 0 ≤ v ∧ v ≤ 3) : ior (pack f k) (ishl v (2 * (k : Int))) = pack f k + v * 4 ^ k := by
  obtain ⟨z, rfl⟩ : ∃ z : Nat, v = (z : Int) := ⟨v.toNat, by omega⟩
  have hl := pk_lt4 h
  have h4 : 4 * 4 ^ k ≤ 4 ^ 15 := by rw [← Nat.pow_succ']; exact Nat.pow_le_pow_right (by decide) (by omega)
  have hzk : z * 4 ^ k ≤ 3 * 4 ^ k := Nat.mul_le_mul_right _ (by omega)
  have e2 : ishl (z : Int) (2 * (k : Int)) = ((z * 4 ^ k : Nat) : Int) := by
    rw [show (2 * (k : Int)) = ((2 * k : Nat) : Int) by omega, ishl_n (by omega) (by omega) (by rw [p42]; omega), p42]
  unfold pack
  rw [e2, ior_n (by omega) (by omega)]
  have e3 : pkN f k ||| z * 4 ^ k = pkN f k + z * 4 ^ k := by
    have e := Nat.two_pow_add_eq_or_of_lt (i := 2 * k) (b := pkN f k) (by rw [p42]; exact hl) z
    rw [p42, Nat.mul_comm] at e
    rw [Nat.or_comm, ← e]; omega
  rw [e3, Int.natCast_add, Int.natCast_mul, Int.natCast_pow]
  rfl
/-- any row of states is the row of its states -/
def dgt (x t : Int) : Int := ((x.toNat / 4 ^ t.toNat % 4 : Nat) : Int)
theorem dgt_3 (x t : Int) : 0 ≤ dgt x t ∧ dgt x t ≤ 3 := by unfold dgt; omega
theorem pack_dgt {x : Int} {n : Nat} (h : 0 ≤ x ∧ x < 4 ^ n) : x = pack (dgt x) n := by
  obtain ⟨a, rfl⟩ : ∃ a : Nat, x = (a : Int) := ⟨x.toNat, by omega⟩
  have h2 : a < 4 ^ n := by
    have := h.2
    rw [show (4 : Int) ^ n = ((4 ^ n : Nat) : Int) by rw [Int.natCast_pow]; rfl] at this
    exact Int.ofNat_lt.mp this
  unfold pack
  congr 1
  refine dg_ext h2 (pk_lt4 (fun i _ _ => dgt_3 _ _)) (fun t ht => ?_)
  rw [pk_dg (fun i _ _ => dgt_3 _ _) t, if_pos ht]
  show a / 4 ^ t % 4 = ((((a : Int).toNat / 4 ^ (t : Int).toNat % 4 : Nat) : Int)).toNat
  rw [Int.toNat_natCast, Int.toNat_natCast, Int.toNat_natCast]
