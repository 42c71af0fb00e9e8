/-! A logic over the machine for a fixed world: ints are whole numbers in their range, cells have numbers, every cell of the class and of the reference is in the world. -/
abbrev AV : Type := Int ⊕ (Int ⊕ Nat)
abbrev vI (x : Int) : AV := .inl x
abbrev vL (x : Int) : AV := .inr (.inl x)
abbrev vR (k : Nat) : AV := .inr (.inr k)
def iR (x : Int) : Prop := -2147483648 ≤ x ∧ x ≤ 2147483647
def lR (x : Int) : Prop := -9223372036854775808 ≤ x ∧ x ≤ 9223372036854775807
def okv : AV → Prop
  | .inl x => iR x
  | .inr (.inl x) => lR x
  | .inr (.inr _) => True
def mv (ad : Nat → Nat) : AV → Value
  | .inl x => .int (Int32.ofInt x)
  | .inr (.inl x) => .long (Int64.ofInt x)
  | .inr (.inr k) => .ref (ad k)
abbrev HP : Type := Nat → Int → Int
def sth (h : HP) (q : Nat) (i v : Int) : HP := fun q' => if q' = q then (fun j => if j = i then v else h q j) else h q'
def okh (h : HP) : Prop := ∀ q i, iR (h q i)
theorem okh_st {h : HP} {q : Nat} {i v : Int} (hh : okh h) (hv : iR v) : okh (sth h q i v) := by
  intro q' j
  unfold sth
  by_cases e : q' = q
  · rw [if_pos e]
    by_cases e2 : j = i
    · simpa [e2] using hv
    · simpa [e2] using hh q j
  · rw [if_neg e]
    exact hh _ _
-- numbers
theorem i_toInt {x : Int} (h : iR x) : (Int32.ofInt x).toInt = x := by
  rw [Int32.toInt_ofInt]
  exact Int.bmod_eq_of_le (by have := h.1; simp; omega) (by have := h.2; simp; omega)
theorem l_toInt {x : Int} (h : lR x) : (Int64.ofInt x).toInt = x := by
  rw [Int64.toInt_ofInt]
  exact Int.bmod_eq_of_le (by have := h.1; simp; omega) (by have := h.2; simp; omega)
theorem i_rng (x : Int32) : iR x.toInt := by
  have h1 := Int32.le_toInt x
  have h2 := Int32.toInt_lt x
  exact ⟨by omega, by omega⟩
theorem l_rng (x : Int64) : lR x.toInt := by
  have h1 := Int64.le_toInt x
  have h2 := Int64.toInt_lt x
  exact ⟨by omega, by omega⟩
theorem i_lt {a b : Int} (ha : iR a) (hb : iR b) : Int32.ofInt a < Int32.ofInt b ↔ a < b := by rw [Int32.lt_iff_toInt_lt, i_toInt ha, i_toInt hb]
theorem i_le {a b : Int} (ha : iR a) (hb : iR b) : Int32.ofInt a ≤ Int32.ofInt b ↔ a ≤ b := by rw [Int32.le_iff_toInt_le, i_toInt ha, i_toInt hb]
theorem i_eq {a b : Int} (ha : iR a) (hb : iR b) : Int32.ofInt a = Int32.ofInt b ↔ a = b := by
  constructor
  · intro h
    have := congrArg Int32.toInt h
    rwa [i_toInt ha, i_toInt hb] at this
  · intro h; rw [h]
theorem i_0 : (0 : Int32) = Int32.ofInt 0 := by decide
theorem iR_0 : iR 0 := ⟨by decide, by decide⟩
theorem i_nat {n : Nat} (h : n < 2 ^ 31) : Int32.ofInt (n : Int) = nI n := by
  apply Int32.toInt_inj.mp
  rw [i_toInt ⟨by omega, by omega⟩, nI_toInt h]
theorem l_ext {x y : Int64} (h : x.toInt = y.toInt) : x = y := Int64.toInt_inj.mp h
theorem i_ext {x y : Int32} (h : x.toInt = y.toInt) : x = y := Int32.toInt_inj.mp h
theorem i_of (x : Int32) : Int32.ofInt x.toInt = x := i_ext (i_toInt (i_rng x))
theorem l_of (x : Int64) : Int64.ofInt x.toInt = x := l_ext (l_toInt (l_rng x))
theorem i_add (a b : Int) : Int32.ofInt a + Int32.ofInt b = Int32.ofInt (a + b) := by rw [Int32.ofInt_add]
theorem i_sub (a b : Int) : Int32.ofInt a - Int32.ofInt b = Int32.ofInt (a - b) := by rw [Int32.ofInt_sub]
theorem i_mul (a b : Int) : Int32.ofInt a * Int32.ofInt b = Int32.ofInt (a * b) := by rw [Int32.ofInt_mul]
theorem l_add (a b : Int) : Int64.ofInt a + Int64.ofInt b = Int64.ofInt (a + b) := by rw [Int64.ofInt_add]
theorem l_sub (a b : Int) : Int64.ofInt a - Int64.ofInt b = Int64.ofInt (a - b) := by rw [Int64.ofInt_sub]
theorem i_nn {a : Int} (h0 : 0 ≤ a) (h : iR a) : ∃ n : Nat, n < 2 ^ 31 ∧ a = (n : Int) := ⟨a.toNat, by have := h.2; omega, by omega⟩
theorem i_div {a b : Int} (h0 : 0 ≤ a) (ha : iR a) (h1 : 0 < b) (hb : iR b) : Int32.ofInt a / Int32.ofInt b = Int32.ofInt (a / b) := by
  obtain ⟨n, hn, rfl⟩ := i_nn h0 ha
  obtain ⟨d, hd, rfl⟩ := i_nn (Int.le_of_lt h1) hb
  have hd0 : 0 < d := by omega
  rw [i_nat hn, i_nat hd, pk_div hn hd0 hd, ← Int.natCast_ediv, i_nat (Nat.lt_of_le_of_lt (Nat.div_le_self n d) hn)]
theorem i_rem {a b : Int} (h0 : 0 ≤ a) (ha : iR a) (h1 : 0 < b) (hb : iR b) : Int32.ofInt a - Int32.ofInt a / Int32.ofInt b * Int32.ofInt b = Int32.ofInt (a % b) := by
  obtain ⟨n, hn, rfl⟩ := i_nn h0 ha
  obtain ⟨d, hd, rfl⟩ := i_nn (Int.le_of_lt h1) hb
  have hd0 : 0 < d := by omega
  rw [i_nat hn, i_nat hd, pk_rem hn hd0 hd, ← Int.natCast_emod, i_nat (Nat.lt_of_le_of_lt (Nat.mod_le n d) hn)]
theorem i_dR {a b : Int} (h0 : 0 ≤ a) (ha : iR a) (h1 : 0 < b) : iR (a / b) := by
  have h2 : 0 ≤ a / b := Int.ediv_nonneg h0 (Int.le_of_lt h1)
  have h3 : a / b ≤ a := Int.ediv_le_self b h0
  have := ha.2
  exact ⟨by omega, by omega⟩
theorem i_mR {a b : Int} (h1 : 0 < b) (hb : iR b) : iR (a % b) := by
  have h2 := Int.emod_nonneg a (show b ≠ 0 by omega)
  have h3 := Int.emod_lt_of_pos a h1
  have := hb.2
  exact ⟨by omega, by omega⟩
def iand (a b : Int) : Int := (Int32.ofInt a &&& Int32.ofInt b).toInt
def ior (a b : Int) : Int := (Int32.ofInt a ||| Int32.ofInt b).toInt
def ixor (a b : Int) : Int := (Int32.ofInt a ^^^ Int32.ofInt b).toInt
def ishl (a b : Int) : Int := (Int32.ofInt a <<< (Int32.ofInt b &&& 31)).toInt
def ishr (a b : Int) : Int := (Int32.ofInt a >>> (Int32.ofInt b &&& 31)).toInt
def iushr (a b : Int) : Int := ((Int32.ofInt a).toUInt32 >>> ((Int32.ofInt b).toUInt32 &&& Int32.toUInt32 31)).toInt32.toInt
def jand (a b : Int) : Int := (Int64.ofInt a &&& Int64.ofInt b).toInt
def jor (a b : Int) : Int := (Int64.ofInt a ||| Int64.ofInt b).toInt
def jxor (a b : Int) : Int := (Int64.ofInt a ^^^ Int64.ofInt b).toInt
def jshl (a b : Int) : Int := (Int64.ofInt a <<< ((Int32.ofInt b).toInt64 &&& 63)).toInt
def jshr (a b : Int) : Int := (Int64.ofInt a >>> ((Int32.ofInt b).toInt64 &&& 63)).toInt
def jushr (a b : Int) : Int := ((Int64.ofInt a).toUInt64 >>> ((Int32.ofInt b).toInt64.toUInt64 &&& Int64.toUInt64 63)).toInt64.toInt
def j2i (a : Int) : Int := (Int64.ofInt a).toInt32.toInt
theorem i_i2l {x : Int} (h : iR x) : (Int32.ofInt x).toInt64 = Int64.ofInt x := by
  apply l_ext
  rw [Int32.toInt_toInt64, i_toInt h, l_toInt ⟨by have := h.1; omega, by have := h.2; omega⟩]
theorem iR_lR {x : Int} (h : iR x) : lR x := ⟨by have := h.1; omega, by have := h.2; omega⟩
-- the world
abbrev WD : Type := (Nat → Nat) × va_G × ClassId × ClassId × Nat × (Nat → Int32)
abbrev MI : Type := String × ByteArray × Nat × Option FieldType × Nat × Nat
def ly (q : Nat) : Option (Nat ⊕ (Bool × Nat)) := ev_lay[q]?
def ev_fs (ad : Nat → Nat) (f : Int → Int) (ks ts : List Nat) : List Value := (List.range ks.length).map (fun j => if ks.getD j 0 = 2 then .ref (ad (ts.getD j 0)) else .int (Int32.ofInt (f (j : Int))))
def cE (w : WD) (h : HP) (q : Nat) : va_E := match ly q with
  | some (.inl ci) => .inr (ci, ev_fs w.1 (h q) (ev_fkd.getD ci []) (ev_tgt.getD q []))
  | some (.inr (b, n)) => .inl (if b then w.2.2.2.1 else w.2.2.1, n, .inl (fun j => Int32.ofInt (h q (j : Int))))
  | none => .inr (0, [])
def wld (w : WD) (h : HP) : va_W := (List.range 90).map (fun q => (w.1 q, cE w h q))
def ev_ty (w : WD) : List (ClassId × FieldType) := [(w.2.2.1, .int), (w.2.2.2.1, .boolean)]
theorem wld_at {w : WD} {h : HP} {q : Nat} (hq : q < 90) : (wld w h)[q]? = some (w.1 q, cE w h q) := by
  unfold wld
  rw [List.getElem?_map, List.getElem?_range hq]
  rfl
theorem wld_ge {w : WD} {h : HP} {q : Nat} (hq : ¬ q < 90) : (wld w h)[q]? = none := by
  unfold wld
  rw [List.getElem?_eq_none]
  simp; omega
theorem wld_in {w : WD} {h : HP} {k : Nat} {x : Nat × va_E} (hk : (wld w h)[k]? = some x) : k < 90 ∧ x = (w.1 k, cE w h k) := by
  by_cases hq : k < 90
  · rw [wld_at hq] at hk
    exact ⟨hq, (Option.some.inj hk).symm⟩
  · rw [wld_ge hq] at hk
    cases hk
theorem ly_lt {q : Nat} {x : Nat ⊕ (Bool × Nat)} (h : ly q = some x) : q < 90 := (List.getElem?_eq_some_iff.mp h).1
theorem wld_set {w : WD} {h h' : HP} {q : Nat} (hq : q < 90) (hh : ∀ j, j ≠ q → h' j = h j) : wld w h' = (wld w h).set q (w.1 q, cE w h' q) := by
  apply List.ext_getElem?
  intro j
  by_cases hj : j < 90
  · rw [wld_at hj, List.getElem?_set]
    by_cases e : q = j
    · subst e
      have hl : q < (wld w h).length := by simp [wld]; exact hq
      simp [hl]
    · rw [if_neg e, wld_at hj]
      have : cE w h' j = cE w h j := by unfold cE; rw [hh j (fun x => e x.symm)]
      rw [this]
  · rw [wld_ge hj, List.getElem?_set]
    by_cases e : q = j
    · omega
    · rw [if_neg e, wld_ge hj]
theorem wld_D {w : WD} {h h' : HP} {A : Nat → Prop} (hD : va_D A (wld w h)) : va_D A (wld w h') := by
  refine ⟨fun i j p q h1 h2 h3 => ?_, fun k q h1 => ?_⟩
  · obtain ⟨a1, rfl⟩ := wld_in h1
    obtain ⟨a2, rfl⟩ := wld_in h2
    exact hD.1 i j _ _ (wld_at a1) (wld_at a2) h3
  · obtain ⟨a1, rfl⟩ := wld_in h1
    exact hD.2 k (w.1 k, cE w h k) (wld_at a1)
theorem cE_obj {w : WD} {h : HP} {q ci : Nat} (hl : ly q = some (.inl ci)) : cE w h q = .inr (ci, ev_fs w.1 (h q) (ev_fkd.getD ci []) (ev_tgt.getD q [])) := by unfold cE; rw [hl]
theorem cE_arr {w : WD} {h : HP} {q n : Nat} {b : Bool} (hl : ly q = some (.inr (b, n))) : cE w h q = .inl (if b then w.2.2.2.1 else w.2.2.1, n, .inl (fun j => Int32.ofInt (h q (j : Int)))) := by unfold cE; rw [hl]
theorem fs_at {ad : Nat → Nat} {f : Int → Int} {ks ts : List Nat} {k : Nat} (hk : k < ks.length) : (ev_fs ad f ks ts)[k]? = some (if ks.getD k 0 = 2 then .ref (ad (ts.getD k 0)) else .int (Int32.ofInt (f (k : Int)))) := by
  unfold ev_fs
  rw [List.getElem?_map, List.getElem?_range hk]
  rfl
theorem fs_set {ad : Nat → Nat} {f : Int → Int} {ks ts : List Nat} {k : Nat} {v : Int} (hk : k < ks.length) (h2 : ks.getD k 0 ≠ 2) : ev_fs ad (fun j => if j = (k : Int) then v else f j) ks ts = (ev_fs ad f ks ts).set k (.int (Int32.ofInt v)) := by
  apply List.ext_getElem?
  intro j
  rw [List.getElem?_set]
  have hlen : (ev_fs ad f ks ts).length = ks.length := by simp [ev_fs]
  by_cases hj : j < ks.length
  · rw [fs_at hj]
    by_cases e : k = j
    · subst e
      rw [if_neg h2]
      simp [hlen, hk]
    · rw [if_neg e, fs_at hj]
      have : ¬ ((j : Int) = (k : Int)) := by omega
      simp [this]
  · rw [List.getElem?_eq_none (by simp [ev_fs]; omega), if_neg (by omega), List.getElem?_eq_none (by rw [hlen]; omega)]
-- constant rows and the script
def ro (w : WD) (k : Nat) (i : Int) : Int := if k = 90 then [3, 1, 2, 1].getD i.toNat 0 else if k = 91 then [4, 4, 5, 1].getD i.toNat 0 else if k = 92 then [50, 20, 100].getD i.toNat 0 else (w.2.2.2.2.2 i.toNat).toInt
def roN (w : WD) (k : Nat) : Nat := if k = 92 then 3 else if k = 93 then w.2.2.2.2.1 else 4
def ev_S (w : WD) (A : Nat → Prop) (U : State) (H : Heap) : Prop :=
  (∀ k, 90 ≤ k → k < 94 → va_T .int (w.1 k) (roN w k) (fun j => .int (Int32.ofInt (ro w k (j : Int)))) A U H) ∧ va_Z "HeededWishes" "TOP_OF_SORT" "[I" (.ref (w.1 90)) A U H ∧ va_Z "HeededWishes" "NUMBERS_OF_KIND" "[I" (.ref (w.1 91)) A U H ∧ va_Z "HeededWishes" "TOP_OF_BOUND" "[I" (.ref (w.1 92)) A U H
def ev_N (U : State) : Prop := ∀ u ∈ ev_nl, va_Nw u U
def Aw (w : WD) (sz : Nat) : Nat → Prop := fun q => (∃ k, k < 90 ∧ q = w.1 k) ∨ sz ≤ q
-- locals
def lg : List (Option AV) → Nat → Option AV
  | [], _ => none
  | a :: _, 0 => a
  | _ :: l, n + 1 => lg l n
def noL : Option AV → Option AV
  | some (.inr (.inl _)) => none
  | x => x
def stI : List (Option AV) → Nat → AV → List (Option AV)
  | [], _, _ => []
  | _ :: l, 0, v => some v :: l
  | a :: l, 1, v => noL a :: stI l 0 v
  | a :: l, n + 2, v => a :: stI l (n + 1) v
def stL : List (Option AV) → Nat → AV → List (Option AV)
  | [], _, _ => []
  | _ :: [], 0, _ => []
  | _ :: _ :: l, 0, v => some v :: none :: l
  | a :: l, 1, v => noL a :: stL l 0 v
  | a :: l, n + 2, v => a :: stL l (n + 1) v
def mk : List Bool → List (Option AV) → List (Option AV)
  | [], _ => []
  | _, [] => []
  | b :: bs, a :: l => (if b then a else none) :: mk bs l
theorem lg_mk : ∀ (bs : List Bool) (l : List (Option AV)) (i : Nat) (v : AV), lg (mk bs l) i = some v → lg l i = some v
  | [], l, i, v => by intro h; simp [mk, lg] at h
  | b :: bs, [], i, v => by intro h; simp [mk, lg] at h
  | b :: bs, a :: l, 0, v => by
    intro h
    simp only [mk, lg] at h ⊢
    cases b <;> simp_all
  | b :: bs, a :: l, n + 1, v => by
    intro h
    simp only [mk, lg] at h ⊢
    exact lg_mk bs l n v h
theorem noL_some {a : Option AV} {v : AV} (h : noL a = some v) : a = some v ∧ ∀ x, v ≠ .inr (.inl x) := by
  match a, h with
  | some (.inl x), h => simp only [noL] at h; cases h; exact ⟨rfl, fun x h => by cases h⟩
  | some (.inr (.inr x)), h => simp only [noL] at h; cases h; exact ⟨rfl, fun x h => by cases h⟩
  | some (.inr (.inl x)), h => simp [noL] at h
theorem lg_stI : ∀ (l : List (Option AV)) (i : Nat) (v : AV) (j : Nat) (u : AV), lg (stI l i v) j = some u → (j = i ∧ u = v) ∨ (j ≠ i ∧ lg l j = some u ∧ ¬ (j + 1 = i ∧ ∃ x, u = .inr (.inl x)))
  | [], i, v, j, u => by intro h; simp [stI, lg] at h
  | a :: l, 0, v, j, u => by
    intro h
    cases j with
    | zero => simp only [stI, lg, Option.some.injEq] at h; exact Or.inl ⟨rfl, h.symm⟩
    | succ j => simp only [stI, lg] at h ⊢; exact Or.inr ⟨by omega, h, fun c => by omega⟩
  | a :: l, 1, v, j, u => by
    intro h
    cases j with
    | zero =>
      simp only [stI, lg] at h ⊢
      obtain ⟨h1, h2⟩ := noL_some h
      exact Or.inr ⟨by omega, h1, fun c => h2 _ c.2.choose_spec⟩
    | succ j =>
      simp only [stI, lg] at h ⊢
      rcases lg_stI l 0 v j u h with ⟨a1, a2⟩ | ⟨a1, a2, a3⟩
      · exact Or.inl ⟨by omega, a2⟩
      · exact Or.inr ⟨by omega, a2, fun c => by omega⟩
  | a :: l, n + 2, v, j, u => by
    intro h
    cases j with
    | zero => simp only [stI, lg] at h ⊢; exact Or.inr ⟨by omega, h, fun c => by omega⟩
    | succ j =>
      simp only [stI, lg] at h ⊢
      rcases lg_stI l (n + 1) v j u h with ⟨a1, a2⟩ | ⟨a1, a2, a3⟩
      · exact Or.inl ⟨by omega, a2⟩
      · exact Or.inr ⟨by omega, a2, fun c => a3 ⟨by omega, c.2⟩⟩
theorem lg_stL : ∀ (l : List (Option AV)) (i : Nat) (v : AV) (j : Nat) (u : AV), lg (stL l i v) j = some u → (j = i ∧ u = v) ∨ (j ≠ i ∧ j ≠ i + 1 ∧ lg l j = some u ∧ ¬ (j + 1 = i ∧ ∃ x, u = .inr (.inl x)))
  | [], i, v, j, u => by intro h; simp [stL, lg] at h
  | [a], 0, v, j, u => by intro h; simp [stL, lg] at h
  | a :: b :: l, 0, v, j, u => by
    intro h
    match j, h with
    | 0, h => simp only [stL, lg, Option.some.injEq] at h; exact Or.inl ⟨rfl, h.symm⟩
    | 1, h => simp [stL, lg] at h
    | j + 2, h => simp only [stL, lg] at h ⊢; exact Or.inr ⟨by omega, by omega, h, fun c => by omega⟩
  | a :: l, 1, v, j, u => by
    intro h
    cases j with
    | zero =>
      simp only [stL, lg] at h ⊢
      obtain ⟨h1, h2⟩ := noL_some h
      exact Or.inr ⟨by omega, by omega, h1, fun c => h2 _ c.2.choose_spec⟩
    | succ j =>
      simp only [stL, lg] at h ⊢
      rcases lg_stL l 0 v j u h with ⟨a1, a2⟩ | ⟨a1, a0, a2, a3⟩
      · exact Or.inl ⟨by omega, a2⟩
      · exact Or.inr ⟨by omega, by omega, a2, fun c => by omega⟩
  | a :: l, n + 2, v, j, u => by
    intro h
    cases j with
    | zero => simp only [stL, lg] at h ⊢; exact Or.inr ⟨by omega, by omega, h, fun c => by omega⟩
    | succ j =>
      simp only [stL, lg] at h ⊢
      rcases lg_stL l (n + 1) v j u h with ⟨a1, a2⟩ | ⟨a1, a0, a2, a3⟩
      · exact Or.inl ⟨by omega, a2⟩
      · exact Or.inr ⟨by omega, by omega, a2, fun c => a3 ⟨by omega, c.2⟩⟩
def prs (ad : Nat → Nat) : Nat → List (Option AV) → List (Nat × Value)
  | _, [] => []
  | k, none :: l => prs ad (k + 1) l
  | k, some v :: l => (k, mv ad v) :: prs ad (k + 1) l
theorem prs_of {ad : Nat → Nat} : ∀ (l : List (Option AV)) (k j : Nat) (v : AV), lg l j = some v → (k + j, mv ad v) ∈ prs ad k l
  | [], k, j, v => by intro h; simp [lg] at h
  | none :: l, k, 0, v => by intro h; simp [lg] at h
  | some u :: l, k, 0, v => by
    intro h
    simp only [lg, Option.some.injEq] at h
    subst h
    simp [prs]
  | none :: l, k, j + 1, v => by
    intro h
    have := prs_of (ad := ad) l (k + 1) j v (by simpa [lg] using h)
    simp only [prs]
    have e : k + (j + 1) = k + 1 + j := by omega
    rw [e]; exact this
  | some u :: l, k, j + 1, v => by
    intro h
    have := prs_of (ad := ad) l (k + 1) j v (by simpa [lg] using h)
    simp only [prs]
    have e : k + (j + 1) = k + 1 + j := by omega
    rw [e]; exact List.mem_cons_of_mem _ this
theorem prs_to {ad : Nat → Nat} : ∀ (l : List (Option AV)) (k : Nat) (q : Nat × Value), q ∈ prs ad k l → ∃ j v, lg l j = some v ∧ q = (k + j, mv ad v)
  | [], k, q => by intro h; simp [prs] at h
  | none :: l, k, q => by
    intro h
    obtain ⟨j, v, h1, h2⟩ := prs_to l (k + 1) q (by simpa [prs] using h)
    exact ⟨j + 1, v, by simpa [lg] using h1, by rw [h2]; congr 1; omega⟩
  | some u :: l, k, q => by
    intro h
    simp only [prs, List.mem_cons] at h
    rcases h with h | h
    · exact ⟨0, u, rfl, h⟩
    · obtain ⟨j, v, h1, h2⟩ := prs_to l (k + 1) q h
      exact ⟨j + 1, v, by simpa [lg] using h1, by rw [h2]; congr 1; omega⟩
def lvh (w : WD) (ls : Array Slot) (n : Nat) (l : List (Option AV)) : Prop := lv_has ls n (prs w.1 0 l)
theorem lvh_at {w : WD} {ls : Array Slot} {n : Nat} {l : List (Option AV)} (h : lvh w ls n l) {i : Nat} {v : AV} (hi : lg l i = some v) : ls[i]? = some (.val (mv w.1 v)) := by
  have := h.2.2 _ (prs_of l 0 i v hi)
  simpa using this
theorem lvh_by {w : WD} {ls : Array Slot} {n : Nat} {l : List (Option AV)} {l2 : List (Nat × Value)} (h : lv_has ls n l2) (hm : ∀ i v, lg l i = some v → (i, mv w.1 v) ∈ l2) : lvh w ls n l := by
  refine ⟨h.1, h.2.1, fun q hq => ?_⟩
  obtain ⟨j, v, h1, rfl⟩ := prs_to l 0 q hq
  have := h.2.2 _ (hm j v h1)
  simpa using this
def okl (l : List (Option AV)) : Prop := ∀ i v, lg l i = some v → okv v
def oks (st : List AV) : Prop := ∀ v ∈ st, okv v
theorem oks_c {a : AV} {st : List AV} (ha : okv a) (h : oks st) : oks (a :: st) := fun v hv => by
  rcases List.mem_cons.mp hv with rfl | h1
  · exact ha
  · exact h v h1
theorem oks_h {a : AV} {st : List AV} (h : oks (a :: st)) : okv a := h a List.mem_cons_self
theorem oks_t {a : AV} {st : List AV} (h : oks (a :: st)) : oks st := fun v hv => h v (List.mem_cons_of_mem _ hv)
