/-! the reference looks ahead: in depth -/
noncomputable def fwN (h : HP) (s S : Int) : Int := sbf (fun x => h 79 (5 * x + 3)) (fun x => h 79 (5 * x + 4)) (wkM h) (fun S' => mNB h (h 60) (dgt S')) 257 0 0 S [s]
noncomputable def PM (h : HP) : SP := (h 55 33, fun s => h 79 (5 * s) = 0, fun x => h 79 (5 * x + 3), fun x => h 79 (5 * x + 4), fwN h, pack (h 60) 10)
theorem in3_60 {h : HP} (hH : mHOK h) : in3 (h 60) 10 := fun t t0 t1 => (hH.2.1 t t0 t1).2.2.2
theorem pOK_M {h : HP} (hH : mHOK h) (hS : MSOK h) : pOK (PM h) := by
  refine ⟨hS.1, fun s a b => ⟨⟨(hS.2 s a b).1.1, by have := (hS.2 s a b).1.2; have := hH.1; show h 79 (5 * s + 3) < 10; omega⟩, (hS.2 s a b).2⟩, inS_pack (in3_60 hH), fun s S a b hin => ⟨?_, fun e => sbf1_nop (TN := fun x => h 79 (5 * x + 3)) (IN := fun x => h 79 (5 * x + 4)) (wk := wkM h) (BR := fun S' => mNB h (h 60) (dgt S')) e, fun ne h0 t t0 t1 => ?_⟩⟩
  · exact sbf_in (TN := fun x => h 79 (5 * x + 3)) (IN := fun x => h 79 (5 * x + 4)) (wk := wkM h) (BR := fun S' => mNB h (h 60) (dgt S')) (N := h 55 33) (fun x a b => (hS.2 x a b).2) (fun t v x hx => wkM_m hS.1 t v x hx) 257 0 0 S [s] hin (fun x hx => by rw [List.mem_singleton] at hx; rw [hx]; exact ⟨a, b⟩)
  · exact sbf1_dg (TN := fun x => h 79 (5 * x + 3)) (IN := fun x => h 79 (5 * x + 4)) (wk := wkM h) (BR := fun S' => mNB h (h 60) (dgt S')) (N := h 55 33) (WP := fun x => ¬ h 79 (5 * x) = 0) (fun x a b => ⟨(hS.2 x a b).2, (hS.2 x a b).1.1⟩) (fun t v x ht hx => ⟨wkM_m hS.1 t v x hx, fun y => by have := (wkP_m _ _ _ hx).2.1; omega⟩) ⟨a, b⟩ ne h0 t t0 t1
section
variable {P : SP} {HL : List Int}
theorem dfP_skip {c o : Nat} {S : Int} {l : List Int} (h : HL.getD o 0 ∈ l) : dfP P HL c S l (o : Int) ↔ dfP P HL c S l ((o : Int) + 1) := by
  cases c with
  | zero => exact Iff.rfl
  | succ c =>
    constructor
    · rintro ⟨u, u1, u2, u3, u4⟩
      have : u ≠ o := fun e => by rw [e] at u3; exact u3 h
      exact ⟨u, by omega, u2, u3, u4⟩
    · rintro ⟨u, u1, u2, u3, u4⟩
      exact ⟨u, by omega, u2, u3, u4⟩
theorem dfP_take {c o : Nat} {S : Int} {l : List Int} (ho : o < HL.length) (hl : HL.getD o 0 ∉ l) (h0 : 0 ≤ P.2.2.2.2.1 (HL.getD o 0) S) : dfP P HL (c + 1) S l (o : Int) ↔ dfP P HL c (P.2.2.2.2.1 (HL.getD o 0) S) (HL.getD o 0 :: l) 0 ∨ dfP P HL (c + 1) S l ((o : Int) + 1) := by
  constructor
  · rintro ⟨u, u1, u2, u3, u4⟩
    by_cases e : u = o
    · rw [e] at u4
      exact Or.inl ((u4.resolve_left (by omega)).2)
    · exact Or.inr ⟨u, by omega, u2, u3, u4⟩
  · rintro (y | ⟨u, u1, u2, u3, u4⟩)
    · exact ⟨o, by omega, ho, hl, Or.inr ⟨h0, y⟩⟩
    · exact ⟨u, by omega, u2, u3, u4⟩
theorem dfP_end {c : Nat} {S k : Int} {l : List Int} (h : (HL.length : Int) ≤ k) : ¬ dfP P HL c S l k := by
  cases c with
  | zero => exact fun y => y
  | succ c =>
    rintro ⟨u, u1, u2, _⟩
    omega
end
def zS (h : HP) (S : Int) : Prop := ∀ t : Int, h 55 0 ≤ t → t < 10 → dgt S t = 0
theorem mHOK_d {h g : HP} {S : Int} (hH : mHOK h) (hz : zS h S) (h0 : g 55 0 = h 55 0) (h1 : g 56 = h 56) (h2 : g 57 = h 57) (h3 : g 58 = h 58) (h5 : g 62 = h 62) (h4 : ∀ t : Int, 0 ≤ t → t < 10 → g 60 t = dgt S t) : mHOK g := by
  unfold mHOK
  rw [h0, h1, h2, h3, h5]
  exact ⟨hH.1, fun u x y => ⟨(hH.2.1 u x y).1, (hH.2.1 u x y).2.1, (hH.2.1 u x y).2.2.1, by rw [h4 u x y]; exact dgt_3 S u⟩, fun u x y => by rw [h4 u (by have := hH.1; omega) y]; exact hz u x y, hH.2.2.2⟩
def frS (h g : HP) : Prop := (∀ q, q ≠ 60 → q ≠ 86 → q ≠ 55 → q ≠ 88 → q ≠ 89 → g q = h q) ∧ ∀ i : Int, i ≠ 47 → g 55 i = h 55 i
theorem fwM_c {h g : HP} (f : frS h g) : fwM g = fwM h := by
  have e79 : g 79 = h 79 := f.1 _ (by decide) (by decide) (by decide) (by decide) (by decide)
  have e33 : g 55 33 = h 55 33 := f.2 33 (by decide)
  have w1 : wkM g = wkM h := by funext t v; unfold wkM; rw [e79, e33]
  have w2 : BRm g = BRm h := by
    funext S
    unfold BRm mBrF
    rw [f.1 70 (by decide) (by decide) (by decide) (by decide) (by decide), f.1 82 (by decide) (by decide) (by decide) (by decide) (by decide), f.1 71 (by decide) (by decide) (by decide) (by decide) (by decide), f.1 62 (by decide) (by decide) (by decide) (by decide) (by decide), f.1 56 (by decide) (by decide) (by decide) (by decide) (by decide)]
  funext s S
  unfold fwM
  rw [e79, w1, w2]
def SI (P : SP) (HL : List Int) (mn : Nat) (h g : HP) : Nat → Int → List Int → Prop → Prop
  | 0, S, l, Q => (S = P.2.2.2.2.2 ∧ l = [] ∧ (Q ↔ False)) ∧ (inS S ∧ zS h S) ∧ ∀ t : Int, 0 ≤ t → t < 10 → g 89 (10 * ((0 : Nat) : Int) + t) = dgt S t
  | d + 1, S, l, Q => (∃ (S' : Int) (l' : List Int) (Q' : Prop) (o : Nat), SI P HL mn h g d S' l' Q' ∧ g 88 (d : Int) = (o : Int) ∧ o < HL.length ∧ HL.getD o 0 ∉ l' ∧ P.2.2.2.2.1 (HL.getD o 0) S' = S ∧ l = HL.getD o 0 :: l' ∧ (Q ↔ Q' ∨ dfP P HL (mn - d) S' l' ((o : Int) + 1))) ∧ (inS S ∧ zS h S) ∧ ∀ t : Int, 0 ≤ t → t < 10 → g 89 (10 * ((d + 1 : Nat) : Int) + t) = dgt S t
theorem SI_b {P : SP} {HL : List Int} {mn : Nat} {h g : HP} {d : Nat} {S : Int} {l : List Int} {Q : Prop} (H : SI P HL mn h g d S l Q) : (inS S ∧ zS h S) ∧ ∀ t : Int, 0 ≤ t → t < 10 → g 89 (10 * (d : Int) + t) = dgt S t := by
  cases d with
  | zero => exact H.2
  | succ d => exact H.2
theorem SI_c {P : SP} {HL : List Int} {mn : Nat} {h g g' : HP} : ∀ {d : Nat} {S : Int} {l : List Int} {Q : Prop}, (∀ e : Int, 0 ≤ e → e < (d : Int) → g' 88 e = g 88 e) → (∀ j : Int, 0 ≤ j → j < 10 * (d : Int) + 10 → g' 89 j = g 89 j) → SI P HL mn h g d S l Q → SI P HL mn h g' d S l Q
  | 0, S, l, Q, h1, h2, H => ⟨H.1, H.2.1, fun t a b => by rw [h2 _ (by omega) (by omega)]; exact H.2.2 t a b⟩
  | d + 1, S, l, Q, h1, h2, H => by
    obtain ⟨⟨S', l', Q', o, a1, a2, a3⟩, b, c⟩ := H
    exact ⟨⟨S', l', Q', o, SI_c (fun e x y => h1 e x (by omega)) (fun j x y => h2 j x (by omega)) a1, by rw [h1 _ (by omega) (by omega)]; exact a2, a3⟩, b, fun t x y => by rw [h2 _ (by omega) (by omega)]; exact c t x y⟩
def msr (O : Int → Int) (of : Int) : Nat → Nat
  | 0 => (of - O 0).toNat * 10 ^ 8
  | d + 1 => msr O of d + (of - O ((d + 1 : Nat) : Int)).toNat * 10 ^ (7 - d)
theorem msr_c {O O' : Int → Int} {of : Int} : ∀ {d : Nat}, (∀ e : Int, 0 ≤ e → e ≤ (d : Int) → O e = O' e) → msr O of d = msr O' of d
  | 0, h => by simp only [msr]; rw [h 0 (by omega) (by omega)]
  | d + 1, h => by simp only [msr]; rw [msr_c (fun e a b => h e a (by omega)), h _ (by omega) (by omega)]
/-- the last order goes on by one or more -/
theorem msr_u {O : Int → Int} {of v : Int} {d : Nat} (hd : d ≤ 7) (hv : O (d : Int) < v) (ho : v ≤ of) : msr (us O (d : Int) v) of d + 10 ^ (8 - d) ≤ msr O of d := by
  cases d with
  | zero =>
    simp only [msr]
    rw [show ((0 : Nat) : Int) = 0 from rfl] at hv ⊢
    rw [us_s]
    have : (of - v).toNat + 1 ≤ (of - O 0).toNat := by omega
    have h2 := Nat.mul_le_mul_right (10 ^ 8) this
    rw [Nat.add_mul, Nat.one_mul] at h2
    exact h2
  | succ d =>
    simp only [msr]
    rw [us_s, msr_c (O := us O ((d + 1 : Nat) : Int) v) (O' := O) (fun e a b => us_n (by omega))]
    have : (of - v).toNat + 1 ≤ (of - O ((d + 1 : Nat) : Int)).toNat := by omega
    have h2 := Nat.mul_le_mul_right (10 ^ (7 - d)) this
    rw [Nat.add_mul, Nat.one_mul] at h2
    rw [show 8 - (d + 1) = 7 - d by omega]
    omega
def S_X9_shows (many of : Int) (h : HP) (K : Int → HP → Prop) : Prop := ∃ (P : SP) (HL : List Int), (mHOK h ∧ mfOK h ∧ MSOK h ∧ of = (HL.length : Int) ∧ HL.length ≤ 8 ∧ (∀ o : Nat, o < HL.length → h 87 (o : Int) = HL.getD o 0) ∧ (∀ s : Int, s ∈ HL → 0 ≤ s ∧ s < h 55 33) ∧ HL.Nodup ∧ P.2.2.2.2.1 = fwM h ∧ (inS P.2.2.2.2.2 ∧ zS h P.2.2.2.2.2) ∧ (1 ≤ many ∧ many ≤ of) ∧ ∀ t : Int, 0 ≤ t → t < 10 → h 89 t = dgt P.2.2.2.2.2 t) ∧ ∀ h' : HP, frS h h' → mHOK h' → (∀ t : Int, 0 ≤ t → t < 10 → h' 60 t = dgt P.2.2.2.2.2 t) → (∀ t : Int, 0 ≤ t → t < 10 → h' 89 t = h 89 t) → K (b2i (dfP P HL many.toNat P.2.2.2.2.2 [] 0)) h'
theorem nd_inj {L : List Int} (hn : L.Nodup) {i j : Nat} (hi : i < L.length) (hj : j < L.length) (e : L.getD i 0 = L.getD j 0) : i = j := by
  rw [List.getD_eq_getElem?_getD, List.getElem?_eq_getElem hi, List.getD_eq_getElem?_getD, List.getElem?_eq_getElem hj] at e
  exact (List.getElem_inj hn).mp e
set_option maxRecDepth 100000 in
set_option maxHeartbeats 4000000 in
theorem v_X9_shows (w : WD) (many : Int) (of : Int) (h : HP) (K : Int → HP → Prop) 
    (I1 : Nat → Int → Int → Int → HP → Prop)
    (I2 : Nat → Nat → Int → Int → Int → HP → Prop)
    (I3 : Nat → Nat → Int → Int → Int → Int → HP → Prop)
    (H : (∃ m : Nat, I1 m 0 0 0 (sth h 88 0 (-1))))
    (H1 : ∀ (n1 : Nat) (x3 : Int) (x4 : Int) (x5 : Int) (g1 : HP), I1 n1 x3 x4 x5 g1 → ((((x3 < 0) ∨ (¬ x5 = 0)) → (S_X9_restore 0 g1 (fun h21 => ((x5 = 0 ∨ x5 = 1) ∧ K x5 h21)))) ∧ (¬ ((x3 < 0) ∨ (¬ x5 = 0)) → ((0 ≤ x3 ∧ x3 < 8) ∧ ((iR ((g1 88 x3) + 1)) ∧ ((0 ≤ x3 ∧ x3 < 8) ∧ (∃ m : Nat, I2 n1 m x3 x4 x5 (sth g1 88 x3 ((g1 88 x3) + 1)))))))))
    (H2 : ∀ (n1 : Nat) (n2 : Nat) (x3 : Int) (x4 : Int) (x5 : Int) (g2 : HP), I2 n1 n2 x3 x4 x5 g2 → ((0 ≤ x3 ∧ x3 < 8) ∧ ((((of ≤ (g2 88 x3) → True) ∧ (¬ of ≤ (g2 88 x3) → ((0 ≤ x3 ∧ x3 < 8) ∧ ((inB x4 (g2 88 x3)) ∧ True))))) ∧ ((((of ≤ (g2 88 x3)) ∨ (¬ (mem x4 (g2 88 x3)))) → ((0 ≤ x3 ∧ x3 < 8) ∧ ((¬ (g2 88 x3) = of → (S_X9_restore x3 g2 (fun h22 => ((0 ≤ x3 ∧ x3 < 8) ∧ ((0 ≤ (h22 88 x3) ∧ (h22 88 x3) < 8) ∧ (S_X9_bringsBar (h22 87 (h22 88 x3)) h22 (fun r23 h23 => ((((¬ r23 = 0 → True) ∧ (r23 = 0 → ((iR (x3 + 1)) ∧ True)))) ∧ ((((¬ r23 = 0) ∨ (many ≤ (x3 + 1))) → (∃ m : Nat, m < n1 ∧ I1 m x3 x4 r23 h23)) ∧ (¬ ((¬ r23 = 0) ∨ (many ≤ (x3 + 1))) → ((0 ≤ x3 ∧ x3 < 8) ∧ ((iR (x3 + 1)) ∧ ((0 ≤ (x3 + 1) ∧ (x3 + 1) < 8) ∧ (∃ m : Nat, I3 n1 m (x3 + 1) (ior x4 (ishl 1 (h23 88 x3))) r23 0 (sth h23 88 (x3 + 1) (-1)))))))))))))))) ∧ ((g2 88 x3) = of → ((iR (x3 + (-1))) ∧ ((((0 ≤ (x3 + (-1)) → ((0 ≤ (x3 + (-1)) ∧ (x3 + (-1)) < 8) ∧ True)) ∧ (¬ 0 ≤ (x3 + (-1)) → True))) ∧ (∃ m : Nat, m < n1 ∧ I1 m (x3 + (-1)) (iand x4 (cif (0 ≤ (x3 + (-1))) (ixor (ishl 1 (g2 88 (x3 + (-1)))) (-1)) 0)) x5 g2))))))) ∧ (¬ ((of ≤ (g2 88 x3)) ∨ (¬ (mem x4 (g2 88 x3)))) → ((0 ≤ x3 ∧ x3 < 8) ∧ ((iR ((g2 88 x3) + 1)) ∧ ((0 ≤ x3 ∧ x3 < 8) ∧ (∃ m : Nat, m < n2 ∧ I2 n1 m x3 x4 x5 (sth g2 88 x3 ((g2 88 x3) + 1)))))))))))
    (H3 : ∀ (n1 : Nat) (n3 : Nat) (x3 : Int) (x4 : Int) (x5 : Int) (x6 : Int) (g3 : HP), I3 n1 n3 x3 x4 x5 x6 g3 → ((10 ≤ x6 → (∃ m : Nat, m < n1 ∧ I1 m x3 x4 x5 g3)) ∧ (¬ 10 ≤ x6 → ((iR (10 * x3)) ∧ ((iR ((10 * x3) + x6)) ∧ ((0 ≤ x6 ∧ x6 < 10) ∧ ((0 ≤ ((10 * x3) + x6) ∧ ((10 * x3) + x6) < 80) ∧ ((iR (x6 + 1)) ∧ (∃ m : Nat, m < n3 ∧ I3 n1 m x3 x4 x5 (x6 + 1) (sth g3 89 ((10 * x3) + x6) (g3 60 x6))))))))))) :
    Ev w Y_X9_shows 0 [some (vR 55), some (vI many), some (vI of), none, none, none, none] [] h (rI K) := by
  have L1 : ∀ (n1 : Nat) (x3 : Int) (x4 : Int) (x5 : Int) (g1 : HP), I1 n1 x3 x4 x5 g1 → Ev w Y_X9_shows 15 [some (vR 55), some (vI many), some (vI of), some (vI x3), some (vI x4), some (vI x5), none] [] g1 (rI K) := by
    intro n1
    induction n1 using Nat.strongRecOn with
    | ind n1 ih1 =>
      have L3 : ∀ (n3 : Nat) (x3 : Int) (x4 : Int) (x5 : Int) (x6 : Int) (g3 : HP), I3 n1 n3 x3 x4 x5 x6 g3 → Ev w Y_X9_shows 170 [some (vR 55), some (vI many), some (vI of), some (vI x3), some (vI x4), some (vI x5), some (vI x6)] [] g3 (rI K) := by
        intro n3
        induction n3 using Nat.strongRecOn with
        | ind n3 ih3 =>
          intro x3 x4 x5 x6 g3 H
          have H := H3 n1 n3 x3 x4 x5 x6 g3 H
          refine e_iload (pc := 170) dX9_shows_170 rfl ?_
          refine e_bipush (pc := 172) dX9_shows_172 ⟨by decide, by decide⟩ (by decide) ?_
          refine e_icmp_ge (pc := 174) (tgt := 202) dX9_shows_174 (by decide) (fun c3 => ?_) (fun c3 => ?_)
          · have H := H.1 c3
            refine e_goto (pc := 202) (tgt := 15) dX9_shows_202 (by decide) ?_
            refine e_mask [true, true, true, true, true, true, false] rfl ?_
            obtain ⟨m, hm, H⟩ := H
            exact ih1 m hm _ _ _ _ H
          · have H := H.2 c3
            refine e_aload_n (pc := 177) dX9_shows_177 rfl rfl ?_
            refine e_getR (q := 55) (ci := 9) (k := 51) (y := 89) (C := RX9) (T := TX9) (N := 52) (pc := 178) dX9_shows_178 rfl rfl ev_in9 rfl ul_4_233 ⟨rfl, rfl⟩ rfl ?_
            refine e_bipush (pc := 181) dX9_shows_181 ⟨by decide, by decide⟩ (by decide) ?_
            refine e_iload_n (pc := 183) dX9_shows_183 rfl rfl ?_
            refine e_imul (pc := 184) dX9_shows_184 H.1 ?_
            have H := H.2
            refine e_iload (pc := 185) dX9_shows_185 rfl ?_
            refine e_iadd (pc := 187) dX9_shows_187 H.1 ?_
            have H := H.2
            refine e_aload_n (pc := 188) dX9_shows_188 rfl rfl ?_
            refine e_getR (q := 55) (ci := 9) (k := 5) (y := 60) (C := RX9) (T := TX9) (N := 52) (pc := 189) dX9_shows_189 rfl rfl ev_in9 rfl ul_4_187 ⟨rfl, rfl⟩ rfl ?_
            refine e_iload (pc := 192) dX9_shows_192 rfl ?_
            refine e_iald (q := 60) (x := (g3 60 x6)) (pc := 194) dX9_shows_194 rfl H.1 rfl ?_
            have H := H.2
            refine e_iast (q := 89) (pc := 195) dX9_shows_195 rfl H.1 ?_
            have H := H.2
            refine e_iinc (lv' := [some (vR 55), some (vI many), some (vI of), some (vI x3), some (vI x4), some (vI x5), some (vI (x6 + 1))]) (pc := 196) dX9_shows_196 rfl H.1 rfl rfl ?_
            have H := H.2
            refine e_goto (pc := 199) (tgt := 170) dX9_shows_199 (by decide) ?_
            obtain ⟨m, hm, H⟩ := H
            exact ih3 m hm _ _ _ _ _ H
      have L2 : ∀ (n2 : Nat) (x3 : Int) (x4 : Int) (x5 : Int) (g2 : HP), I2 n1 n2 x3 x4 x5 g2 → Ev w Y_X9_shows 34 [some (vR 55), some (vI many), some (vI of), some (vI x3), some (vI x4), some (vI x5), none] [] g2 (rI K) := by
        intro n2
        induction n2 using Nat.strongRecOn with
        | ind n2 ih2 =>
          intro x3 x4 x5 g2 H
          have H := H2 n1 n2 x3 x4 x5 g2 H
          refine e_aload_n (pc := 34) dX9_shows_34 rfl rfl ?_
          refine e_getR (q := 55) (ci := 9) (k := 50) (y := 88) (C := RX9) (T := TX9) (N := 52) (pc := 35) dX9_shows_35 rfl rfl ev_in9 rfl ul_4_232 ⟨rfl, rfl⟩ rfl ?_
          refine e_iload_n (pc := 38) dX9_shows_38 rfl rfl ?_
          refine e_iald (q := 88) (x := (g2 88 x3)) (pc := 39) dX9_shows_39 rfl H.1 rfl ?_
          have H := H.2
          refine e_iload_n (pc := 40) dX9_shows_40 rfl rfl ?_
          have Ho := H.1
          have H := H.2
          have J1 : ((of ≤ (g2 88 x3)) ∨ (¬ (mem x4 (g2 88 x3)))) → Ev w Y_X9_shows 71 [some (vR 55), some (vI many), some (vI of), some (vI x3), some (vI x4), some (vI x5), none] [] g2 (rI K) := by
            intro hp
            have H := H.1 hp
            refine e_aload_n (pc := 71) dX9_shows_71 rfl rfl ?_
            refine e_getR (q := 55) (ci := 9) (k := 50) (y := 88) (C := RX9) (T := TX9) (N := 52) (pc := 72) dX9_shows_72 rfl rfl ev_in9 rfl ul_4_232 ⟨rfl, rfl⟩ rfl ?_
            refine e_iload_n (pc := 75) dX9_shows_75 rfl rfl ?_
            refine e_iald (q := 88) (x := (g2 88 x3)) (pc := 76) dX9_shows_76 rfl H.1 rfl ?_
            have H := H.2
            refine e_iload_n (pc := 77) dX9_shows_77 rfl rfl ?_
            refine e_icmp_ne (pc := 78) (tgt := 110) dX9_shows_78 (by decide) (fun c4 => ?_) (fun c4 => ?_)
            · have H := H.1 c4
              refine e_aload_n (pc := 110) dX9_shows_110 rfl rfl ?_
              refine e_iload_n (pc := 111) dX9_shows_111 rfl rfl ?_
              refine e_invV (pc := 112) (Y' := Y_X9_restore) (as := [vI x3]) (st := []) (lv0 := [some (vR 55), some (vI x3), none]) (q := 55) (ci := 9) (T := TX9) (N := 52) dX9_shows_112 m_X9_restore ul_6_82 ⟨ul_6_84, us_X9_restore⟩ ⟨rfl, rfl⟩ rfl rfl rfl rfl rfl rfl rfl (c_X9_restore w x3 g2 _ H) ?_
              rintro _ h22 ⟨rfl, H⟩
              show Ev w Y_X9_shows 115 [some (vR 55), some (vI many), some (vI of), some (vI x3), some (vI x4), some (vI x5), none] [] h22 (rI K)
              refine e_aload_n (pc := 115) dX9_shows_115 rfl rfl ?_
              refine e_aload_n (pc := 116) dX9_shows_116 rfl rfl ?_
              refine e_getR (q := 55) (ci := 9) (k := 49) (y := 87) (C := RX9) (T := TX9) (N := 52) (pc := 117) dX9_shows_117 rfl rfl ev_in9 rfl ul_4_231 ⟨rfl, rfl⟩ rfl ?_
              refine e_aload_n (pc := 120) dX9_shows_120 rfl rfl ?_
              refine e_getR (q := 55) (ci := 9) (k := 50) (y := 88) (C := RX9) (T := TX9) (N := 52) (pc := 121) dX9_shows_121 rfl rfl ev_in9 rfl ul_4_232 ⟨rfl, rfl⟩ rfl ?_
              refine e_iload_n (pc := 124) dX9_shows_124 rfl rfl ?_
              refine e_iald (q := 88) (x := (h22 88 x3)) (pc := 125) dX9_shows_125 rfl H.1 rfl ?_
              have H := H.2
              refine e_iald (q := 87) (x := (h22 87 (h22 88 x3))) (pc := 126) dX9_shows_126 rfl H.1 rfl ?_
              have H := H.2
              refine e_invV (pc := 127) (Y' := Y_X9_bringsBar) (as := [vI (h22 87 (h22 88 x3))]) (st := []) (lv0 := [some (vR 55), some (vI (h22 87 (h22 88 x3))), none, none, none, none]) (q := 55) (ci := 9) (T := TX9) (N := 52) dX9_shows_127 m_X9_bringsBar ul_6_86 ⟨ul_6_88, us_X9_bringsBar⟩ ⟨rfl, rfl⟩ rfl rfl rfl rfl rfl rfl rfl (c_X9_bringsBar w (h22 87 (h22 88 x3)) h22 _ H) ?_
              rintro _ h23 ⟨r23, rfl, H⟩
              show Ev w Y_X9_shows 130 [some (vR 55), some (vI many), some (vI of), some (vI x3), some (vI x4), some (vI x5), none] [vI r23] h23 (rI K)
              refine e_istore (lv' := [some (vR 55), some (vI many), some (vI of), some (vI x3), some (vI x4), some (vI r23), none]) (pc := 130) dX9_shows_130 rfl rfl ?_
              refine e_iload (pc := 132) dX9_shows_132 rfl ?_
              have Ho := H.1
              have H := H.2
              have J1 : ((¬ r23 = 0) ∨ (many ≤ (x3 + 1))) → Ev w Y_X9_shows 15 [some (vR 55), some (vI many), some (vI of), some (vI x3), some (vI x4), some (vI r23), none] [] h23 (rI K) := by
                intro hp
                have H := H.1 hp
                obtain ⟨m, hm, H⟩ := H
                exact ih1 m hm _ _ _ _ H
              have J2 : ¬ ((¬ r23 = 0) ∨ (many ≤ (x3 + 1))) → Ev w Y_X9_shows 144 [some (vR 55), some (vI many), some (vI of), some (vI x3), some (vI x4), some (vI r23), none] [] h23 (rI K) := by
                intro hp
                have H := H.2 hp
                refine e_iload (pc := 144) dX9_shows_144 rfl ?_
                refine e_iconst (pc := 146) dX9_shows_146 ⟨by decide, by decide⟩ ?_
                refine e_aload_n (pc := 147) dX9_shows_147 rfl rfl ?_
                refine e_getR (q := 55) (ci := 9) (k := 50) (y := 88) (C := RX9) (T := TX9) (N := 52) (pc := 148) dX9_shows_148 rfl rfl ev_in9 rfl ul_4_232 ⟨rfl, rfl⟩ rfl ?_
                refine e_iload_n (pc := 151) dX9_shows_151 rfl rfl ?_
                refine e_iald (q := 88) (x := (h23 88 x3)) (pc := 152) dX9_shows_152 rfl H.1 rfl ?_
                have H := H.2
                refine e_ishl (pc := 153) dX9_shows_153 ?_
                refine e_ior (pc := 154) dX9_shows_154 ?_
                refine e_istore (lv' := [some (vR 55), some (vI many), some (vI of), some (vI x3), some (vI (ior x4 (ishl 1 (h23 88 x3)))), some (vI r23), none]) (pc := 155) dX9_shows_155 rfl rfl ?_
                refine e_iinc (lv' := [some (vR 55), some (vI many), some (vI of), some (vI (x3 + 1)), some (vI (ior x4 (ishl 1 (h23 88 x3)))), some (vI r23), none]) (pc := 157) dX9_shows_157 rfl H.1 rfl rfl ?_
                have H := H.2
                refine e_aload_n (pc := 160) dX9_shows_160 rfl rfl ?_
                refine e_getR (q := 55) (ci := 9) (k := 50) (y := 88) (C := RX9) (T := TX9) (N := 52) (pc := 161) dX9_shows_161 rfl rfl ev_in9 rfl ul_4_232 ⟨rfl, rfl⟩ rfl ?_
                refine e_iload_n (pc := 164) dX9_shows_164 rfl rfl ?_
                refine e_iconst (pc := 165) dX9_shows_165 ⟨by decide, by decide⟩ ?_
                refine e_iast (q := 88) (pc := 166) dX9_shows_166 rfl H.1 ?_
                have H := H.2
                refine e_iconst (pc := 167) dX9_shows_167 ⟨by decide, by decide⟩ ?_
                refine e_istore (lv' := [some (vR 55), some (vI many), some (vI of), some (vI (x3 + 1)), some (vI (ior x4 (ishl 1 (h23 88 x3)))), some (vI r23), some (vI 0)]) (pc := 168) dX9_shows_168 rfl rfl ?_
                obtain ⟨m, H⟩ := H
                exact L3 m _ _ _ _ _ H
              refine e_if_ne (pc := 134) (tgt := 15) dX9_shows_134 (by decide) (fun c5 => ?_) (fun c5 => ?_)
              · have Ho := Ho.1 c5
                exact J1 (Or.inl c5)
              · have Ho := Ho.2 c5
                refine e_iload_n (pc := 137) dX9_shows_137 rfl rfl ?_
                refine e_iconst (pc := 138) dX9_shows_138 ⟨by decide, by decide⟩ ?_
                refine e_iadd (pc := 139) dX9_shows_139 Ho.1 ?_
                have Ho := Ho.2
                refine e_iload_n (pc := 140) dX9_shows_140 rfl rfl ?_
                refine e_icmp_ge (pc := 141) (tgt := 15) dX9_shows_141 (by decide) (fun c6 => ?_) (fun c6 => ?_)
                · exact J1 (Or.inr c6)
                · exact J2 (fun z => z.elim (fun z => z c5) c6)
            · have H := H.2 c4
              refine e_iinc (lv' := [some (vR 55), some (vI many), some (vI of), some (vI (x3 + (-1))), some (vI x4), some (vI x5), none]) (pc := 81) dX9_shows_81 rfl H.1 rfl rfl ?_
              have H := H.2
              refine e_iload (pc := 84) dX9_shows_84 rfl ?_
              refine e_iload_n (pc := 86) dX9_shows_86 rfl rfl ?_
              have J : Ev w Y_X9_shows 104 [some (vR 55), some (vI many), some (vI of), some (vI (x3 + (-1))), some (vI x4), some (vI x5), none] [vI (cif (0 ≤ (x3 + (-1))) (ixor (ishl 1 (g2 88 (x3 + (-1)))) (-1)) 0), vI x4] g2 (rI K) := by
                have H := H.2
                refine e_iand (pc := 104) dX9_shows_104 ?_
                refine e_istore (lv' := [some (vR 55), some (vI many), some (vI of), some (vI (x3 + (-1))), some (vI (iand x4 (cif (0 ≤ (x3 + (-1))) (ixor (ishl 1 (g2 88 (x3 + (-1)))) (-1)) 0))), some (vI x5), none]) (pc := 105) dX9_shows_105 rfl rfl ?_
                refine e_goto (pc := 107) (tgt := 15) dX9_shows_107 (by decide) ?_
                obtain ⟨m, hm, H⟩ := H
                exact ih1 m hm _ _ _ _ H
              have Ho := H.1
              refine e_if_ge (pc := 87) (tgt := 94) dX9_shows_87 (by decide) (fun c7 => ?_) (fun c7 => ?_)
              · have Ho := Ho.1 c7
                refine e_iconst (pc := 94) dX9_shows_94 ⟨by decide, by decide⟩ ?_
                refine e_aload_n (pc := 95) dX9_shows_95 rfl rfl ?_
                refine e_getR (q := 55) (ci := 9) (k := 50) (y := 88) (C := RX9) (T := TX9) (N := 52) (pc := 96) dX9_shows_96 rfl rfl ev_in9 rfl ul_4_232 ⟨rfl, rfl⟩ rfl ?_
                refine e_iload_n (pc := 99) dX9_shows_99 rfl rfl ?_
                refine e_iald (q := 88) (x := (g2 88 (x3 + (-1)))) (pc := 100) dX9_shows_100 rfl Ho.1 rfl ?_
                have Ho := Ho.2
                refine e_ishl (pc := 101) dX9_shows_101 ?_
                refine e_iconst (pc := 102) dX9_shows_102 ⟨by decide, by decide⟩ ?_
                refine e_ixor (pc := 103) dX9_shows_103 ?_
                exact e_top (cif_t c7) J
              · have Ho := Ho.2 c7
                refine e_iconst (pc := 90) dX9_shows_90 ⟨by decide, by decide⟩ ?_
                refine e_goto (pc := 91) (tgt := 104) dX9_shows_91 (by decide) ?_
                exact e_top (cif_f c7) J
          have J2 : ¬ ((of ≤ (g2 88 x3)) ∨ (¬ (mem x4 (g2 88 x3)))) → Ev w Y_X9_shows 58 [some (vR 55), some (vI many), some (vI of), some (vI x3), some (vI x4), some (vI x5), none] [] g2 (rI K) := by
            intro hp
            have H := H.2 hp
            refine e_aload_n (pc := 58) dX9_shows_58 rfl rfl ?_
            refine e_getR (q := 55) (ci := 9) (k := 50) (y := 88) (C := RX9) (T := TX9) (N := 52) (pc := 59) dX9_shows_59 rfl rfl ev_in9 rfl ul_4_232 ⟨rfl, rfl⟩ rfl ?_
            refine e_iload_n (pc := 62) dX9_shows_62 rfl rfl ?_
            refine e_dup2 (pc := 63) dX9_shows_63 rfl rfl ?_
            refine e_iald (q := 88) (x := (g2 88 x3)) (pc := 64) dX9_shows_64 rfl H.1 rfl ?_
            have H := H.2
            refine e_iconst (pc := 65) dX9_shows_65 ⟨by decide, by decide⟩ ?_
            refine e_iadd (pc := 66) dX9_shows_66 H.1 ?_
            have H := H.2
            refine e_iast (q := 88) (pc := 67) dX9_shows_67 rfl H.1 ?_
            have H := H.2
            refine e_goto (pc := 68) (tgt := 34) dX9_shows_68 (by decide) ?_
            obtain ⟨m, hm, H⟩ := H
            exact ih2 m hm _ _ _ _ H
          refine e_icmp_ge (pc := 41) (tgt := 71) dX9_shows_41 (by decide) (fun c8 => ?_) (fun c8 => ?_)
          · have Ho := Ho.1 c8
            exact J1 (Or.inl c8)
          · have Ho := Ho.2 c8
            refine e_iload (pc := 44) dX9_shows_44 rfl ?_
            refine e_aload_n (pc := 46) dX9_shows_46 rfl rfl ?_
            refine e_getR (q := 55) (ci := 9) (k := 50) (y := 88) (C := RX9) (T := TX9) (N := 52) (pc := 47) dX9_shows_47 rfl rfl ev_in9 rfl ul_4_232 ⟨rfl, rfl⟩ rfl ?_
            refine e_iload_n (pc := 50) dX9_shows_50 rfl rfl ?_
            refine e_iald (q := 88) (x := (g2 88 x3)) (pc := 51) dX9_shows_51 rfl Ho.1 rfl ?_
            have Ho := Ho.2
            refine e_invS (pc := 52) (Y' := Y_X9_has) (as := [vI x4, vI (g2 88 x3)]) (st := []) (lv0 := [some (vI x4), some (vI (g2 88 x3))]) dX9_shows_52 m_X9_has ul_5_221 ul_5_222 ⟨rfl, rfl⟩ rfl rfl rfl rfl rfl (c_X9_has w x4 (g2 88 x3) g2 Ho.1) ?_
            rintro _ hz ⟨_, rfl, rfl, hh⟩
            rw [hh]
            show Ev w Y_X9_shows 55 [some (vR 55), some (vI many), some (vI of), some (vI x3), some (vI x4), some (vI x5), none] [vI (b2i (mem x4 (g2 88 x3)))] g2 (rI K)
            have Ho := Ho.2
            refine e_ifb_eq (pc := 55) (tgt := 71) dX9_shows_55 (by decide) (fun c9 => ?_) (fun c9 => ?_)
            · exact J1 (Or.inr c9)
            · exact J2 (fun z => z.elim c8 (fun z => z c9))
      intro x3 x4 x5 g1 H
      have H := H1 n1 x3 x4 x5 g1 H
      refine e_iload_n (pc := 15) dX9_shows_15 rfl rfl ?_
      have J1 : ((x3 < 0) ∨ (¬ x5 = 0)) → Ev w Y_X9_shows 205 [some (vR 55), some (vI many), some (vI of), some (vI x3), some (vI x4), some (vI x5), none] [] g1 (rI K) := by
        intro hp
        have H := H.1 hp
        refine e_aload_n (pc := 205) dX9_shows_205 rfl rfl ?_
        refine e_iconst (pc := 206) dX9_shows_206 ⟨by decide, by decide⟩ ?_
        refine e_invV (pc := 207) (Y' := Y_X9_restore) (as := [vI 0]) (st := []) (lv0 := [some (vR 55), some (vI 0), none]) (q := 55) (ci := 9) (T := TX9) (N := 52) dX9_shows_207 m_X9_restore ul_6_82 ⟨ul_6_84, us_X9_restore⟩ ⟨rfl, rfl⟩ rfl rfl rfl rfl rfl rfl rfl (c_X9_restore w 0 g1 _ H) ?_
        rintro _ h21 ⟨rfl, H⟩
        show Ev w Y_X9_shows 210 [some (vR 55), some (vI many), some (vI of), some (vI x3), some (vI x4), some (vI x5), none] [] h21 (rI K)
        refine e_iload (pc := 210) dX9_shows_210 rfl ?_
        exact e_ret (pc := 212) (v := some (vI x5)) dX9_shows_212 rfl H.1 ⟨_, rfl, H.2⟩
      have J2 : ¬ ((x3 < 0) ∨ (¬ x5 = 0)) → Ev w Y_X9_shows 24 [some (vR 55), some (vI many), some (vI of), some (vI x3), some (vI x4), some (vI x5), none] [] g1 (rI K) := by
        intro hp
        have H := H.2 hp
        refine e_aload_n (pc := 24) dX9_shows_24 rfl rfl ?_
        refine e_getR (q := 55) (ci := 9) (k := 50) (y := 88) (C := RX9) (T := TX9) (N := 52) (pc := 25) dX9_shows_25 rfl rfl ev_in9 rfl ul_4_232 ⟨rfl, rfl⟩ rfl ?_
        refine e_iload_n (pc := 28) dX9_shows_28 rfl rfl ?_
        refine e_dup2 (pc := 29) dX9_shows_29 rfl rfl ?_
        refine e_iald (q := 88) (x := (g1 88 x3)) (pc := 30) dX9_shows_30 rfl H.1 rfl ?_
        have H := H.2
        refine e_iconst (pc := 31) dX9_shows_31 ⟨by decide, by decide⟩ ?_
        refine e_iadd (pc := 32) dX9_shows_32 H.1 ?_
        have H := H.2
        refine e_iast (q := 88) (pc := 33) dX9_shows_33 rfl H.1 ?_
        have H := H.2
        obtain ⟨m, H⟩ := H
        exact L2 m _ _ _ _ H
      refine e_if_lt (pc := 16) (tgt := 205) dX9_shows_16 (by decide) (fun c1 => ?_) (fun c1 => ?_)
      · exact J1 (Or.inl c1)
      · refine e_iload (pc := 19) dX9_shows_19 rfl ?_
        refine e_if_ne (pc := 21) (tgt := 205) dX9_shows_21 (by decide) (fun c2 => ?_) (fun c2 => ?_)
        · exact J1 (Or.inr c2)
        · exact J2 (fun z => z.elim c1 (fun z => z c2))
  refine e_iconst (pc := 0) dX9_shows_0 ⟨by decide, by decide⟩ ?_
  refine e_istore_n (lv' := [some (vR 55), some (vI many), some (vI of), some (vI 0), none, none, none]) (pc := 1) dX9_shows_1 rfl rfl rfl ?_
  refine e_iconst (pc := 2) dX9_shows_2 ⟨by decide, by decide⟩ ?_
  refine e_istore (lv' := [some (vR 55), some (vI many), some (vI of), some (vI 0), some (vI 0), none, none]) (pc := 3) dX9_shows_3 rfl rfl ?_
  refine e_iconst (pc := 5) dX9_shows_5 ⟨by decide, by decide⟩ ?_
  refine e_istore (lv' := [some (vR 55), some (vI many), some (vI of), some (vI 0), some (vI 0), some (vI 0), none]) (pc := 6) dX9_shows_6 rfl rfl ?_
  refine e_aload_n (pc := 8) dX9_shows_8 rfl rfl ?_
  refine e_getR (q := 55) (ci := 9) (k := 50) (y := 88) (C := RX9) (T := TX9) (N := 52) (pc := 9) dX9_shows_9 rfl rfl ev_in9 rfl ul_4_232 ⟨rfl, rfl⟩ rfl ?_
  refine e_iconst (pc := 12) dX9_shows_12 ⟨by decide, by decide⟩ ?_
  refine e_iconst (pc := 13) dX9_shows_13 ⟨by decide, by decide⟩ ?_
  refine e_iast (q := 88) (pc := 14) dX9_shows_14 rfl ⟨by decide, by decide⟩ ?_
  obtain ⟨m, H⟩ := H
  exact L1 m _ _ _ _ H
set_option maxRecDepth 100000 in
set_option maxHeartbeats 4000000 in
theorem c_X9_shows (w : WD) (many : Int) (of : Int) (h : HP) (K : Int → HP → Prop)  (H : S_X9_shows many of h K) : Ev w Y_X9_shows 0 [some (vR 55), some (vI many), some (vI of), none, none, none, none] [] h (rI K) := by
  obtain ⟨P, HL, ⟨hH, hF, hS, hof, hL8, h87, hHL, hnd, hfr, hS0, hmn, h89⟩, HK⟩ := H
  obtain ⟨mn, rfl⟩ : ∃ mn : Nat, many = (mn : Int) := ⟨many.toNat, by omega⟩
  rw [Int.toNat_natCast] at HK
  subst hof
  generalize hT : dfP P HL mn P.2.2.2.2.2 [] 0 = TT at *
  refine v_X9_shows w (mn : Int) (HL.length : Int) h K
    (fun n1 x3 x4 x5 g => frS h g ∧ (∀ t : Int, 0 ≤ t → t < 10 → g 89 t = h 89 t) ∧ ((x5 = 1 ∧ TT) ∨ (x5 = 0 ∧ x3 = -1 ∧ ¬ TT) ∨ (x5 = 0 ∧ ∃ (d : Nat) (S : Int) (l : List Int) (Q : Prop), x3 = (d : Int) ∧ d < mn ∧ SI P HL mn h g d S l Q ∧ (-1 ≤ g 88 (d : Int) ∧ g 88 (d : Int) < (HL.length : Int)) ∧ (TT ↔ Q ∨ dfP P HL (mn - d) S l (g 88 (d : Int) + 1)) ∧ (0 ≤ x4 ∧ x4 < 256) ∧ (∀ u : Nat, u < HL.length → (mem x4 (u : Int) ↔ HL.getD u 0 ∈ l)) ∧ n1 = msr (g 88) (HL.length : Int) d + 1)))
    (fun n1 n2 x3 x4 x5 g => frS h g ∧ (∀ t : Int, 0 ≤ t → t < 10 → g 89 t = h 89 t) ∧ x5 = 0 ∧ ∃ (d k : Nat) (S : Int) (l : List Int) (Q : Prop), x3 = (d : Int) ∧ d < mn ∧ SI P HL mn h g d S l Q ∧ g 88 (d : Int) = (k : Int) ∧ k ≤ HL.length ∧ (TT ↔ Q ∨ dfP P HL (mn - d) S l (k : Int)) ∧ (0 ≤ x4 ∧ x4 < 256) ∧ (∀ u : Nat, u < HL.length → (mem x4 (u : Int) ↔ HL.getD u 0 ∈ l)) ∧ msr (g 88) (HL.length : Int) d + 10 ^ (8 - d) < n1 ∧ n2 = HL.length - k)
    (fun n1 n3 x3 x4 x5 x6 g => frS h g ∧ (∀ t : Int, 0 ≤ t → t < 10 → g 89 t = h 89 t) ∧ x5 = 0 ∧ ∃ (d k : Nat) (S S1 : Int) (l : List Int) (Q : Prop), x3 = ((d + 1 : Nat) : Int) ∧ d + 1 < mn ∧ SI P HL mn h g d S l Q ∧ g 88 (d : Int) = (k : Int) ∧ k < HL.length ∧ HL.getD k 0 ∉ l ∧ P.2.2.2.2.1 (HL.getD k 0) S = S1 ∧ (inS S1 ∧ zS h S1) ∧ g 88 ((d + 1 : Nat) : Int) = -1 ∧ (TT ↔ Q ∨ dfP P HL (mn - d) S l (k : Int)) ∧ (0 ≤ x4 ∧ x4 < 256) ∧ (∀ u : Nat, u < HL.length → (mem x4 (u : Int) ↔ HL.getD u 0 ∈ HL.getD k 0 :: l)) ∧ msr (g 88) (HL.length : Int) d + 10 ^ (8 - d) < n1 ∧ (0 ≤ x6 ∧ x6 ≤ 10) ∧ n3 = (10 - x6).toNat ∧ (∀ t : Int, 0 ≤ t → t < 10 → g 60 t = dgt S1 t) ∧ ∀ t : Int, 0 ≤ t → t < x6 → g 89 (10 * ((d + 1 : Nat) : Int) + t) = dgt S1 t)
    ⟨msr (us (h 88) 0 (-1)) (HL.length : Int) 0 + 1, ⟨fun q a1 a2 a3 a4 a5 => sth_ne a4, fun i a => by rw [sth_ne (by decide)]⟩, fun t a b => by rw [sth_ne (by decide)], Or.inr (Or.inr ⟨rfl, 0, P.2.2.2.2.2, [], False, rfl, by omega, ⟨⟨rfl, rfl, Iff.rfl⟩, hS0, fun t a b => by rw [sth_ne (by decide)]; rw [show 10 * ((0 : Nat) : Int) + t = t by omega]; exact h89 t a b⟩, ?_, ?_, by decide, fun u _ => ⟨fun y => absurd y (mem_z _), fun y => absurd y (by simp)⟩, by rw [sth_eq]⟩)⟩ ?_ ?_ ?_
  · rw [sth_eq]
    show -1 ≤ us _ 0 (-1) 0 ∧ us _ 0 (-1) 0 < _
    rw [us_s]; omega
  · rw [sth_eq, ← hT]
    show _ ↔ False ∨ dfP P HL (mn - 0) P.2.2.2.2.2 [] (us _ 0 (-1) 0 + 1)
    rw [us_s]
    exact ⟨Or.inr, fun y => y.elim False.elim id⟩
  · rintro n1 x3 x4 x5 g ⟨hf, hr0, hc⟩
    refine ⟨fun z => ⟨by decide, fun g2 p1 p2 p3 => ?_⟩, fun z => ?_⟩
    · have fin : ∀ b : Int, b = b2i TT → (x5 = b → (x5 = 0 ∨ x5 = 1) ∧ K x5 g2) := fun b hb e => by
        have h01 := b2i_01 TT
        rw [e, hb]
        refine ⟨h01, HK g2 ⟨fun q a1 a2 a3 a4 a5 => by rw [p1 q a1]; exact hf.1 q a1 a2 a3 a4 a5, fun i a => by rw [p1 55 (by decide)]; exact hf.2 i a⟩ (mHOK_d hH hS0.2 (by rw [p1 55 (by decide)]; exact hf.2 0 (by decide)) (by rw [p1 56 (by decide)]; exact hf.1 _ (by decide) (by decide) (by decide) (by decide) (by decide)) (by rw [p1 57 (by decide)]; exact hf.1 _ (by decide) (by decide) (by decide) (by decide) (by decide)) (by rw [p1 58 (by decide)]; exact hf.1 _ (by decide) (by decide) (by decide) (by decide) (by decide)) (by rw [p1 62 (by decide)]; exact hf.1 _ (by decide) (by decide) (by decide) (by decide) (by decide)) (fun t a b => ?_)) (fun t a b => ?_) (fun t a b => by rw [p1 89 (by decide)]; exact hr0 t a b)⟩
        · rw [p2 t a b, show 10 * (0 : Int) + t = t by omega, hr0 t a b]; exact h89 t a b
        · rw [p2 t a b, show 10 * (0 : Int) + t = t by omega, hr0 t a b]; exact h89 t a b
      rcases hc with ⟨e, ht⟩ | ⟨e, e2, ht⟩ | ⟨e, d, S, l, Q, e2, _⟩
      · exact fin 1 (b2i_t ht).symm e
      · exact fin 0 (b2i_f ht).symm e
      · exfalso; rcases z with z | z <;> omega
    · have z1 : ¬ x3 < 0 := fun y => z (Or.inl y)
      have z2 : x5 = 0 := Classical.byContradiction (fun y => z (Or.inr y))
      rcases hc with ⟨e, _⟩ | ⟨_, e, _⟩ | ⟨_, d, S, l, Q, rfl, hd, hSI, hb, hTT, hx4, hus, rfl⟩
      · omega
      · omega
      · have e88 : sth g 88 (d : Int) (g 88 (d : Int) + 1) 88 = us (g 88) (d : Int) (g 88 (d : Int) + 1) := sth_eq
        refine ⟨by omega, ⟨by omega, by omega⟩, by omega, HL.length - (g 88 (d : Int) + 1).toNat, ⟨fun q a1 a2 a3 a4 a5 => by rw [sth_ne a4]; exact hf.1 q a1 a2 a3 a4 a5, fun i a => by rw [sth_ne (by decide)]; exact hf.2 i a⟩, fun t a b => by rw [sth_ne (by decide)]; exact hr0 t a b, z2, d, (g 88 (d : Int) + 1).toNat, S, l, Q, rfl, hd, SI_c (fun e x y => by rw [e88, us_n (by omega)]) (fun j x y => by rw [sth_ne (by decide)]) hSI, by rw [e88, us_s]; omega, by omega, ?_, hx4, hus, ?_, rfl⟩
        · rw [Int.toNat_of_nonneg (by omega)]; exact hTT
        · rw [e88]
          have := msr_u (O := g 88) (of := (HL.length : Int)) (v := g 88 (d : Int) + 1) (d := d) (by omega) (by omega) (by omega)
          omega
  · rintro n1 n2 x3 x4 x5 g ⟨hf, hr0, rfl, d, k, S, l, Q, rfl, hd, hSI, hk, hkl, hTT, hx4, hus, hms, rfl⟩
    rw [hk]
    have hSb := SI_b hSI
    refine ⟨by omega, ⟨fun _ => trivial, fun c => ⟨by omega, ⟨⟨hx4.1, by omega⟩, by omega, by omega⟩, trivial⟩⟩, fun z => ⟨by omega, fun zk => ⟨by omega, fun g2 p1 p2 p3 => ?_⟩, fun zk => ⟨⟨by omega, by omega⟩, ⟨fun _ => ⟨by omega, trivial⟩, fun _ => trivial⟩, ?_⟩⟩, fun z => ⟨by omega, ⟨by omega, by omega⟩, by omega, ?_⟩⟩
    · have hkl2 : k < HL.length := by omega
      have hnm : HL.getD k 0 ∉ l := fun y => by
        rcases z with z | z
        · omega
        · exact z ((hus k hkl2).mpr y)
      have e88 : g2 88 = g 88 := p1 _ (by decide)
      have e87 : g2 87 = h 87 := by rw [p1 _ (by decide)]; exact hf.1 _ (by decide) (by decide) (by decide) (by decide) (by decide)
      have f2 : frS h g2 := ⟨fun q a1 a2 a3 a4 a5 => by rw [p1 q a1]; exact hf.1 q a1 a2 a3 a4 a5, fun i a => by rw [p1 55 (by decide)]; exact hf.2 i a⟩
      have ag2 : ∀ t : Int, 0 ≤ t → t < 10 → g2 60 t = dgt S t := fun t a b => by rw [p2 t a b]; exact hSb.2 t a b
      have hH2 : mHOK g2 := mHOK_d hH hSb.1.2 (f2.2 0 (by decide)) (f2.1 _ (by decide) (by decide) (by decide) (by decide) (by decide)) (f2.1 _ (by decide) (by decide) (by decide) (by decide) (by decide)) (f2.1 _ (by decide) (by decide) (by decide) (by decide) (by decide)) (f2.1 _ (by decide) (by decide) (by decide) (by decide) (by decide)) ag2
      have hF2 : mfOK g2 := by unfold mfOK; rw [f2.1 70 (by decide) (by decide) (by decide) (by decide) (by decide), f2.1 71 (by decide) (by decide) (by decide) (by decide) (by decide)]; exact hF
      have hS2 : MSOK g2 := by unfold MSOK; rw [f2.2 33 (by decide), f2.2 0 (by decide), f2.1 79 (by decide) (by decide) (by decide) (by decide) (by decide)]; exact hS
      have hsm := hHL _ (getD_mem hkl2)
      have efr : fwM g2 (HL.getD k 0) S = P.2.2.2.2.1 (HL.getD k 0) S := by rw [fwM_c f2, hfr]
      show (_ ∧ _) ∧ _
      rw [e88, hk, e87, h87 k hkl2]
      refine ⟨by omega, by omega, S, ⟨hH2, hF2, hS2, by rw [f2.2 33 (by decide)]; exact hsm, hSb.1.1, ag2⟩, fun g3 q1 q2 q3 q4 => ?_⟩
      rw [efr] at q4 ⊢
      have hfin : P.2.2.2.2.1 (HL.getD k 0) S = -1 ∨ inS (P.2.2.2.2.1 (HL.getD k 0) S) := by rw [hfr]; exact fwM_in hS hsm hSb.1.1
      generalize hS1 : P.2.2.2.2.1 (HL.getD k 0) S = S1 at *
      have f3 : frS h g3 := ⟨fun q a1 a2 a3 a4 a5 => by rw [q1 q a1 a2 a3]; exact f2.1 q a1 a2 a3 a4 a5, fun i a => by rw [q2 i a]; exact f2.2 i a⟩
      have e88' : g3 88 = g 88 := by rw [q1 _ (by decide) (by decide) (by decide)]; exact e88
      have e89' : g3 89 = g 89 := by rw [q1 _ (by decide) (by decide) (by decide), p1 _ (by decide)]
      have r3 : ∀ t : Int, 0 ≤ t → t < 10 → g3 89 t = h 89 t := fun t a b => by rw [e89']; exact hr0 t a b
      have hSI3 : SI P HL mn h g3 d S l Q := SI_c (fun e x y => by rw [e88']) (fun j x y => by rw [e89']) hSI
      obtain ⟨c, hc⟩ : ∃ c, mn - d = c + 1 := ⟨mn - d - 1, by omega⟩
      have hpos : 0 < 10 ^ (8 - d) := Nat.pow_pos (by decide)
      rw [e88', hk]
      refine ⟨⟨fun _ => trivial, fun _ => ⟨⟨by omega, by omega⟩, trivial⟩⟩, fun y => ?_, fun y => ?_⟩
      · by_cases neg : S1 < 0
        · rw [b2i_t neg]
          refine ⟨0, by omega, f3, r3, Or.inl ⟨rfl, hTT.mpr (Or.inr ?_)⟩⟩
          rw [hc]
          exact ⟨k, by omega, hkl2, hnm, Or.inl (by rw [hS1]; exact neg)⟩
        · rw [b2i_f neg] at y ⊢
          have hc0 : c = 0 := by
            rcases y with y | y
            · exact absurd rfl y
            · omega
          refine ⟨msr (g 88) (HL.length : Int) d + 1, by omega, f3, r3, Or.inr (Or.inr ⟨rfl, d, S, l, Q, rfl, hd, hSI3, by rw [hk]; omega, ?_, hx4, hus, rfl⟩)⟩
          rw [hk, hTT, hc]
          rw [dfP_take hkl2 hnm (by rw [hS1]; omega), hc0]
          exact ⟨fun u => u.elim Or.inl (fun v => v.elim False.elim Or.inr), fun u => u.elim Or.inl (fun v => Or.inr (Or.inr v))⟩
      · have y1 : b2i (S1 < 0) = 0 := Classical.byContradiction (fun u => y (Or.inl u))
        have y2 : ¬ (mn : Int) ≤ (d : Int) + 1 := fun u => y (Or.inr u)
        have pos : ¬ S1 < 0 := b2i_0.mp y1
        have hin1 := hfin.resolve_left (by omega)
        have q4 := q4 (by omega)
        have hz1 : zS h S1 := fun t a b => by
          have e1 := q4 t (by have := hH.1; omega) b
          have e2 := q3.2.2.1 t (by rw [f3.2 0 (by decide)]; exact a) b
          omega
        have hmo := mem_or (x := x4) (t := (k : Int)) ⟨hx4.1, by omega⟩ (by omega)
        have hst := stb_b hx4 (s := (k : Int)) (by omega)
        have e88s : sth g3 88 ((d : Int) + 1) (-1) 88 = us (g 88) ((d : Int) + 1) (-1) := by rw [sth_eq, e88']
        refine ⟨by omega, ⟨by omega, by omega⟩, by omega, 10, ⟨fun q a1 a2 a3 a4 a5 => by rw [sth_ne a4]; exact f3.1 q a1 a2 a3 a4 a5, fun i a => by rw [sth_ne (by decide)]; exact f3.2 i a⟩, fun t a b => by rw [sth_ne (by decide)]; exact r3 t a b, y1, d, k, S, S1, l, Q, by omega, by omega, SI_c (fun e x u => by rw [e88s, us_n (by omega), e88']) (fun j x u => by rw [sth_ne (by decide)]) hSI3, by rw [e88s, us_n (by omega)]; exact hk, hkl2, hnm, hS1, ⟨hin1, hz1⟩, by rw [e88s, show ((d + 1 : Nat) : Int) = (d : Int) + 1 by omega, us_s], hTT, hst.1, fun u hu => ?_, ?_, by omega, rfl, fun t a b => by rw [sth_ne (by decide)]; exact q4 t a b, fun t a b => by omega⟩
        · show mem (stb x4 (k : Int)) (u : Int) ↔ _
          rw [hst.2 (u : Int) (by omega), hus u hu, List.mem_cons]
          constructor
          · rintro (v | v)
            · exact Or.inr v
            · exact Or.inl (by rw [show u = k by omega])
          · rintro (v | v)
            · exact Or.inr (by rw [nd_inj hnd hu hkl2 v])
            · exact Or.inl v
        · rw [e88s, msr_c (O' := g 88) (fun e a b => us_n (by omega))]
          exact hms
    · have hke : k = HL.length := by omega
      have hend : ¬ dfP P HL (mn - d) S l (k : Int) := dfP_end (by omega)
      have hTQ : TT ↔ Q := by rw [hTT]; exact ⟨fun u => u.resolve_right hend, Or.inl⟩
      cases d with
      | zero =>
        have hQ := hSI.1.2.2
        refine ⟨0, by omega, hf, hr0, Or.inr (Or.inl ⟨rfl, by omega, fun y => hQ.mp (hTQ.mp y)⟩)⟩
      | succ d =>
        obtain ⟨⟨S', l', Q', o, a1, a2, a3, a4, a5, a6, a7⟩, _, _⟩ := hSI
        have ed : ((d + 1 : Nat) : Int) + -1 = (d : Int) := by omega
        rw [ed, cif_t (by omega), a2]
        have hand := mem_andn (x := x4) (t := (o : Int)) ⟨hx4.1, by omega⟩ (by omega)
        have hb256 : 0 ≤ iand x4 (ixor (ishl 1 (o : Int)) (-1)) ∧ iand x4 (ixor (ishl 1 (o : Int)) (-1)) < 256 := by
          refine ⟨hand.1.1, ?_⟩
          have e := set_bset (x := iand x4 (ixor (ishl 1 (o : Int)) (-1))) (n := 31) ⟨hand.1.1, by have := hand.1.2; omega⟩
          rw [bset_past (m := 8) (by decide) (fun i i0 i1 y => by
            have := mem_lt (n := 8) hx4 (by omega) ((hand.2 i (by omega)).mp y).1
            omega)] at e
          have := bset_256 (p := mem (iand x4 (ixor (ishl 1 (o : Int)) (-1)))) (n := 8) (by decide)
          omega
        refine ⟨msr (g 88) (HL.length : Int) d + 1, ?_, hf, hr0, Or.inr (Or.inr ⟨rfl, d, S', l', Q', rfl, by omega, a1, by rw [a2]; omega, ?_, hb256, fun u hu => ?_, rfl⟩)⟩
        · have hpos : 0 < 10 ^ (8 - (d + 1)) := Nat.pow_pos (by decide)
          simp only [msr] at hms
          omega
        · rw [a2, hTQ]; exact a7
        · rw [hand.2 (u : Int) (by omega), hus u hu, a6, List.mem_cons]
          constructor
          · rintro ⟨v | v, e⟩
            · exact absurd (by rw [nd_inj hnd hu a3 v]) e
            · exact v
          · intro v
            exact ⟨Or.inr v, fun e => by rw [show u = o by omega] at v; exact a4 v⟩
    · have zk : k < HL.length := by omega
      have zm : mem x4 (k : Int) := Classical.byContradiction (fun y => z (Or.inr y))
      have e88 : sth g 88 (d : Int) ((k : Int) + 1) 88 = us (g 88) (d : Int) ((k : Int) + 1) := sth_eq
      refine ⟨HL.length - (k + 1), by omega, ⟨fun q a1 a2 a3 a4 a5 => by rw [sth_ne a4]; exact hf.1 q a1 a2 a3 a4 a5, fun i a => by rw [sth_ne (by decide)]; exact hf.2 i a⟩, fun t a b => by rw [sth_ne (by decide)]; exact hr0 t a b, rfl, d, k + 1, S, l, Q, rfl, hd, SI_c (fun e x y => by rw [e88, us_n (by omega)]) (fun j x y => by rw [sth_ne (by decide)]) hSI, by rw [e88, us_s]; omega, by omega, ?_, hx4, hus, ?_, rfl⟩
      · rw [hTT, dfP_skip ((hus k zk).mp zm)]
        exact Iff.rfl
      · rw [e88]
        have := msr_u (O := g 88) (of := (HL.length : Int)) (v := (k : Int) + 1) (d := d) (by omega) (by omega) (by omega)
        have hpos : 0 < 10 ^ (8 - d) := Nat.pow_pos (by decide)
        omega
  · rintro n1 n3 x3 x4 x5 x6 g ⟨hf, hr0, rfl, d, k, S, S1, l, Q, rfl, hd, hSI, hk, hkl, hnm, hS1, hS1b, hm1, hTT, hx4, hus, hms, h6, rfl, h60, hrow⟩
    refine ⟨fun c => ?_, fun c => ⟨⟨by omega, by omega⟩, ⟨by omega, by omega⟩, by omega, by omega, ⟨by omega, by omega⟩, (10 - (x6 + 1)).toNat, by omega, ⟨fun q a1 a2 a3 a4 a5 => by rw [sth_ne a5]; exact hf.1 q a1 a2 a3 a4 a5, fun i a => by rw [sth_ne (by decide)]; exact hf.2 i a⟩, fun t a b => by rw [sth_eq, us_n (by omega)]; exact hr0 t a b, rfl, d, k, S, S1, l, Q, rfl, hd, SI_c (fun e x y => by rw [sth_ne (by decide)]) (fun j x y => by rw [sth_eq, us_n (by omega)]) hSI, by rw [sth_ne (by decide)]; exact hk, hkl, hnm, hS1, hS1b, by rw [sth_ne (by decide)]; exact hm1, hTT, hx4, hus, by rw [sth_ne (by decide)]; exact hms, by omega, rfl, fun t a b => by rw [sth_ne (by decide)]; exact h60 t a b, fun t a b => ?_⟩⟩
    · obtain ⟨c', hc'⟩ : ∃ c', mn - d = c' + 1 := ⟨mn - d - 1, by omega⟩
      have hc2 : mn - (d + 1) = c' := by omega
      refine ⟨msr (g 88) (HL.length : Int) (d + 1) + 1, ?_, hf, hr0, Or.inr (Or.inr ⟨rfl, d + 1, S1, HL.getD k 0 :: l, Q ∨ dfP P HL (mn - d) S l ((k : Int) + 1), rfl, hd, ⟨⟨S, l, Q, k, hSI, hk, hkl, hnm, hS1, rfl, Iff.rfl⟩, hS1b, fun t a b => hrow t a (by omega)⟩, by rw [hm1]; omega, ?_, hx4, hus, rfl⟩)⟩
      · simp only [msr]
        rw [hm1]
        have e1 : ((HL.length : Int) - -1).toNat ≤ 9 := by omega
        have e2 := Nat.mul_le_mul_right (10 ^ (7 - d)) e1
        have e3 : 10 ^ (8 - d) = 10 * 10 ^ (7 - d) := by
          rw [show 8 - d = (7 - d) + 1 by omega, Nat.pow_succ, Nat.mul_comm]
        have e4 : 0 < 10 ^ (7 - d) := Nat.pow_pos (by decide)
        omega
      · rw [hm1, hTT, hc', hc2, dfP_take hkl hnm (by rw [hS1]; exact hS1b.1.1), hS1]
        show _ ↔ (Q ∨ _) ∨ dfP P HL c' S1 (HL.getD k 0 :: l) (-1 + 1)
        constructor
        · rintro (u | u | u)
          · exact Or.inl (Or.inl u)
          · exact Or.inr u
          · exact Or.inl (Or.inr u)
        · rintro ((u | u) | u)
          · exact Or.inl u
          · exact Or.inr (Or.inr u)
          · exact Or.inr (Or.inl u)
    · rw [sth_eq]
      by_cases e : t = x6
      · rw [e, us_s]; exact h60 x6 h6.1 (by omega)
      · rw [us_n (by omega)]; exact hrow t a (by omega)
def S_X9_show (h : HP) (K : Int → HP → Prop) : Prop := (mHOK h ∧ mfOK h ∧ MSOK h) ∧ ∀ (r : Int) (h' : HP), (∀ q, q ≠ 60 → q ≠ 82 → q ≠ 86 → q ≠ 87 → q ≠ 88 → q ≠ 89 → q ≠ 55 → h' q = h q) → (∀ i : Int, i ≠ 47 → h' 55 i = h 55 i) → mHOK h' → (∀ t : Int, 0 ≤ t → t < 10 → h' 60 t = h 60 t) → shL (PM h) r → K r h'
set_option maxRecDepth 100000 in
set_option maxHeartbeats 4000000 in
theorem v_X9_show (w : WD)  (h : HP) (K : Int → HP → Prop) 
    (I1 : Nat → Int → Int → HP → Prop)
    (I2 : Nat → Int → Int → HP → Prop)
    (I3 : Nat → Int → Int → HP → Prop)
    (H : (∃ m : Nat, I1 m 0 0 h))
    (H1 : ∀ (n1 : Nat) (x1 : Int) (x2 : Int) (g1 : HP), I1 n1 x1 x2 g1 → (((g1 55 33) ≤ x2 → (∃ m : Nat, I2 m x1 0 g1)) ∧ (¬ (g1 55 33) ≤ x2 → ((iR (5 * x2)) ∧ ((0 ≤ (5 * x2) ∧ (5 * x2) < 40) ∧ ((¬ (g1 79 (5 * x2)) = 0 → ((iR (x2 + 1)) ∧ (∃ m : Nat, m < n1 ∧ I1 m x1 (x2 + 1) g1))) ∧ ((g1 79 (5 * x2)) = 0 → ((0 ≤ x1 ∧ x1 < 8) ∧ ((iR (x1 + 1)) ∧ ((iR (x2 + 1)) ∧ (∃ m : Nat, m < n1 ∧ I1 m (x1 + 1) (x2 + 1) (sth g1 87 x1 x2))))))))))))
    (H2 : ∀ (n2 : Nat) (x1 : Int) (x2 : Int) (g2 : HP), I2 n2 x1 x2 g2 → ((10 ≤ x2 → (S_X9_layBars g2 (fun h22 => (∃ m : Nat, I3 m x1 1 h22)))) ∧ (¬ 10 ≤ x2 → ((0 ≤ x2 ∧ x2 < 10) ∧ ((0 ≤ x2 ∧ x2 < 80) ∧ ((iR (x2 + 1)) ∧ (∃ m : Nat, m < n2 ∧ I2 m x1 (x2 + 1) (sth g2 89 x2 (g2 60 x2)))))))))
    (H3 : ∀ (n3 : Nat) (x1 : Int) (x2 : Int) (g3 : HP), I3 n3 x1 x2 g3 → ((x1 < x2 → K (-4) g3) ∧ (¬ x1 < x2 → (S_X9_shows x2 x1 g3 (fun r21 h21 => ((r21 = 0 → ((iR (x2 + 1)) ∧ (∃ m : Nat, m < n3 ∧ I3 m x1 (x2 + 1) h21))) ∧ (¬ r21 = 0 → K x2 h21))))))) :
    Ev w Y_X9_show 0 [some (vR 55), none, none] [] h (rI K) := by
  have L3 : ∀ (n3 : Nat) (x1 : Int) (x2 : Int) (g3 : HP), I3 n3 x1 x2 g3 → Ev w Y_X9_show 71 [some (vR 55), some (vI x1), some (vI x2)] [] g3 (rI K) := by
    intro n3
    induction n3 using Nat.strongRecOn with
    | ind n3 ih3 =>
      intro x1 x2 g3 H
      have H := H3 n3 x1 x2 g3 H
      refine e_iload_n (pc := 71) dX9_show_71 rfl rfl ?_
      refine e_iload_n (pc := 72) dX9_show_72 rfl rfl ?_
      refine e_icmp_gt (pc := 73) (tgt := 93) dX9_show_73 (by decide) (fun c1 => ?_) (fun c1 => ?_)
      · have H := H.1 c1
        refine e_bipush (pc := 93) dX9_show_93 ⟨by decide, by decide⟩ (by decide) ?_
        exact e_ret (pc := 95) (v := some (vI (-4))) dX9_show_95 rfl trivial ⟨_, rfl, H⟩
      · have H := H.2 c1
        refine e_aload_n (pc := 76) dX9_show_76 rfl rfl ?_
        refine e_iload_n (pc := 77) dX9_show_77 rfl rfl ?_
        refine e_iload_n (pc := 78) dX9_show_78 rfl rfl ?_
        refine e_invV (pc := 79) (Y' := Y_X9_shows) (as := [vI x2, vI x1]) (st := []) (lv0 := [some (vR 55), some (vI x2), some (vI x1), none, none, none, none]) (q := 55) (ci := 9) (T := TX9) (N := 52) dX9_show_79 m_X9_shows ul_6_78 ⟨ul_6_80, us_X9_shows⟩ ⟨rfl, rfl⟩ rfl rfl rfl rfl rfl rfl rfl (c_X9_shows w x2 x1 g3 _ H) ?_
        rintro _ h21 ⟨r21, rfl, H⟩
        show Ev w Y_X9_show 82 [some (vR 55), some (vI x1), some (vI x2)] [vI r21] h21 (rI K)
        refine e_if_eq (pc := 82) (tgt := 87) dX9_show_82 (by decide) (fun c2 => ?_) (fun c2 => ?_)
        · have H := H.1 c2
          refine e_iinc (lv' := [some (vR 55), some (vI x1), some (vI (x2 + 1))]) (pc := 87) dX9_show_87 rfl H.1 rfl rfl ?_
          have H := H.2
          refine e_goto (pc := 90) (tgt := 71) dX9_show_90 (by decide) ?_
          obtain ⟨m, hm, H⟩ := H
          exact ih3 m hm _ _ _ H
        · have H := H.2 c2
          refine e_iload_n (pc := 85) dX9_show_85 rfl rfl ?_
          exact e_ret (pc := 86) (v := some (vI x2)) dX9_show_86 rfl trivial ⟨_, rfl, H⟩
  have L2 : ∀ (n2 : Nat) (x1 : Int) (x2 : Int) (g2 : HP), I2 n2 x1 x2 g2 → Ev w Y_X9_show 41 [some (vR 55), some (vI x1), some (vI x2)] [] g2 (rI K) := by
    intro n2
    induction n2 using Nat.strongRecOn with
    | ind n2 ih2 =>
      intro x1 x2 g2 H
      have H := H2 n2 x1 x2 g2 H
      refine e_iload_n (pc := 41) dX9_show_41 rfl rfl ?_
      refine e_bipush (pc := 42) dX9_show_42 ⟨by decide, by decide⟩ (by decide) ?_
      refine e_icmp_ge (pc := 44) (tgt := 65) dX9_show_44 (by decide) (fun c3 => ?_) (fun c3 => ?_)
      · have H := H.1 c3
        refine e_aload_n (pc := 65) dX9_show_65 rfl rfl ?_
        refine e_invV (pc := 66) (Y' := Y_X9_layBars) (as := []) (st := []) (lv0 := [some (vR 55), none]) (q := 55) (ci := 9) (T := TX9) (N := 52) dX9_show_66 m_X9_layBars ul_6_15 ⟨ul_6_17, us_X9_layBars⟩ ⟨rfl, rfl⟩ rfl rfl rfl rfl rfl rfl rfl (c_X9_layBars w g2 _ H) ?_
        rintro _ h22 ⟨rfl, H⟩
        show Ev w Y_X9_show 69 [some (vR 55), some (vI x1), some (vI x2)] [] h22 (rI K)
        refine e_iconst (pc := 69) dX9_show_69 ⟨by decide, by decide⟩ ?_
        refine e_istore_n (lv' := [some (vR 55), some (vI x1), some (vI 1)]) (pc := 70) dX9_show_70 rfl rfl rfl ?_
        obtain ⟨m, H⟩ := H
        exact L3 m _ _ _ H
      · have H := H.2 c3
        refine e_aload_n (pc := 47) dX9_show_47 rfl rfl ?_
        refine e_getR (q := 55) (ci := 9) (k := 51) (y := 89) (C := RX9) (T := TX9) (N := 52) (pc := 48) dX9_show_48 rfl rfl ev_in9 rfl ul_4_233 ⟨rfl, rfl⟩ rfl ?_
        refine e_iload_n (pc := 51) dX9_show_51 rfl rfl ?_
        refine e_aload_n (pc := 52) dX9_show_52 rfl rfl ?_
        refine e_getR (q := 55) (ci := 9) (k := 5) (y := 60) (C := RX9) (T := TX9) (N := 52) (pc := 53) dX9_show_53 rfl rfl ev_in9 rfl ul_4_187 ⟨rfl, rfl⟩ rfl ?_
        refine e_iload_n (pc := 56) dX9_show_56 rfl rfl ?_
        refine e_iald (q := 60) (x := (g2 60 x2)) (pc := 57) dX9_show_57 rfl H.1 rfl ?_
        have H := H.2
        refine e_iast (q := 89) (pc := 58) dX9_show_58 rfl H.1 ?_
        have H := H.2
        refine e_iinc (lv' := [some (vR 55), some (vI x1), some (vI (x2 + 1))]) (pc := 59) dX9_show_59 rfl H.1 rfl rfl ?_
        have H := H.2
        refine e_goto (pc := 62) (tgt := 41) dX9_show_62 (by decide) ?_
        obtain ⟨m, hm, H⟩ := H
        exact ih2 m hm _ _ _ H
  have L1 : ∀ (n1 : Nat) (x1 : Int) (x2 : Int) (g1 : HP), I1 n1 x1 x2 g1 → Ev w Y_X9_show 4 [some (vR 55), some (vI x1), some (vI x2)] [] g1 (rI K) := by
    intro n1
    induction n1 using Nat.strongRecOn with
    | ind n1 ih1 =>
      intro x1 x2 g1 H
      have H := H1 n1 x1 x2 g1 H
      refine e_iload_n (pc := 4) dX9_show_4 rfl rfl ?_
      refine e_aload_n (pc := 5) dX9_show_5 rfl rfl ?_
      refine e_getI (q := 55) (ci := 9) (k := 33) (kz := 33) (C := RX9) (T := TX9) (N := 52) (x := (g1 55 33)) (pc := 6) dX9_show_6 rfl rfl rfl ev_in9 rfl ul_4_215 ⟨rfl, by decide⟩ rfl ?_
      refine e_icmp_ge (pc := 9) (tgt := 39) dX9_show_9 (by decide) (fun c4 => ?_) (fun c4 => ?_)
      · have H := H.1 c4
        refine e_iconst (pc := 39) dX9_show_39 ⟨by decide, by decide⟩ ?_
        refine e_istore_n (lv' := [some (vR 55), some (vI x1), some (vI 0)]) (pc := 40) dX9_show_40 rfl rfl rfl ?_
        obtain ⟨m, H⟩ := H
        exact L2 m _ _ _ H
      · have H := H.2 c4
        refine e_aload_n (pc := 12) dX9_show_12 rfl rfl ?_
        refine e_getR (q := 55) (ci := 9) (k := 34) (y := 79) (C := RX9) (T := TX9) (N := 52) (pc := 13) dX9_show_13 rfl rfl ev_in9 rfl ul_4_216 ⟨rfl, rfl⟩ rfl ?_
        refine e_iconst (pc := 16) dX9_show_16 ⟨by decide, by decide⟩ ?_
        refine e_iload_n (pc := 17) dX9_show_17 rfl rfl ?_
        refine e_imul (pc := 18) dX9_show_18 H.1 ?_
        have H := H.2
        refine e_iald (q := 79) (x := (g1 79 (5 * x2))) (pc := 19) dX9_show_19 rfl H.1 rfl ?_
        have H := H.2
        refine e_if_ne (pc := 20) (tgt := 33) dX9_show_20 (by decide) (fun c5 => ?_) (fun c5 => ?_)
        · have H := H.1 c5
          refine e_iinc (lv' := [some (vR 55), some (vI x1), some (vI (x2 + 1))]) (pc := 33) dX9_show_33 rfl H.1 rfl rfl ?_
          have H := H.2
          refine e_goto (pc := 36) (tgt := 4) dX9_show_36 (by decide) ?_
          obtain ⟨m, hm, H⟩ := H
          exact ih1 m hm _ _ _ H
        · have H := H.2 c5
          refine e_aload_n (pc := 23) dX9_show_23 rfl rfl ?_
          refine e_getR (q := 55) (ci := 9) (k := 49) (y := 87) (C := RX9) (T := TX9) (N := 52) (pc := 24) dX9_show_24 rfl rfl ev_in9 rfl ul_4_231 ⟨rfl, rfl⟩ rfl ?_
          refine e_iload_n (pc := 27) dX9_show_27 rfl rfl ?_
          refine e_iload_n (pc := 28) dX9_show_28 rfl rfl ?_
          refine e_iast (q := 87) (pc := 29) dX9_show_29 rfl H.1 ?_
          have H := H.2
          refine e_iinc (lv' := [some (vR 55), some (vI (x1 + 1)), some (vI x2)]) (pc := 30) dX9_show_30 rfl H.1 rfl rfl ?_
          have H := H.2
          refine e_iinc (lv' := [some (vR 55), some (vI (x1 + 1)), some (vI (x2 + 1))]) (pc := 33) dX9_show_33 rfl H.1 rfl rfl ?_
          have H := H.2
          refine e_goto (pc := 36) (tgt := 4) dX9_show_36 (by decide) ?_
          obtain ⟨m, hm, H⟩ := H
          exact ih1 m hm _ _ _ H
  refine e_iconst (pc := 0) dX9_show_0 ⟨by decide, by decide⟩ ?_
  refine e_istore_n (lv' := [some (vR 55), some (vI 0), none]) (pc := 1) dX9_show_1 rfl rfl rfl ?_
  refine e_iconst (pc := 2) dX9_show_2 ⟨by decide, by decide⟩ ?_
  refine e_istore_n (lv' := [some (vR 55), some (vI 0), some (vI 0)]) (pc := 3) dX9_show_3 rfl rfl rfl ?_
  obtain ⟨m, H⟩ := H
  exact L1 m _ _ _ H
set_option maxRecDepth 100000 in
set_option maxHeartbeats 4000000 in
theorem c_X9_show (w : WD)  (h : HP) (K : Int → HP → Prop)  (H : S_X9_show  h K) : Ev w Y_X9_show 0 [some (vR 55), none, none] [] h (rI K) := by
  obtain ⟨⟨hH, hF, hS⟩, HK⟩ := H
  have h33 := hS.1
  have hP := pOK_M hH hS
  have hH0 := hH.1
  generalize hLd : wkP (fun s => h 79 (5 * s) = 0) (h 55 33).toNat = HL at *
  have hHL : ∀ s : Int, s ∈ HL ↔ pHr (PM h) s := fun s => by
    rw [← hLd]
    exact ⟨fun y => by have := wkP_m _ _ _ y; exact ⟨by show 0 ≤ s ∧ s < h 55 33; omega, this.2⟩, fun y => wkP_i (by have : 0 ≤ s ∧ s < h 55 33 := y.1; omega) y.2⟩
  have hL8 : HL.length ≤ 8 := by have := wkP_l (fun s => h 79 (5 * s) = 0) (h 55 33).toNat; rw [hLd] at this; omega
  have hnd : HL.Nodup := by rw [← hLd]; exact wkP_nd _ _
  have hdg : ∀ t : Int, 0 ≤ t → t < 10 → dgt (pack (h 60) 10) t = h 60 t := fun t a b => dgt_pack (in3_60 hH) a b
  have hz : zS h (pack (h 60) 10) := fun t a b => by rw [hdg t (by omega) b]; exact hH.2.2.1 t a b
  refine v_X9_show w h K
    (fun n x1 x2 g => ∃ k : Nat, x2 = (k : Int) ∧ (k : Int) ≤ h 55 33 ∧ n = 8 - k ∧ (∀ q, q ≠ 87 → g q = h q) ∧ x1 = ((wkP (fun s => h 79 (5 * s) = 0) k).length : Int) ∧ rwH (g 87) (wkP (fun s => h 79 (5 * s) = 0) k))
    (fun n x1 x2 g => (0 ≤ x2 ∧ x2 ≤ 10) ∧ n = (10 - x2).toNat ∧ (∀ q, q ≠ 87 → q ≠ 89 → g q = h q) ∧ x1 = (HL.length : Int) ∧ rwH (g 87) HL ∧ ∀ t : Int, 0 ≤ t → t < x2 → g 89 t = h 60 t)
    (fun n x1 x2 g => (1 ≤ x2 ∧ x2 ≤ (HL.length : Int) + 1) ∧ n = (10 - x2).toNat ∧ (∀ q, q ≠ 60 → q ≠ 82 → q ≠ 86 → q ≠ 87 → q ≠ 88 → q ≠ 89 → q ≠ 55 → g q = h q) ∧ (∀ i : Int, i ≠ 47 → g 55 i = h 55 i) ∧ mHOK g ∧ (∀ t : Int, 0 ≤ t → t < 10 → g 60 t = h 60 t) ∧ x1 = (HL.length : Int) ∧ rwH (g 87) HL ∧ (∀ t : Int, 0 ≤ t → t < 10 → g 89 t = h 60 t) ∧ (∀ k : Int, 0 ≤ k → k < h 70 1 → g 82 k = b2i (mBar h k)) ∧ ∀ m : Nat, (m : Int) < x2 → ¬ dfP (PM h) HL m (pack (h 60) 10) [] 0)
    ⟨8, 0, rfl, by omega, rfl, fun _ _ => rfl, rfl, fun i hi => absurd hi (by simp [wkP])⟩ ?_ ?_ ?_
  · rintro n x1 x2 g ⟨k, rfl, hk, rfl, hg, rfl, hr⟩
    have hwl := wkP_l (fun s => h 79 (5 * s) = 0) k
    rw [hg 55 (by decide), hg 79 (by decide)]
    refine ⟨fun c => ⟨10, by omega, rfl, fun q a _ => hg q a, ?_, ?_, fun t a b => by omega⟩, fun c => ⟨⟨by omega, by omega⟩, by omega, fun z => ⟨⟨by omega, by omega⟩, 8 - (k + 1), by omega, k + 1, by omega, by omega, rfl, hg, by rw [wkP_f (p := fun s => h 79 (5 * s) = 0) z], by rw [wkP_f (p := fun s => h 79 (5 * s) = 0) z]; exact hr⟩, fun z => ⟨by omega, ⟨by omega, by omega⟩, ⟨by omega, by omega⟩, 8 - (k + 1), by omega, k + 1, by omega, by omega, rfl, fun q a => by rw [sth_ne a]; exact hg q a, by rw [wkP_t (p := fun s => h 79 (5 * s) = 0) z, List.length_append, List.length_singleton]; omega, by rw [wkP_t (p := fun s => h 79 (5 * s) = 0) z, sth_eq]; exact rwH_a hr⟩⟩⟩
    · rw [show k = (h 55 33).toNat by omega, hLd]
    · rw [show k = (h 55 33).toNat by omega, hLd] at hr; exact hr
  · rintro n x1 x2 g ⟨h2, rfl, hg, rfl, hr, h89⟩
    refine ⟨fun c => ⟨⟨by unfold mfOK; rw [hg 70 (by decide) (by decide), hg 71 (by decide) (by decide)]; exact hF, mHOK_c (by rw [hg 55 (by decide) (by decide)]) (hg _ (by decide) (by decide)) (hg _ (by decide) (by decide)) (hg _ (by decide) (by decide)) (hg _ (by decide) (by decide)) (hg _ (by decide) (by decide)) hH⟩, fun g1 f1 f2 => ⟨9, by omega, rfl, fun q a1 a2 a3 a4 a5 a6 a7 => by rw [f1 q a2]; exact hg q a4 a6, fun i a => by rw [f1 55 (by decide), hg 55 (by decide) (by decide)], mHOK_c (by rw [f1 55 (by decide), hg 55 (by decide) (by decide)]) (by rw [f1 _ (by decide)]; exact hg _ (by decide) (by decide)) (by rw [f1 _ (by decide)]; exact hg _ (by decide) (by decide)) (by rw [f1 _ (by decide)]; exact hg _ (by decide) (by decide)) (by rw [f1 _ (by decide)]; exact hg _ (by decide) (by decide)) (by rw [f1 _ (by decide)]; exact hg _ (by decide) (by decide)) hH, fun t a b => by rw [f1 60 (by decide), hg 60 (by decide) (by decide)], rfl, by rw [f1 87 (by decide)]; exact hr, fun t a b => by rw [f1 89 (by decide)]; exact h89 t a (by omega), fun k a b => ?_, fun m hm => ?_⟩⟩, fun c => ⟨by omega, by omega, ⟨by omega, by omega⟩, (10 - (x2 + 1)).toNat, by omega, by omega, rfl, fun q a b => by rw [sth_ne b]; exact hg q a b, rfl, by rw [sth_ne (by decide)]; exact hr, fun t a b => ?_⟩⟩
    · rw [f2 k a (by rw [hg 70 (by decide) (by decide)]; exact b)]
      exact b2i_c (mBar_c (hg _ (by decide) (by decide)) (hg _ (by decide) (by decide)) (hg _ (by decide) (by decide)) (hg _ (by decide) (by decide)))
    · rw [show m = 0 by omega]; exact fun y => y
    · rw [sth_eq]
      by_cases e : t = x2
      · rw [e, us_s, hg 60 (by decide) (by decide)]
      · rw [us_n e]; exact h89 t a (by omega)
  · rintro n x1 x2 g ⟨h2, rfl, hg, hg55, hHg, h60, rfl, hr, h89, h82, hno⟩
    refine ⟨fun c => HK (-4) g hg hg55 hHg h60 (Or.inl ⟨rfl, fun m hm => ?_⟩), fun c => ?_⟩
    · have hb := Brl_b hP hHL hm
      exact hno (m + 1) (by omega) ((dfP_iff hHL (m + 1)).mpr ⟨m, by omega, hm⟩)
    · have efr : fwN h = fwM g := by
        have e79 : g 79 = h 79 := hg _ (by decide) (by decide) (by decide) (by decide) (by decide) (by decide) (by decide)
        have e70 : g 70 = h 70 := hg _ (by decide) (by decide) (by decide) (by decide) (by decide) (by decide) (by decide)
        have w1 : wkM g = wkM h := by funext t v; unfold wkM; rw [e79, hg55 33 (by decide)]
        have w2 : BRm g = fun S' => mNB h (h 60) (dgt S') := by
          funext S
          have q2 : ∀ i : Int, mBar h i ↔ mBrF h i (h 60) := fun i => mBar_F rfl rfl rfl
          have q1 : ∀ i : Int, mBrF g i (dgt S) ↔ mBrF h i (dgt S) := fun i => by
            unfold mBrF
            rw [hg 71 (by decide) (by decide) (by decide) (by decide) (by decide) (by decide) (by decide), hg 62 (by decide) (by decide) (by decide) (by decide) (by decide) (by decide) (by decide), hg 56 (by decide) (by decide) (by decide) (by decide) (by decide) (by decide) (by decide)]
          unfold BRm mNB
          rw [e70]
          refine propext ⟨fun ⟨i, b1, b2, b3, b4⟩ => ⟨i, b1, b2, (q1 i).mp b4, fun y => by rw [h82 i b1 b2, b2i_0] at b3; exact b3 ((q2 i).mpr y)⟩, fun ⟨i, b1, b2, b3, b4⟩ => ⟨i, b1, b2, by rw [h82 i b1 b2, b2i_0]; exact fun y => b4 ((q2 i).mp y), (q1 i).mpr b3⟩⟩
        funext s S
        unfold fwN fwM
        rw [e79, w1, w2]
      refine ⟨PM h, HL, ⟨hHg, by unfold mfOK; rw [hg 70 (by decide) (by decide) (by decide) (by decide) (by decide) (by decide) (by decide), hg 71 (by decide) (by decide) (by decide) (by decide) (by decide) (by decide) (by decide)]; exact hF, by unfold MSOK; rw [hg55 33 (by decide), hg55 0 (by decide), hg 79 (by decide) (by decide) (by decide) (by decide) (by decide) (by decide) (by decide)]; exact hS, rfl, hL8, hr, fun s hs => by rw [hg55 33 (by decide)]; exact ((hHL s).mp hs).1, hnd, efr, ⟨inS_pack (in3_60 hH), fun t a b => hz t (by rw [hg55 0 (by decide)] at a; exact a) b⟩, by omega, fun t a b => by rw [h89 t a b]; exact (hdg t a b).symm⟩, fun g2 p1 p2 p3 p4 => ?_⟩
      have hg2 : ∀ q, q ≠ 60 → q ≠ 82 → q ≠ 86 → q ≠ 87 → q ≠ 88 → q ≠ 89 → q ≠ 55 → g2 q = h q := fun q a1 a2 a3 a4 a5 a6 a7 => by rw [p1.1 q a1 a3 a7 a5 a6]; exact hg q a1 a2 a3 a4 a5 a6 a7
      have hg255 : ∀ i : Int, i ≠ 47 → g2 55 i = h 55 i := fun i a => by rw [p1.2 i a]; exact hg55 i a
      have h602 : ∀ t : Int, 0 ≤ t → t < 10 → g2 60 t = h 60 t := fun t a b => by rw [p3 t a b]; exact hdg t a b
      refine ⟨fun z => ⟨⟨by omega, by omega⟩, (10 - (x2 + 1)).toNat, by omega, by omega, rfl, hg2, hg255, p2, h602, rfl, by rw [p1.1 87 (by decide) (by decide) (by decide) (by decide) (by decide)]; exact hr, fun t a b => by rw [p4 t a b]; exact h89 t a b, fun k a b => by rw [p1.1 82 (by decide) (by decide) (by decide) (by decide) (by decide)]; exact h82 k a b, fun m hm => ?_⟩, fun z => ?_⟩
      · by_cases e : (m : Int) = x2
        · have := b2i_0.mp z
          rw [← e, Int.toNat_natCast] at this
          exact this
        · exact hno m (by omega)
      · have hd : dfP (PM h) HL x2.toNat (pack (h 60) 10) [] 0 := Classical.byContradiction (fun y => z (b2i_f y))
        obtain ⟨m, hm, hb⟩ := (dfP_iff hHL x2.toNat).mp hd
        have hmx : (m : Int) + 1 = x2 := by
          have : ¬ (m : Int) + 1 < x2 := fun y => hno (m + 1) (by omega) ((dfP_iff hHL (m + 1)).mpr ⟨m, by omega, hb⟩)
          omega
        refine HK x2 g2 hg2 hg255 p2 h602 (Or.inr ⟨m, by omega, hb, fun j hj y => hno (j + 1) (by omega) ((dfP_iff hHL (j + 1)).mpr ⟨j, by omega, y⟩)⟩)
