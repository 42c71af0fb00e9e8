/-! the reference: hear -/
theorem jshl16 {n : Int} (hn : 1 ≤ n ∧ n ≤ 8) : jshl 1 (4 * n) = 16 ^ n.toNat := by
  obtain ⟨k, rfl⟩ : ∃ k : Nat, n = (k : Int) := ⟨n.toNat, by omega⟩
  have h1 : 2 ^ (4 * k) ≤ 2 ^ 32 := Nat.pow_le_pow_right (by decide) (by omega)
  rw [show (4 * (k : Int)) = ((4 * k : Nat) : Int) by omega, show (1 : Int) = ((1 : Nat) : Int) from rfl, jshl_n (by decide) (by omega) (by omega), Nat.one_mul, Nat.pow_mul, Int.natCast_pow]
  rfl
theorem p16_8 {n : Int} (hn : 1 ≤ n ∧ n ≤ 8) : (1 : Int) ≤ 16 ^ n.toNat ∧ (16 : Int) ^ n.toNat ≤ 4294967296 := by
  obtain ⟨k, rfl⟩ : ∃ k : Nat, n = (k : Int) := ⟨n.toNat, by omega⟩
  have h1 : 16 ^ k ≤ 16 ^ 8 := Nat.pow_le_pow_right (by decide) (by omega)
  have h2 : 1 ≤ 16 ^ k := Nat.one_le_pow _ _ (by decide)
  have e : ((16 ^ k : Nat) : Int) = (16 : Int) ^ k := by rw [Int.natCast_pow]; rfl
  rw [Int.toNat_natCast]
  omega
def okH (fo su n v : Int) : Prop := (0 ≤ fo ∧ fo ≤ 5) ∧ (0 ≤ su ∧ su ≤ 100) ∧ (1 ≤ n ∧ n ≤ 8) ∧ (0 ≤ v ∧ v < 16 ^ n.toNat)
/-- the reference after the sounds are laid -/
def hrS (fo su n v : Int) (h g : HP) (x : Int) : Prop := (∀ q, q ≠ 55 → q ≠ 84 → g q = h q) ∧ (∀ i : Int, i ≠ 20 → i ≠ 21 → i ≠ 22 → i ≠ 44 → g 55 i = h 55 i) ∧ g 55 20 = 1 ∧ g 55 21 = fo ∧ g 55 22 = b2i (¬ h 68 2 ≤ su) ∧ g 55 44 = n ∧ (∀ j : Int, 0 ≤ j → j < x → g 84 j = nib v (n - 1 - j)) ∧ (∀ j : Int, x ≤ j → g 84 j = h 84 j)
def hrL (fo su n v : Int) (h h1 : HP) : Prop := ∃ g : HP, hrS fo su n v h g n ∧ frT g h1 ∧ rpM h1 (rl1 (g 64) (prM g) (g 68 0) (g 55 10).toNat (g 55 10).toNat R0)
noncomputable def mnX (h : HP) (i : Int) : Int := mnS h (h 73 (3 * i)) (h 73 (3 * i + 1)) (h 73 (3 * i + 2))
theorem mnS_c {h g : HP} (h1 : g 55 = h 55) (h2 : g 64 = h 64) (h3 : g 57 = h 57) (h4 : g 65 = h 65) (h5 : g 56 = h 56) (h6 : g 62 = h 62) (a b c : Int) : mnS g a b c = mnS h a b c := by
  unfold mnS
  refine bset_c (fun t _ _ => ?_)
  unfold mnQ
  rw [h1, h2, h3, h4, h5, h6]
def opN (h : HP) (mg i : Int) : Prop := ¬ h 74 i = 0 ∧ h 72 i ≤ h 72 (fsN (fun j => ¬ h 74 j = 0) (h 55 23).toNat) + mg
def S_X9_hear (fo su n v : Int) (h : HP) (K : Int → HP → Prop) : Prop := (mHOK h ∧ mVOK h ∧ (0 ≤ h 55 28 ∧ h 55 28 < 1024) ∧ (0 ≤ h 68 1 ∧ h 68 1 ≤ 1000) ∧ (∀ j : Int, 0 ≤ j → j < 8 → 0 ≤ h 84 j ∧ h 84 j ≤ 15)) ∧ (¬ okH fo su n v → K (-1) h) ∧ (okH fo su n v → (¬ 0 ≤ h 62 fo → K (-2) h) ∧ (0 ≤ h 62 fo → ∀ h1 h' : HP, hrL fo su n v h h1 → (∀ q, q ≠ 74 → q ≠ 75 → h' q = h1 q) → (∀ i : Int, 0 ≤ i → i < h1 55 23 → h' 74 i = mnX h1 i) → (∀ i : Int, i < 0 ∨ h1 55 23 ≤ i → h' 74 i = h1 74 i) → (∀ i : Int, 0 ≤ i → i < h1 55 23 → h' 75 i = b2i (opN h' (h 68 1) i)) → (∀ i : Int, i < 0 ∨ h1 55 23 ≤ i → h' 75 i = h1 75 i) → K (h1 55 23) h'))
/-- what is known once the readings are laid -/
theorem hrL_f {fo su n v : Int} {h h1 : HP} (hH : mHOK h) (hV : mVOK h) (h28 : 0 ≤ h 55 28 ∧ h 55 28 < 1024) (h84 : ∀ j : Int, 0 ≤ j → j < 8 → 0 ≤ h 84 j ∧ h 84 j ≤ 15) (hok : okH fo su n v) (hl : hrL fo su n v h h1) : mHOK h1 ∧ mVOK h1 ∧ h1 68 = h 68 ∧ (0 ≤ h1 55 23 ∧ h1 55 23 ≤ 12) ∧ (∀ i : Int, 0 ≤ i → i < h1 55 23 → (0 ≤ h1 72 i ∧ h1 72 i ≤ 1000) ∧ mnP h1 (h1 73 (3 * i)) (h1 73 (3 * i + 1)) (h1 73 (3 * i + 2))) := by
  obtain ⟨g, ⟨s1, s2, s3, s4, s5, s6, s7, s8⟩, hf, hr⟩ := hl
  have h16 := hV.1
  have g10 : g 55 10 = h 55 10 := s2 10 (by decide) (by decide) (by decide) (by decide)
  have hVg : mVOK g := by
    unfold mVOK
    rw [g10, s1 64 (by decide) (by decide), s1 65 (by decide) (by decide), s1 66 (by decide) (by decide), s1 67 (by decide) (by decide), s1 63 (by decide) (by decide)]
    exact hV
  have hHg : mHRD g := ⟨by rw [s6]; have := hok.2.2.1; omega, fun j a b => by
    by_cases c : j < n
    · rw [s7 j a c]; exact nib_b _ _
    · rw [s8 j (by omega)]; exact h84 j a b⟩
  have hMg : mHOK g := mHOK_c (s2 0 (by decide) (by decide) (by decide) (by decide)) (s1 _ (by decide) (by decide)) (s1 _ (by decide) (by decide)) (s1 _ (by decide) (by decide)) (s1 _ (by decide) (by decide)) (s1 _ (by decide) (by decide)) hH
  have hM1 : mHOK h1 := mHOK_c (hf.2 0 (by decide) (by decide)) (frT_q hf _ (by decide)) (frT_q hf _ (by decide)) (frT_q hf _ (by decide)) (frT_q hf _ (by decide)) (frT_q hf _ (by decide)) hMg
  have hR := rl1_ok (KD := g 64) (lim := g 68 0) (prM_g hVg hHg) (R0_ok (g 64) _) (Nat.le_refl (g 55 10).toNat)
  refine ⟨hM1, frT_V hf hVg, by rw [frT_q hf 68 (by decide), s1 68 (by decide) (by decide)], ⟨by rw [hr.1]; omega, by rw [hr.1]; have := hr.2.1; omega⟩, fun i a b => ?_⟩
  rw [hr.1] at b
  have e := hr.2.2 i a b
  have k := hR i a b
  rw [e.1, e.2.1, e.2.2.1, e.2.2.2]
  refine ⟨k.1, by omega, by omega, ?_, ?_, ?_⟩
  · unfold nc; split <;> omega
  · rw [hf.2 21 (by decide) (by decide), s4]; have := hok.1; omega
  · rw [hf.2 28 (by decide) (by decide), s2 28 (by decide) (by decide) (by decide) (by decide)]; exact h28
set_option maxRecDepth 100000 in
set_option maxHeartbeats 4000000 in
theorem v_X9_hear (w : WD) (fo : Int) (su : Int) (n : Int) (v : Int) (h : HP) (K : Int → HP → Prop) 
    (I1 : Nat → Int → HP → Prop)
    (I2 : Nat → Int → Int → HP → Prop)
    (I3 : Nat → Int → Int → HP → Prop)
    (H : ((((¬ (0 ≤ fo ∧ fo ≤ 5) → True) ∧ ((0 ≤ fo ∧ fo ≤ 5) → ((¬ (0 ≤ su ∧ su ≤ 100) → True) ∧ ((0 ≤ su ∧ su ≤ 100) → ((¬ (1 ≤ n ∧ n ≤ 8) → True) ∧ ((1 ≤ n ∧ n ≤ 8) → ((iR (4 * n)) ∧ ((lR ((jshl 1 (4 * n)) - 1)) ∧ True))))))))) ∧ (((((0 ≤ fo ∧ fo ≤ 5)) ∧ (((0 ≤ su ∧ su ≤ 100)) ∧ (((1 ≤ n ∧ n ≤ 8)) ∧ ((0 ≤ v ∧ v ≤ ((jshl 1 (4 * n)) - 1)))))) → ((0 ≤ fo ∧ fo < 6) ∧ ((0 ≤ (h 62 fo) → (∃ m : Nat, I1 m 0 (sth (sth (sth (sth h 55 20 1) 55 21 fo) 55 22 (b2i (¬ (h 68 2) ≤ su))) 55 44 n))) ∧ (¬ 0 ≤ (h 62 fo) → K (-2) h)))) ∧ (¬ (((0 ≤ fo ∧ fo ≤ 5)) ∧ (((0 ≤ su ∧ su ≤ 100)) ∧ (((1 ≤ n ∧ n ≤ 8)) ∧ ((0 ≤ v ∧ v ≤ ((jshl 1 (4 * n)) - 1)))))) → K (-1) h))))
    (H1 : ∀ (n1 : Nat) (x6 : Int) (g1 : HP), I1 n1 x6 g1 → ((n ≤ x6 → (S_X9_layReadings g1 (fun h21 => (∃ m : Nat, I2 m (-4) 0 h21)))) ∧ (¬ n ≤ x6 → ((iR (n - 1)) ∧ ((iR ((n - 1) - x6)) ∧ ((iR (4 * ((n - 1) - x6))) ∧ ((0 ≤ x6 ∧ x6 < 8) ∧ ((iR (x6 + 1)) ∧ (∃ m : Nat, m < n1 ∧ I1 m (x6 + 1) (sth g1 84 x6 (j2i (jand (jshr v (4 * ((n - 1) - x6))) 15))))))))))))
    (H2 : ∀ (n2 : Nat) (x6 : Int) (x7 : Int) (g2 : HP), I2 n2 x6 x7 g2 → (((g2 55 23) ≤ x7 → (∃ m : Nat, I3 m x6 0 g2)) ∧ (¬ (g2 55 23) ≤ x7 → ((iR (3 * x7)) ∧ ((0 ≤ (3 * x7) ∧ (3 * x7) < 36) ∧ ((iR (3 * x7)) ∧ ((iR ((3 * x7) + 1)) ∧ ((0 ≤ ((3 * x7) + 1) ∧ ((3 * x7) + 1) < 36) ∧ ((iR (3 * x7)) ∧ ((iR ((3 * x7) + 2)) ∧ ((0 ≤ ((3 * x7) + 2) ∧ ((3 * x7) + 2) < 36) ∧ ((mHOK g2 ∧ mnP g2 (g2 73 (3 * x7)) (g2 73 ((3 * x7) + 1)) (g2 73 ((3 * x7) + 2))) ∧ ((0 ≤ x7 ∧ x7 < 12) ∧ ((0 ≤ x7 ∧ x7 < 12) ∧ ((((((sth g2 74 x7 (mnS g2 (g2 73 (3 * x7)) (g2 73 ((3 * x7) + 1)) (g2 73 ((3 * x7) + 2)))) 74 x7) = 0 → True) ∧ (¬ ((sth g2 74 x7 (mnS g2 (g2 73 (3 * x7)) (g2 73 ((3 * x7) + 1)) (g2 73 ((3 * x7) + 2)))) 74 x7) = 0 → ((¬ x6 = (-4) → True) ∧ (x6 = (-4) → ((0 ≤ x7 ∧ x7 < 12) ∧ True)))))) ∧ ((iR (x7 + 1)) ∧ (∃ m : Nat, m < n2 ∧ I2 m (cif (((sth g2 74 x7 (mnS g2 (g2 73 (3 * x7)) (g2 73 ((3 * x7) + 1)) (g2 73 ((3 * x7) + 2)))) 74 x7) = 0) x6 (cif (¬ x6 = (-4)) x6 (g2 72 x7))) (x7 + 1) (sth g2 74 x7 (mnS g2 (g2 73 (3 * x7)) (g2 73 ((3 * x7) + 1)) (g2 73 ((3 * x7) + 2)))))))))))))))))))))
    (H3 : ∀ (n3 : Nat) (x6 : Int) (x7 : Int) (g3 : HP), I3 n3 x6 x7 g3 → (((g3 55 23) ≤ x7 → K (g3 55 23) g3) ∧ (¬ (g3 55 23) ≤ x7 → ((0 ≤ x7 ∧ x7 < 12) ∧ (((((g3 74 x7) = 0 → True) ∧ (¬ (g3 74 x7) = 0 → ((0 ≤ x7 ∧ x7 < 12) ∧ ((iR (x6 + (g3 68 1))) ∧ True))))) ∧ ((0 ≤ x7 ∧ x7 < 12) ∧ ((iR (x7 + 1)) ∧ (∃ m : Nat, m < n3 ∧ I3 m x6 (x7 + 1) (sth g3 75 x7 (b2i ((¬ (g3 74 x7) = 0) ∧ (¬ (x6 + (g3 68 1)) < (g3 72 x7))))))))))))) :
    Ev w Y_X9_hear 0 [some (vR 55), some (vI fo), some (vI su), some (vI n), some (vL v), none, none, none] [] h (rI K) := by
  have L3 : ∀ (n3 : Nat) (x6 : Int) (x7 : Int) (g3 : HP), I3 n3 x6 x7 g3 → Ev w Y_X9_hear 240 [some (vR 55), none, none, none, none, none, some (vI x6), some (vI x7)] [] g3 (rI K) := by
    intro n3
    induction n3 using Nat.strongRecOn with
    | ind n3 ih3 =>
      intro x6 x7 g3 H
      have H := H3 n3 x6 x7 g3 H
      refine e_iload (pc := 240) dX9_hear_240 rfl ?_
      refine e_aload_n (pc := 242) dX9_hear_242 rfl rfl ?_
      refine e_getI (q := 55) (ci := 9) (k := 23) (kz := 23) (C := RX9) (T := TX9) (N := 52) (x := (g3 55 23)) (pc := 243) dX9_hear_243 rfl rfl rfl ev_in9 rfl ul_4_205 ⟨rfl, by decide⟩ rfl ?_
      refine e_icmp_ge (pc := 246) (tgt := 296) dX9_hear_246 (by decide) (fun c7 => ?_) (fun c7 => ?_)
      · have H := H.1 c7
        refine e_aload_n (pc := 296) dX9_hear_296 rfl rfl ?_
        refine e_getI (q := 55) (ci := 9) (k := 23) (kz := 23) (C := RX9) (T := TX9) (N := 52) (x := (g3 55 23)) (pc := 297) dX9_hear_297 rfl rfl rfl ev_in9 rfl ul_4_205 ⟨rfl, by decide⟩ rfl ?_
        exact e_ret (pc := 300) (v := some (vI (g3 55 23))) dX9_hear_300 rfl trivial ⟨_, rfl, H⟩
      · have H := H.2 c7
        refine e_aload_n (pc := 249) dX9_hear_249 rfl rfl ?_
        refine e_getR (q := 55) (ci := 9) (k := 27) (y := 75) (C := RX9) (T := TX9) (N := 52) (pc := 250) dX9_hear_250 rfl rfl ev_in9 rfl ul_4_209 ⟨rfl, rfl⟩ rfl ?_
        refine e_iload (pc := 253) dX9_hear_253 rfl ?_
        refine e_aload_n (pc := 255) dX9_hear_255 rfl rfl ?_
        refine e_getR (q := 55) (ci := 9) (k := 26) (y := 74) (C := RX9) (T := TX9) (N := 52) (pc := 256) dX9_hear_256 rfl rfl ev_in9 rfl ul_4_208 ⟨rfl, rfl⟩ rfl ?_
        refine e_iload (pc := 259) dX9_hear_259 rfl ?_
        refine e_iald (q := 74) (x := (g3 74 x7)) (pc := 261) dX9_hear_261 rfl H.1 rfl ?_
        have H := H.2
        have J : Ev w Y_X9_hear 289 [some (vR 55), none, none, none, none, none, some (vI x6), some (vI x7)] [vI (b2i ((¬ (g3 74 x7) = 0) ∧ (¬ (x6 + (g3 68 1)) < (g3 72 x7)))), vI x7, vR 75] g3 (rI K) := by
          have H := H.2
          refine e_zast (q := 75) (pc := 289) dX9_hear_289 rfl H.1 (b2i_01 _) ?_
          have H := H.2
          refine e_iinc (lv' := [some (vR 55), none, none, none, none, none, some (vI x6), some (vI (x7 + 1))]) (pc := 290) dX9_hear_290 rfl H.1 rfl rfl ?_
          have H := H.2
          refine e_goto (pc := 293) (tgt := 240) dX9_hear_293 (by decide) ?_
          obtain ⟨m, hm, H⟩ := H
          exact ih3 m hm _ _ _ H
        have Ho := H.1
        refine e_if_eq (pc := 262) (tgt := 288) dX9_hear_262 (by decide) (fun c8 => ?_) (fun c8 => ?_)
        · have Ho := Ho.1 c8
          refine e_iconst (pc := 288) dX9_hear_288 ⟨by decide, by decide⟩ ?_
          exact e_top (b2i_f (fun z => (fun z => z c8) z.1)) J
        · have Ho := Ho.2 c8
          refine e_aload_n (pc := 265) dX9_hear_265 rfl rfl ?_
          refine e_getR (q := 55) (ci := 9) (k := 24) (y := 72) (C := RX9) (T := TX9) (N := 52) (pc := 266) dX9_hear_266 rfl rfl ev_in9 rfl ul_4_206 ⟨rfl, rfl⟩ rfl ?_
          refine e_iload (pc := 269) dX9_hear_269 rfl ?_
          refine e_iald (q := 72) (x := (g3 72 x7)) (pc := 271) dX9_hear_271 rfl Ho.1 rfl ?_
          have Ho := Ho.2
          refine e_iload (pc := 272) dX9_hear_272 rfl ?_
          refine e_aload_n (pc := 274) dX9_hear_274 rfl rfl ?_
          refine e_getR (q := 55) (ci := 9) (k := 15) (y := 68) (C := RX9) (T := TX9) (N := 52) (pc := 275) dX9_hear_275 rfl rfl ev_in9 rfl ul_4_197 ⟨rfl, rfl⟩ rfl ?_
          refine e_iconst (pc := 278) dX9_hear_278 ⟨by decide, by decide⟩ ?_
          refine e_iald (q := 68) (x := (g3 68 1)) (pc := 279) dX9_hear_279 rfl ⟨by decide, by decide⟩ rfl ?_
          refine e_iadd (pc := 280) dX9_hear_280 Ho.1 ?_
          have Ho := Ho.2
          refine e_icmp_gt (pc := 281) (tgt := 288) dX9_hear_281 (by decide) (fun c9 => ?_) (fun c9 => ?_)
          · refine e_iconst (pc := 288) dX9_hear_288 ⟨by decide, by decide⟩ ?_
            exact e_top (b2i_f (fun z => (fun z => z c9) z.2)) J
          · refine e_iconst (pc := 284) dX9_hear_284 ⟨by decide, by decide⟩ ?_
            refine e_goto (pc := 285) (tgt := 289) dX9_hear_285 (by decide) ?_
            exact e_top (b2i_t ⟨c8, c9⟩) J
  have L2 : ∀ (n2 : Nat) (x6 : Int) (x7 : Int) (g2 : HP), I2 n2 x6 x7 g2 → Ev w Y_X9_hear 149 [some (vR 55), none, none, none, none, none, some (vI x6), some (vI x7)] [] g2 (rI K) := by
    intro n2
    induction n2 using Nat.strongRecOn with
    | ind n2 ih2 =>
      intro x6 x7 g2 H
      have H := H2 n2 x6 x7 g2 H
      refine e_iload (pc := 149) dX9_hear_149 rfl ?_
      refine e_aload_n (pc := 151) dX9_hear_151 rfl rfl ?_
      refine e_getI (q := 55) (ci := 9) (k := 23) (kz := 23) (C := RX9) (T := TX9) (N := 52) (x := (g2 55 23)) (pc := 152) dX9_hear_152 rfl rfl rfl ev_in9 rfl ul_4_205 ⟨rfl, by decide⟩ rfl ?_
      refine e_icmp_ge (pc := 155) (tgt := 237) dX9_hear_155 (by decide) (fun c10 => ?_) (fun c10 => ?_)
      · have H := H.1 c10
        refine e_iconst (pc := 237) dX9_hear_237 ⟨by decide, by decide⟩ ?_
        refine e_istore (lv' := [some (vR 55), none, none, none, none, none, some (vI x6), some (vI 0)]) (pc := 238) dX9_hear_238 rfl rfl ?_
        obtain ⟨m, H⟩ := H
        exact L3 m _ _ _ H
      · have H := H.2 c10
        refine e_aload_n (pc := 158) dX9_hear_158 rfl rfl ?_
        refine e_getR (q := 55) (ci := 9) (k := 26) (y := 74) (C := RX9) (T := TX9) (N := 52) (pc := 159) dX9_hear_159 rfl rfl ev_in9 rfl ul_4_208 ⟨rfl, rfl⟩ rfl ?_
        refine e_iload (pc := 162) dX9_hear_162 rfl ?_
        refine e_aload_n (pc := 164) dX9_hear_164 rfl rfl ?_
        refine e_aload_n (pc := 165) dX9_hear_165 rfl rfl ?_
        refine e_getR (q := 55) (ci := 9) (k := 25) (y := 73) (C := RX9) (T := TX9) (N := 52) (pc := 166) dX9_hear_166 rfl rfl ev_in9 rfl ul_4_207 ⟨rfl, rfl⟩ rfl ?_
        refine e_iconst (pc := 169) dX9_hear_169 ⟨by decide, by decide⟩ ?_
        refine e_iload (pc := 170) dX9_hear_170 rfl ?_
        refine e_imul (pc := 172) dX9_hear_172 H.1 ?_
        have H := H.2
        refine e_iald (q := 73) (x := (g2 73 (3 * x7))) (pc := 173) dX9_hear_173 rfl H.1 rfl ?_
        have H := H.2
        refine e_aload_n (pc := 174) dX9_hear_174 rfl rfl ?_
        refine e_getR (q := 55) (ci := 9) (k := 25) (y := 73) (C := RX9) (T := TX9) (N := 52) (pc := 175) dX9_hear_175 rfl rfl ev_in9 rfl ul_4_207 ⟨rfl, rfl⟩ rfl ?_
        refine e_iconst (pc := 178) dX9_hear_178 ⟨by decide, by decide⟩ ?_
        refine e_iload (pc := 179) dX9_hear_179 rfl ?_
        refine e_imul (pc := 181) dX9_hear_181 H.1 ?_
        have H := H.2
        refine e_iconst (pc := 182) dX9_hear_182 ⟨by decide, by decide⟩ ?_
        refine e_iadd (pc := 183) dX9_hear_183 H.1 ?_
        have H := H.2
        refine e_iald (q := 73) (x := (g2 73 ((3 * x7) + 1))) (pc := 184) dX9_hear_184 rfl H.1 rfl ?_
        have H := H.2
        refine e_aload_n (pc := 185) dX9_hear_185 rfl rfl ?_
        refine e_getR (q := 55) (ci := 9) (k := 25) (y := 73) (C := RX9) (T := TX9) (N := 52) (pc := 186) dX9_hear_186 rfl rfl ev_in9 rfl ul_4_207 ⟨rfl, rfl⟩ rfl ?_
        refine e_iconst (pc := 189) dX9_hear_189 ⟨by decide, by decide⟩ ?_
        refine e_iload (pc := 190) dX9_hear_190 rfl ?_
        refine e_imul (pc := 192) dX9_hear_192 H.1 ?_
        have H := H.2
        refine e_iconst (pc := 193) dX9_hear_193 ⟨by decide, by decide⟩ ?_
        refine e_iadd (pc := 194) dX9_hear_194 H.1 ?_
        have H := H.2
        refine e_iald (q := 73) (x := (g2 73 ((3 * x7) + 2))) (pc := 195) dX9_hear_195 rfl H.1 rfl ?_
        have H := H.2
        refine e_invV (pc := 196) (Y' := Y_X9_meaning) (as := [vI (g2 73 (3 * x7)), vI (g2 73 ((3 * x7) + 1)), vI (g2 73 ((3 * x7) + 2))]) (st := [vI x7, vR 74]) (lv0 := [some (vR 55), some (vI (g2 73 (3 * x7))), some (vI (g2 73 ((3 * x7) + 1))), some (vI (g2 73 ((3 * x7) + 2))), none, none, none, none]) (q := 55) (ci := 9) (T := TX9) (N := 52) dX9_hear_196 m_X9_meaning ul_5_217 ⟨ul_5_219, us_X9_meaning⟩ ⟨rfl, rfl⟩ rfl rfl rfl rfl rfl rfl rfl (c_X9_meaning w (g2 73 (3 * x7)) (g2 73 ((3 * x7) + 1)) (g2 73 ((3 * x7) + 2)) g2 H.1) ?_
        rintro _ hz ⟨_, rfl, rfl, hh⟩
        rw [hh]
        show Ev w Y_X9_hear 199 [some (vR 55), none, none, none, none, none, some (vI x6), some (vI x7)] [vI (mnS g2 (g2 73 (3 * x7)) (g2 73 ((3 * x7) + 1)) (g2 73 ((3 * x7) + 2))), vI x7, vR 74] g2 (rI K)
        have H := H.2
        refine e_iast (q := 74) (pc := 199) dX9_hear_199 rfl H.1 ?_
        have H := H.2
        refine e_aload_n (pc := 200) dX9_hear_200 rfl rfl ?_
        refine e_getR (q := 55) (ci := 9) (k := 26) (y := 74) (C := RX9) (T := TX9) (N := 52) (pc := 201) dX9_hear_201 rfl rfl ev_in9 rfl ul_4_208 ⟨rfl, rfl⟩ rfl ?_
        refine e_iload (pc := 204) dX9_hear_204 rfl ?_
        refine e_iald (q := 74) (x := ((sth g2 74 x7 (mnS g2 (g2 73 (3 * x7)) (g2 73 ((3 * x7) + 1)) (g2 73 ((3 * x7) + 2)))) 74 x7)) (pc := 206) dX9_hear_206 rfl H.1 rfl ?_
        have H := H.2
        have J : Ev w Y_X9_hear 229 [some (vR 55), none, none, none, none, none, some (vI x6), some (vI x7)] [vI (cif (((sth g2 74 x7 (mnS g2 (g2 73 (3 * x7)) (g2 73 ((3 * x7) + 1)) (g2 73 ((3 * x7) + 2)))) 74 x7) = 0) x6 (cif (¬ x6 = (-4)) x6 (g2 72 x7)))] (sth g2 74 x7 (mnS g2 (g2 73 (3 * x7)) (g2 73 ((3 * x7) + 1)) (g2 73 ((3 * x7) + 2)))) (rI K) := by
          have H := H.2
          refine e_istore (lv' := [some (vR 55), none, none, none, none, none, some (vI (cif (((sth g2 74 x7 (mnS g2 (g2 73 (3 * x7)) (g2 73 ((3 * x7) + 1)) (g2 73 ((3 * x7) + 2)))) 74 x7) = 0) x6 (cif (¬ x6 = (-4)) x6 (g2 72 x7)))), some (vI x7)]) (pc := 229) dX9_hear_229 rfl rfl ?_
          refine e_iinc (lv' := [some (vR 55), none, none, none, none, none, some (vI (cif (((sth g2 74 x7 (mnS g2 (g2 73 (3 * x7)) (g2 73 ((3 * x7) + 1)) (g2 73 ((3 * x7) + 2)))) 74 x7) = 0) x6 (cif (¬ x6 = (-4)) x6 (g2 72 x7)))), some (vI (x7 + 1))]) (pc := 231) dX9_hear_231 rfl H.1 rfl rfl ?_
          have H := H.2
          refine e_goto (pc := 234) (tgt := 149) dX9_hear_234 (by decide) ?_
          obtain ⟨m, hm, H⟩ := H
          exact ih2 m hm _ _ _ H
        have Ho := H.1
        refine e_if_eq (pc := 207) (tgt := 227) dX9_hear_207 (by decide) (fun c11 => ?_) (fun c11 => ?_)
        · have Ho := Ho.1 c11
          refine e_iload (pc := 227) dX9_hear_227 rfl ?_
          exact e_top (cif_t c11) J
        · have Ho := Ho.2 c11
          refine e_iload (pc := 210) dX9_hear_210 rfl ?_
          refine e_bipush (pc := 212) dX9_hear_212 ⟨by decide, by decide⟩ (by decide) ?_
          refine e_icmp_ne (pc := 214) (tgt := 227) dX9_hear_214 (by decide) (fun c12 => ?_) (fun c12 => ?_)
          · have Ho := Ho.1 c12
            refine e_iload (pc := 227) dX9_hear_227 rfl ?_
            exact e_top ((cif_f c11).trans (cif_t c12)) J
          · have Ho := Ho.2 c12
            refine e_aload_n (pc := 217) dX9_hear_217 rfl rfl ?_
            refine e_getR (q := 55) (ci := 9) (k := 24) (y := 72) (C := RX9) (T := TX9) (N := 52) (pc := 218) dX9_hear_218 rfl rfl ev_in9 rfl ul_4_206 ⟨rfl, rfl⟩ rfl ?_
            refine e_iload (pc := 221) dX9_hear_221 rfl ?_
            refine e_iald (q := 72) (x := (g2 72 x7)) (pc := 223) dX9_hear_223 rfl Ho.1 rfl ?_
            have Ho := Ho.2
            refine e_goto (pc := 224) (tgt := 229) dX9_hear_224 (by decide) ?_
            exact e_top ((cif_f c11).trans (cif_f (fun z => z c12))) J
  have L1 : ∀ (n1 : Nat) (x6 : Int) (g1 : HP), I1 n1 x6 g1 → Ev w Y_X9_hear 103 [some (vR 55), none, none, some (vI n), some (vL v), none, some (vI x6), none] [] g1 (rI K) := by
    intro n1
    induction n1 using Nat.strongRecOn with
    | ind n1 ih1 =>
      intro x6 g1 H
      have H := H1 n1 x6 g1 H
      refine e_iload (pc := 103) dX9_hear_103 rfl ?_
      refine e_iload_n (pc := 105) dX9_hear_105 rfl rfl ?_
      refine e_icmp_ge (pc := 106) (tgt := 138) dX9_hear_106 (by decide) (fun c13 => ?_) (fun c13 => ?_)
      · have H := H.1 c13
        refine e_aload_n (pc := 138) dX9_hear_138 rfl rfl ?_
        refine e_invV (pc := 139) (Y' := Y_X9_layReadings) (as := []) (st := []) (lv0 := [some (vR 55), none, none, none]) (q := 55) (ci := 9) (T := TX9) (N := 52) dX9_hear_139 m_X9_layReadings ul_5_198 ⟨ul_5_200, us_X9_layReadings⟩ ⟨rfl, rfl⟩ rfl rfl rfl rfl rfl rfl rfl (c_X9_layReadings w g1 _ H) ?_
        rintro _ h21 ⟨rfl, H⟩
        show Ev w Y_X9_hear 142 [some (vR 55), none, none, some (vI n), some (vL v), none, some (vI x6), none] [] h21 (rI K)
        refine e_bipush (pc := 142) dX9_hear_142 ⟨by decide, by decide⟩ (by decide) ?_
        refine e_istore (lv' := [some (vR 55), none, none, some (vI n), some (vL v), none, some (vI (-4)), none]) (pc := 144) dX9_hear_144 rfl rfl ?_
        refine e_iconst (pc := 146) dX9_hear_146 ⟨by decide, by decide⟩ ?_
        refine e_istore (lv' := [some (vR 55), none, none, some (vI n), some (vL v), none, some (vI (-4)), some (vI 0)]) (pc := 147) dX9_hear_147 rfl rfl ?_
        refine e_mask [true, false, false, false, false, false, true, true] rfl ?_
        obtain ⟨m, H⟩ := H
        exact L2 m _ _ _ H
      · have H := H.2 c13
        refine e_aload_n (pc := 109) dX9_hear_109 rfl rfl ?_
        refine e_getR (q := 55) (ci := 9) (k := 45) (y := 84) (C := RX9) (T := TX9) (N := 52) (pc := 110) dX9_hear_110 rfl rfl ev_in9 rfl ul_4_227 ⟨rfl, rfl⟩ rfl ?_
        refine e_iload (pc := 113) dX9_hear_113 rfl ?_
        refine e_lload (pc := 115) dX9_hear_115 rfl ?_
        refine e_iconst (pc := 117) dX9_hear_117 ⟨by decide, by decide⟩ ?_
        refine e_iload_n (pc := 118) dX9_hear_118 rfl rfl ?_
        refine e_iconst (pc := 119) dX9_hear_119 ⟨by decide, by decide⟩ ?_
        refine e_isub (pc := 120) dX9_hear_120 H.1 ?_
        have H := H.2
        refine e_iload (pc := 121) dX9_hear_121 rfl ?_
        refine e_isub (pc := 123) dX9_hear_123 H.1 ?_
        have H := H.2
        refine e_imul (pc := 124) dX9_hear_124 H.1 ?_
        have H := H.2
        refine e_lshr (pc := 125) dX9_hear_125 ?_
        refine e_ldc2 (x := 15) (pc := 126) dX9_hear_126 ul_5_127 ⟨by decide, by decide⟩ ?_
        refine e_land (pc := 129) dX9_hear_129 ?_
        refine e_l2i (pc := 130) dX9_hear_130 ?_
        refine e_iast (q := 84) (pc := 131) dX9_hear_131 rfl H.1 ?_
        have H := H.2
        refine e_iinc (lv' := [some (vR 55), none, none, some (vI n), some (vL v), none, some (vI (x6 + 1)), none]) (pc := 132) dX9_hear_132 rfl H.1 rfl rfl ?_
        have H := H.2
        refine e_goto (pc := 135) (tgt := 103) dX9_hear_135 (by decide) ?_
        obtain ⟨m, hm, H⟩ := H
        exact ih1 m hm _ _ H
  refine e_iload_n (pc := 0) dX9_hear_0 rfl rfl ?_
  refine e_i2l (pc := 1) dX9_hear_1 ?_
  refine e_lconst (x := 0) (pc := 2) dX9_hear_2 ⟨by decide, by decide⟩ (by decide) ?_
  refine e_ldc2 (x := 5) (pc := 3) dX9_hear_3 ul_5_113 ⟨by decide, by decide⟩ ?_
  refine e_invS (pc := 6) (Y' := Y_X9_in) (as := [vL fo, vL 0, vL 5]) (st := []) (lv0 := [some (vL fo), none, some (vL 0), none, some (vL 5), none]) dX9_hear_6 m_X9_in ul_5_104 ul_5_105 ⟨rfl, rfl⟩ rfl rfl rfl rfl rfl (c_X9_in w fo 0 5 h) ?_
  rintro _ hz ⟨_, rfl, rfl, hh⟩
  rw [hh]
  show Ev w Y_X9_hear 9 [some (vR 55), some (vI fo), some (vI su), some (vI n), some (vL v), none, none, none] [vI (b2i (0 ≤ fo ∧ fo ≤ 5))] h (rI K)
  have Ho := H.1
  have H := H.2
  have J1 : (((0 ≤ fo ∧ fo ≤ 5)) ∧ (((0 ≤ su ∧ su ≤ 100)) ∧ (((1 ≤ n ∧ n ≤ 8)) ∧ ((0 ≤ v ∧ v ≤ ((jshl 1 (4 * n)) - 1)))))) → Ev w Y_X9_hear 54 [some (vR 55), some (vI fo), some (vI su), some (vI n), some (vL v), none, none, none] [] h (rI K) := by
    intro hp
    have H := H.1 hp
    refine e_aload_n (pc := 54) dX9_hear_54 rfl rfl ?_
    refine e_getR (q := 55) (ci := 9) (k := 7) (y := 62) (C := RX9) (T := TX9) (N := 52) (pc := 55) dX9_hear_55 rfl rfl ev_in9 rfl ul_4_189 ⟨rfl, rfl⟩ rfl ?_
    refine e_iload_n (pc := 58) dX9_hear_58 rfl rfl ?_
    refine e_iald (q := 62) (x := (h 62 fo)) (pc := 59) dX9_hear_59 rfl H.1 rfl ?_
    have H := H.2
    refine e_if_ge (pc := 60) (tgt := 66) dX9_hear_60 (by decide) (fun c1 => ?_) (fun c1 => ?_)
    · have H := H.1 c1
      refine e_aload_n (pc := 66) dX9_hear_66 rfl rfl ?_
      refine e_iconst (pc := 67) dX9_hear_67 ⟨by decide, by decide⟩ ?_
      refine e_put (q := 55) (ci := 9) (k := 20) (kz := 20) (C := RX9) (T := TX9) (N := 52) (ty := .boolean) (pc := 68) dX9_hear_68 rfl rfl rfl ev_in9 tyX9 tyX9_ok nmX9 rfl ul_4_202 ⟨rfl, by decide⟩ rfl (tyX9_ok 20 (by decide)) (Or.inr ⟨rfl, (Or.inr rfl)⟩) ?_
      refine e_aload_n (pc := 71) dX9_hear_71 rfl rfl ?_
      refine e_iload_n (pc := 72) dX9_hear_72 rfl rfl ?_
      refine e_put (q := 55) (ci := 9) (k := 21) (kz := 21) (C := RX9) (T := TX9) (N := 52) (ty := .int) (pc := 73) dX9_hear_73 rfl rfl rfl ev_in9 tyX9 tyX9_ok nmX9 rfl ul_4_203 ⟨rfl, by decide⟩ rfl (tyX9_ok 21 (by decide)) (Or.inl rfl) ?_
      refine e_aload_n (pc := 76) dX9_hear_76 rfl rfl ?_
      refine e_iload_n (pc := 77) dX9_hear_77 rfl rfl ?_
      refine e_aload_n (pc := 78) dX9_hear_78 rfl rfl ?_
      refine e_getR (q := 55) (ci := 9) (k := 15) (y := 68) (C := RX9) (T := TX9) (N := 52) (pc := 79) dX9_hear_79 rfl rfl ev_in9 rfl ul_4_197 ⟨rfl, rfl⟩ rfl ?_
      refine e_iconst (pc := 82) dX9_hear_82 ⟨by decide, by decide⟩ ?_
      refine e_iald (q := 68) (x := (h 68 2)) (pc := 83) dX9_hear_83 rfl ⟨by decide, by decide⟩ rfl ?_
      have J : Ev w Y_X9_hear 92 [some (vR 55), some (vI fo), some (vI su), some (vI n), some (vL v), none, none, none] [vI (b2i (¬ (h 68 2) ≤ su)), vR 55] (sth (sth h 55 20 1) 55 21 fo) (rI K) := by
        refine e_put (q := 55) (ci := 9) (k := 22) (kz := 22) (C := RX9) (T := TX9) (N := 52) (ty := .boolean) (pc := 92) dX9_hear_92 rfl rfl rfl ev_in9 tyX9 tyX9_ok nmX9 rfl ul_4_204 ⟨rfl, by decide⟩ rfl (tyX9_ok 22 (by decide)) (Or.inr ⟨rfl, (b2i_01 _)⟩) ?_
        refine e_aload_n (pc := 95) dX9_hear_95 rfl rfl ?_
        refine e_iload_n (pc := 96) dX9_hear_96 rfl rfl ?_
        refine e_put (q := 55) (ci := 9) (k := 44) (kz := 44) (C := RX9) (T := TX9) (N := 52) (ty := .int) (pc := 97) dX9_hear_97 rfl rfl rfl ev_in9 tyX9 tyX9_ok nmX9 rfl ul_4_226 ⟨rfl, by decide⟩ rfl (tyX9_ok 44 (by decide)) (Or.inl rfl) ?_
        refine e_iconst (pc := 100) dX9_hear_100 ⟨by decide, by decide⟩ ?_
        refine e_istore (lv' := [some (vR 55), some (vI fo), some (vI su), some (vI n), some (vL v), none, some (vI 0), none]) (pc := 101) dX9_hear_101 rfl rfl ?_
        refine e_mask [true, false, false, true, true, false, true, false] rfl ?_
        obtain ⟨m, H⟩ := H
        exact L1 m _ _ H
      refine e_icmp_ge (pc := 84) (tgt := 91) dX9_hear_84 (by decide) (fun c2 => ?_) (fun c2 => ?_)
      · refine e_iconst (pc := 91) dX9_hear_91 ⟨by decide, by decide⟩ ?_
        exact e_top (b2i_f (fun z => z c2)) J
      · refine e_iconst (pc := 87) dX9_hear_87 ⟨by decide, by decide⟩ ?_
        refine e_goto (pc := 88) (tgt := 92) dX9_hear_88 (by decide) ?_
        exact e_top (b2i_t c2) J
    · have H := H.2 c1
      refine e_bipush (pc := 63) dX9_hear_63 ⟨by decide, by decide⟩ (by decide) ?_
      exact e_ret (pc := 65) (v := some (vI (-2))) dX9_hear_65 rfl trivial ⟨_, rfl, H⟩
  have J2 : ¬ (((0 ≤ fo ∧ fo ≤ 5)) ∧ (((0 ≤ su ∧ su ≤ 100)) ∧ (((1 ≤ n ∧ n ≤ 8)) ∧ ((0 ≤ v ∧ v ≤ ((jshl 1 (4 * n)) - 1)))))) → Ev w Y_X9_hear 52 [some (vR 55), some (vI fo), some (vI su), some (vI n), some (vL v), none, none, none] [] h (rI K) := by
    intro hp
    have H := H.2 hp
    refine e_iconst (pc := 52) dX9_hear_52 ⟨by decide, by decide⟩ ?_
    exact e_ret (pc := 53) (v := some (vI (-1))) dX9_hear_53 rfl trivial ⟨_, rfl, H⟩
  refine e_ifb_eq (pc := 9) (tgt := 52) dX9_hear_9 (by decide) (fun c3 => ?_) (fun c3 => ?_)
  · have Ho := Ho.1 c3
    exact J2 (fun z => c3 z.1)
  · have Ho := Ho.2 c3
    refine e_iload_n (pc := 12) dX9_hear_12 rfl rfl ?_
    refine e_i2l (pc := 13) dX9_hear_13 ?_
    refine e_lconst (x := 0) (pc := 14) dX9_hear_14 ⟨by decide, by decide⟩ (by decide) ?_
    refine e_ldc2 (x := 100) (pc := 15) dX9_hear_15 ul_5_108 ⟨by decide, by decide⟩ ?_
    refine e_invS (pc := 18) (Y' := Y_X9_in) (as := [vL su, vL 0, vL 100]) (st := []) (lv0 := [some (vL su), none, some (vL 0), none, some (vL 100), none]) dX9_hear_18 m_X9_in ul_5_104 ul_5_105 ⟨rfl, rfl⟩ rfl rfl rfl rfl rfl (c_X9_in w su 0 100 h) ?_
    rintro _ hz ⟨_, rfl, rfl, hh⟩
    rw [hh]
    show Ev w Y_X9_hear 21 [some (vR 55), some (vI fo), some (vI su), some (vI n), some (vL v), none, none, none] [vI (b2i (0 ≤ su ∧ su ≤ 100))] h (rI K)
    refine e_ifb_eq (pc := 21) (tgt := 52) dX9_hear_21 (by decide) (fun c4 => ?_) (fun c4 => ?_)
    · have Ho := Ho.1 c4
      exact J2 (fun z => (fun z => c4 z.1) z.2)
    · have Ho := Ho.2 c4
      refine e_iload_n (pc := 24) dX9_hear_24 rfl rfl ?_
      refine e_i2l (pc := 25) dX9_hear_25 ?_
      refine e_lconst (x := 1) (pc := 26) dX9_hear_26 ⟨by decide, by decide⟩ (by decide) ?_
      refine e_ldc2 (x := 8) (pc := 27) dX9_hear_27 ul_5_144 ⟨by decide, by decide⟩ ?_
      refine e_invS (pc := 30) (Y' := Y_X9_in) (as := [vL n, vL 1, vL 8]) (st := []) (lv0 := [some (vL n), none, some (vL 1), none, some (vL 8), none]) dX9_hear_30 m_X9_in ul_5_104 ul_5_105 ⟨rfl, rfl⟩ rfl rfl rfl rfl rfl (c_X9_in w n 1 8 h) ?_
      rintro _ hz ⟨_, rfl, rfl, hh⟩
      rw [hh]
      show Ev w Y_X9_hear 33 [some (vR 55), some (vI fo), some (vI su), some (vI n), some (vL v), none, none, none] [vI (b2i (1 ≤ n ∧ n ≤ 8))] h (rI K)
      refine e_ifb_eq (pc := 33) (tgt := 52) dX9_hear_33 (by decide) (fun c5 => ?_) (fun c5 => ?_)
      · have Ho := Ho.1 c5
        exact J2 (fun z => (fun z => (fun z => c5 z.1) z.2) z.2)
      · have Ho := Ho.2 c5
        refine e_lload (pc := 36) dX9_hear_36 rfl ?_
        refine e_lconst (x := 0) (pc := 38) dX9_hear_38 ⟨by decide, by decide⟩ (by decide) ?_
        refine e_lconst (x := 1) (pc := 39) dX9_hear_39 ⟨by decide, by decide⟩ (by decide) ?_
        refine e_iconst (pc := 40) dX9_hear_40 ⟨by decide, by decide⟩ ?_
        refine e_iload_n (pc := 41) dX9_hear_41 rfl rfl ?_
        refine e_imul (pc := 42) dX9_hear_42 Ho.1 ?_
        have Ho := Ho.2
        refine e_lshl (pc := 43) dX9_hear_43 ?_
        refine e_lconst (x := 1) (pc := 44) dX9_hear_44 ⟨by decide, by decide⟩ (by decide) ?_
        refine e_lsub (pc := 45) dX9_hear_45 Ho.1 ?_
        have Ho := Ho.2
        refine e_invS (pc := 46) (Y' := Y_X9_in) (as := [vL v, vL 0, vL ((jshl 1 (4 * n)) - 1)]) (st := []) (lv0 := [some (vL v), none, some (vL 0), none, some (vL ((jshl 1 (4 * n)) - 1)), none]) dX9_hear_46 m_X9_in ul_5_104 ul_5_105 ⟨rfl, rfl⟩ rfl rfl rfl rfl rfl (c_X9_in w v 0 ((jshl 1 (4 * n)) - 1) h) ?_
        rintro _ hz ⟨_, rfl, rfl, hh⟩
        rw [hh]
        show Ev w Y_X9_hear 49 [some (vR 55), some (vI fo), some (vI su), some (vI n), some (vL v), none, none, none] [vI (b2i (0 ≤ v ∧ v ≤ ((jshl 1 (4 * n)) - 1)))] h (rI K)
        refine e_ifb_ne (pc := 49) (tgt := 54) dX9_hear_49 (by decide) (fun c6 => ?_) (fun c6 => ?_)
        · exact J1 ⟨c3, ⟨c4, ⟨c5, c6⟩⟩⟩
        · exact J2 (fun z => (fun z => (fun z => c6 z.2) z.2) z.2)
set_option maxRecDepth 100000 in
set_option maxHeartbeats 4000000 in
theorem c_X9_hear (w : WD) (fo : Int) (su : Int) (n : Int) (v : Int) (h : HP) (K : Int → HP → Prop)  (H : S_X9_hear fo su n v h K) : Ev w Y_X9_hear 0 [some (vR 55), some (vI fo), some (vI su), some (vI n), some (vL v), none, none, none] [] h (rI K) := by
  obtain ⟨⟨hH, hV, h28, h681, h84⟩, HB, HK⟩ := H
  have hw : (((0 ≤ fo ∧ fo ≤ 5)) ∧ (((0 ≤ su ∧ su ≤ 100)) ∧ (((1 ≤ n ∧ n ≤ 8)) ∧ ((0 ≤ v ∧ v ≤ ((jshl 1 (4 * n)) - 1)))))) ↔ okH fo su n v := by
    unfold okH
    constructor
    · rintro ⟨a, b, c, d⟩
      rw [jshl16 c] at d
      exact ⟨a, b, c, by omega⟩
    · rintro ⟨a, b, c, d⟩
      refine ⟨a, b, c, ?_⟩
      rw [jshl16 c]
      omega
  have fc : okH fo su n v → ∀ h1, hrL fo su n v h h1 → _ := fun hok h1 hl => hrL_f hH hV h28 h84 hok hl
  refine v_X9_hear w fo su n v h K (fun m x6 g => okH fo su n v ∧ 0 ≤ h 62 fo ∧ (0 ≤ x6 ∧ x6 ≤ n) ∧ m = (n - x6).toNat ∧ hrS fo su n v h g x6)
    (fun m x6 x7 g => okH fo su n v ∧ 0 ≤ h 62 fo ∧ ∃ h1 : HP, hrL fo su n v h h1 ∧ ∃ k : Nat, x7 = (k : Int) ∧ (k : Int) ≤ h1 55 23 ∧ m = (12 - x7).toNat ∧ (∀ q, q ≠ 74 → g q = h1 q) ∧ (∀ i : Int, 0 ≤ i → i < (k : Int) → g 74 i = mnX h1 i) ∧ (∀ i : Int, i < 0 ∨ (k : Int) ≤ i → g 74 i = h1 74 i) ∧ ((x6 = -4 ∧ ∀ i : Int, 0 ≤ i → i < (k : Int) → g 74 i = 0) ∨ ∃ f : Nat, f < k ∧ x6 = h1 72 (f : Int) ∧ ¬ g 74 (f : Int) = 0 ∧ ∀ i : Int, 0 ≤ i → i < (f : Int) → g 74 i = 0))
    (fun m x6 x7 g => okH fo su n v ∧ 0 ≤ h 62 fo ∧ ∃ h1 h2 : HP, hrL fo su n v h h1 ∧ (∀ q, q ≠ 74 → h2 q = h1 q) ∧ (∀ i : Int, 0 ≤ i → i < h1 55 23 → h2 74 i = mnX h1 i) ∧ (∀ i : Int, i < 0 ∨ h1 55 23 ≤ i → h2 74 i = h1 74 i) ∧ ((x6 = -4 ∧ ∀ i : Int, 0 ≤ i → i < h1 55 23 → h2 74 i = 0) ∨ ((0 ≤ x6 ∧ x6 ≤ 1000) ∧ x6 = h2 72 (fsN (fun j => ¬ h2 74 j = 0) (h2 55 23).toNat))) ∧ ∃ k : Nat, x7 = (k : Int) ∧ (k : Int) ≤ h1 55 23 ∧ m = (12 - x7).toNat ∧ (∀ q, q ≠ 75 → g q = h2 q) ∧ (∀ i : Int, 0 ≤ i → i < (k : Int) → g 75 i = b2i (opN h2 (h 68 1) i)) ∧ (∀ i : Int, i < 0 ∨ (k : Int) ≤ i → g 75 i = h1 75 i))
    ⟨⟨fun _ => trivial, fun _ => ⟨fun _ => trivial, fun _ => ⟨fun _ => trivial, fun c => ⟨⟨by omega, by omega⟩, ?_, trivial⟩⟩⟩⟩, fun c => ?_, fun c => HB (fun z => c (hw.mpr z))⟩ ?_ ?_ ?_
  · rw [jshl16 c]
    have := p16_8 c
    exact ⟨by omega, by omega⟩
  · have hok := hw.mp c
    refine ⟨by omega, fun z => ⟨n.toNat, hok, z, by omega, by omega, fun q a b => by rw [sth_ne a, sth_ne a, sth_ne a, sth_ne a], fun i a1 a2 a3 a4 => by rw [sth_eq, us_n a4, sth_eq, us_n a3, sth_eq, us_n a2, sth_eq, us_n a1], ?_, ?_, ?_, ?_, fun j a b => by omega, fun j a => by rw [sth_ne (by decide), sth_ne (by decide), sth_ne (by decide), sth_ne (by decide)]⟩, fun z => (HK hok).1 z⟩
    · rw [sth_eq, us_n (by decide), sth_eq, us_n (by decide), sth_eq, us_n (by decide), sth_eq, us_s]
    · rw [sth_eq, us_n (by decide), sth_eq, us_n (by decide), sth_eq, us_s]
    · rw [sth_eq, us_n (by decide), sth_eq, us_s]
    · rw [sth_eq, us_s]
  · rintro m x6 g ⟨hok, h62, h0, rfl, s1, s2, s3, s4, s5, s6, s7, s8⟩
    have hn := hok.2.2.1
    refine ⟨fun c => ?_, fun c => ⟨⟨by omega, by omega⟩, ⟨by omega, by omega⟩, ⟨by omega, by omega⟩, by omega, ⟨by omega, by omega⟩, (n - (x6 + 1)).toNat, by omega, hok, h62, by omega, rfl, fun q a b => by rw [sth_ne b]; exact s1 q a b, fun i a1 a2 a3 a4 => by rw [sth_ne (by decide)]; exact s2 i a1 a2 a3 a4, by rw [sth_ne (by decide)]; exact s3, by rw [sth_ne (by decide)]; exact s4, by rw [sth_ne (by decide)]; exact s5, by rw [sth_ne (by decide)]; exact s6, fun j a b => ?_, fun j a => by rw [sth_eq, us_n (by omega)]; exact s8 j (by omega)⟩⟩
    · have e : x6 = n := by omega
      subst e
      have g10 : g 55 10 = h 55 10 := s2 10 (by decide) (by decide) (by decide) (by decide)
      refine ⟨⟨?_, by rw [s6]; omega, fun j a b => ?_⟩, fun h1 q1 q2 => ⟨12, hok, h62, h1, ⟨g, ⟨s1, s2, s3, s4, s5, s6, s7, s8⟩, q1, q2⟩, 0, rfl, ?_, rfl, fun _ _ => rfl, fun i a b => by omega, fun _ _ => rfl, Or.inl ⟨rfl, fun i a b => by omega⟩⟩⟩
      · unfold mVOK
        rw [g10, s1 64 (by decide) (by decide), s1 65 (by decide) (by decide), s1 66 (by decide) (by decide), s1 67 (by decide) (by decide), s1 63 (by decide) (by decide)]
        exact hV
      · by_cases c : j < x6
        · rw [s7 j a c]; exact nib_b _ _
        · rw [s8 j (by omega)]; exact h84 j a b
      · rw [q2.1]; omega
    · rw [sth_eq]
      by_cases e : j = x6
      · subst e; rw [us_s]; exact nib_m _ _
      · rw [us_n e]; exact s7 j a (by omega)
  · rintro m x6 x7 g ⟨hok, h62, h1, hl, k, rfl, hk, rfl, hg, hml, hmr, hx⟩
    obtain ⟨hM1, hV1, e68, h23, hrd⟩ := fc hok h1 hl
    have hmn : ∀ a b c, mnS g a b c = mnS h1 a b c := mnS_c (hg _ (by decide)) (hg _ (by decide)) (hg _ (by decide)) (hg _ (by decide)) (hg _ (by decide)) (hg _ (by decide))
    rw [hg 55 (by decide), hg 73 (by decide), hg 72 (by decide), hmn, sth_eq, us_s]
    refine ⟨fun c => ⟨12, hok, h62, h1, g, hl, hg, fun i a b => hml i a (by omega), fun i a => hmr i (by omega), ?_, 0, rfl, by omega, rfl, fun _ _ => rfl, fun i a b => by omega, fun i _ => by rw [hg 75 (by decide)]⟩, fun c => ?_⟩
    · rcases hx with ⟨x, y⟩ | ⟨f, f1, f2, f3, f4⟩
      · exact Or.inl ⟨x, fun i a b => y i a (by omega)⟩
      · refine Or.inr ⟨by rw [f2]; exact (hrd (f : Int) (by omega) (by omega)).1, ?_⟩
        rw [hg 55 (by decide), hg 72 (by decide), fsN_at (k := f) (fun i a b u => u (f4 i a b)) f3 (by omega)]
        exact f2
    · have hp := hrd (k : Int) (by omega) (by omega)
      refine ⟨⟨by omega, by omega⟩, by omega, ⟨by omega, by omega⟩, ⟨by omega, by omega⟩, by omega, ⟨by omega, by omega⟩, ⟨by omega, by omega⟩, by omega, ⟨mHOK_c (by rw [hg 55 (by decide)]) (hg _ (by decide)) (hg _ (by decide)) (hg _ (by decide)) (hg _ (by decide)) (hg _ (by decide)) hM1, ?_⟩, by omega, by omega, ⟨fun _ => trivial, fun _ => ⟨fun _ => trivial, fun _ => ⟨by omega, trivial⟩⟩⟩, ⟨by omega, by omega⟩, (12 - ((k + 1 : Nat) : Int)).toNat, by omega, hok, h62, h1, hl, k + 1, by omega, by omega, by omega, fun q z => by rw [sth_ne z]; exact hg q z, fun i a b => ?_, fun i a => ?_, ?_⟩
      · unfold mnP
        rw [hg 55 (by decide)]
        exact hp.2
      · by_cases e : i = (k : Int)
        · subst e; rw [us_s]; rfl
        · rw [us_n e]; exact hml i a (by omega)
      · rw [us_n (by omega)]; exact hmr i (by omega)
      · by_cases z : mnS h1 (h1 73 (3 * (k : Int))) (h1 73 (3 * (k : Int) + 1)) (h1 73 (3 * (k : Int) + 2)) = 0
        · rw [cif_t z]
          rcases hx with ⟨x, y⟩ | ⟨f, f1, f2, f3, f4⟩
          · refine Or.inl ⟨x, fun i a b => ?_⟩
            by_cases e : i = (k : Int)
            · subst e; rw [us_s]; exact z
            · rw [us_n e]; exact y i a (by omega)
          · exact Or.inr ⟨f, by omega, f2, by rw [us_n (by omega)]; exact f3, fun i a b => by rw [us_n (by omega)]; exact f4 i a b⟩
        · rw [cif_f z]
          rcases hx with ⟨x, y⟩ | ⟨f, f1, f2, f3, f4⟩
          · rw [cif_f (fun u => u x)]
            exact Or.inr ⟨k, by omega, rfl, by rw [us_s]; exact z, fun i a b => by rw [us_n (by omega)]; exact y i a b⟩
          · have := (hrd (f : Int) (by omega) (by omega)).1
            rw [cif_t (by omega)]
            exact Or.inr ⟨f, by omega, f2, by rw [us_n (by omega)]; exact f3, fun i a b => by rw [us_n (by omega)]; exact f4 i a b⟩
  · rintro m x6 x7 g ⟨hok, h62, h1, h2, hl, hg2, hml, hmr, hx, k, rfl, hk, rfl, hg, hol, hor⟩
    obtain ⟨hM1, hV1, e68, h23, hrd⟩ := fc hok h1 hl
    have e23 : h2 55 23 = h1 55 23 := by rw [hg2 55 (by decide)]
    rw [hg 55 (by decide), hg 74 (by decide), hg 68 (by decide), hg 72 (by decide), hg2 68 (by decide), e68, e23]
    refine ⟨fun c => ?_, fun c => ?_⟩
    · refine (HK hok).2 h62 h1 g hl (fun q a b => by rw [hg q b, hg2 q a]) (fun i a b => by rw [hg 74 (by decide)]; exact hml i a b) (fun i a => by rw [hg 74 (by decide)]; exact hmr i a) (fun i a b => ?_) (fun i a => hor i (by omega))
      rw [hol i a (by omega)]
      refine b2i_c ?_
      unfold opN
      rw [hg 74 (by decide), hg 72 (by decide), hg 55 (by decide)]
    · have hv : b2i (¬ h2 74 (k : Int) = 0 ∧ ¬ x6 + h 68 1 < h2 72 (k : Int)) = b2i (opN h2 (h 68 1) (k : Int)) := by
        refine b2i_c ?_
        unfold opN
        rcases hx with ⟨x, y⟩ | ⟨x, y⟩
        · have := y (k : Int) (by omega) (by omega)
          exact ⟨fun u => absurd this u.1, fun u => absurd this u.1⟩
        · rw [← y]
          exact ⟨fun u => ⟨u.1, by omega⟩, fun u => ⟨u.1, by omega⟩⟩
      rw [hv]
      refine ⟨by omega, ⟨fun _ => trivial, fun _ => ⟨by omega, ⟨by omega, by omega⟩, trivial⟩⟩, by omega, ⟨by omega, by omega⟩, (12 - ((k + 1 : Nat) : Int)).toNat, by omega, hok, h62, h1, h2, hl, hg2, hml, hmr, hx, k + 1, by omega, by omega, by omega, fun q z => by rw [sth_ne z]; exact hg q z, fun i a b => ?_, fun i a => ?_⟩
      · rw [sth_eq]
        by_cases e : i = (k : Int)
        · subst e; rw [us_s]
        · rw [us_n e]; exact hol i a (by omega)
      · rw [sth_eq, us_n (by omega)]; exact hor i (by omega)
