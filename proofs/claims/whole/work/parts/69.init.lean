/-! the constructors -/
def fl (N : Nat) (v : Int32) (f : Nat → Int32) : Nat → Int32 := fun j => if j < N then v else f j
def dz (i : Nat) : Nat → Int32 := fun j => if j < 256 then (if j / 16 = j % 16 ∧ j / 16 < i then 0 else 9) else 0
def fz (i : Nat) : Nat → Int32 := fun j => if j < i then (if j / 16 = j % 16 then 0 else 9) else 0
theorem dz_0 : fl 256 (Int32.ofInt 9) (fun _ => 0) = dz 0 := by
  funext j
  unfold fl dz
  by_cases h : j < 256
  · rw [if_pos h, if_pos h, if_neg (by omega)]; decide
  · rw [if_neg h, if_neg h]
theorem dz_s (i : Nat) (hi : i < 16) : upd (dz i) ((i : Int) * 16 + (i : Int)).toNat (Int32.ofInt 0) = dz (i + 1) := by
  funext j
  have e : ((i : Int) * 16 + (i : Int)).toNat = 17 * i := by omega
  rw [e]
  unfold upd dz
  by_cases h : j = 17 * i
  · rw [if_pos h, if_pos (by omega), if_pos (by omega)]; decide
  · rw [if_neg h]
    by_cases h2 : j < 256
    · rw [if_pos h2, if_pos h2]
      by_cases h3 : j / 16 = j % 16 ∧ j / 16 < i
      · rw [if_pos h3, if_pos (by omega)]
      · rw [if_neg h3, if_neg (by omega)]
    · rw [if_neg h2, if_neg h2]
theorem fz_0 : (fun _ => 0 : Nat → Int32) = fz 0 := by
  funext j
  unfold fz
  rw [if_neg (by omega)]
theorem fz_s (i : Nat) (v : Int) (hv : (i / 16 = i % 16 ∧ v = 0) ∨ (¬ i / 16 = i % 16 ∧ v = 9)) : upd (fz i) (i : Int).toNat (Int32.ofInt v) = fz (i + 1) := by
  funext j
  have e : (i : Int).toNat = i := by omega
  rw [e]
  unfold upd fz
  by_cases h : j = i
  · subst h
    rw [if_pos rfl, if_pos (by omega)]
    rcases hv with ⟨h1, rfl⟩ | ⟨h1, rfl⟩
    · rw [if_pos h1]; decide
    · rw [if_neg h1]; decide
  · rw [if_neg h]
    by_cases h2 : j < i
    · rw [if_pos h2, if_pos (show j < i + 1 by omega)]
    · rw [if_neg h2, if_neg (show ¬ j < i + 1 by omega)]
theorem fl_s (N i : Nat) (v : Int32) (f : Nat → Int32) : upd (fl i v f) (i : Int).toNat v = fl (i + 1) v f := by
  funext j
  have e : (i : Int).toNat = i := by omega
  rw [e]
  unfold upd fl
  by_cases h : j = i
  · rw [if_pos h, if_pos (by omega)]
  · rw [if_neg h]
    by_cases h2 : j < i
    · rw [if_pos h2, if_pos (by omega)]
    · rw [if_neg h2, if_neg (by omega)]
theorem fl_0 (v : Int32) (f : Nat → Int32) : f = fl 0 v f := by
  funext j
  unfold fl
  rw [if_neg (by omega)]
set_option maxRecDepth 100000 in
set_option maxHeartbeats 4000000 in
theorem c_fill (l : Launch) (G : KG) (a N : Nat) (v : Int32) (f : Nat → Int32) (hN : iR (N : Int)) : CT l yJ7_fill_53178 Y_J7_fill_53178 [.ref a, .int v] [(a, .inl (G.2.1, N, .inl f))] 0 0 G (fun _ => [(a, .inl (G.2.1, N, .inl (fl N v f)))]) := by
  refine ct_met m_J7_fill_53178 rfl rfl ?_
  intro p e s m args below meth c A Q ls C hi hl kr
  have hl : lv_has ls 4 [(0, .ref a), (1, .int v)] := hl
  have L : ∀ (d i : Nat), i + d = N → ∀ ls : Array Slot, lv_has ls 4 [(2, .int (Int32.ofInt (i : Int))), (3, .int (Int32.ofInt (N : Int))), (0, .ref a), (1, .int v)] → Kt p l e { frames := Y_J7_fill_53178.2.2.2.2.1, cells := 0, slots := 0, locals := Y_J7_fill_53178.2.2.2.2.2 } s m args below meth c G A Q [(a, .inl (G.2.1, N, .inl (fl i v f)))] 0 0 5 ls [] := by
    have h1 := hN.2
    intro d
    induction d with
    | zero =>
      intro i hi16 ls hl
      have e16 : i = N := by omega
      subst e16
      refine kt_iload (pc := 5) C dJ7_fill_53178_5 rfl (lv_at hl 0 rfl) ?_
      refine kt_iload (pc := 6) C dJ7_fill_53178_6 rfl (lv_at hl 1 rfl) ?_
      refine kt_ge (pc := 7) (x := (i : Int)) (y := (i : Int)) (tgt := 20) C dJ7_fill_53178_7 (by decide) ⟨by omega, by omega⟩ ⟨by omega, by omega⟩ (fun _ => ?_) (fun z => absurd (by omega) z)
      exact kr 20 ls (fun j => j) dJ7_fill_53178_20
    | succ d ih =>
      intro i hi16 ls hl
      refine kt_iload (pc := 5) C dJ7_fill_53178_5 rfl (lv_at hl 0 rfl) ?_
      refine kt_iload (pc := 6) C dJ7_fill_53178_6 rfl (lv_at hl 1 rfl) ?_
      refine kt_ge (pc := 7) (x := (i : Int)) (y := (N : Int)) (tgt := 20) C dJ7_fill_53178_7 (by decide) ⟨by omega, by omega⟩ ⟨by omega, by omega⟩ (fun z => absurd z (by omega)) (fun _ => ?_)
      refine kt_aload (pc := 10) C dJ7_fill_53178_10 rfl (lv_at hl 2 rfl) ?_
      refine kt_iload (pc := 11) C dJ7_fill_53178_11 rfl (lv_at hl 0 rfl) ?_
      refine kt_iload (pc := 12) C dJ7_fill_53178_12 rfl (lv_at hl 3 rfl) ?_
      refine kt_iast (pc := 13) (i := (i : Int)) (ws' := [(a, .inl (G.2.1, N, .inl (fl (i + 1) v f)))]) C dJ7_fill_53178_13 0 rfl ⟨by omega, by omega⟩ ⟨by omega, by omega⟩ (by rw [← fl_s N i]; rfl) ?_
      refine kt_iinc (pc := 14) (x := (i : Int)) (j := 0) (lv' := [(2, .int (Int32.ofInt ((i : Int) + 1))), (3, .int (Int32.ofInt (N : Int))), (0, .ref a), (1, .int v)]) C dJ7_fill_53178_14 hl rfl (by decide) rfl (fun ls hl => ?_)
      refine kt_goto (pc := 17) (tgt := 5) C dJ7_fill_53178_17 (by decide) ?_
      exact ih (i + 1) (by omega) ls hl
  refine kt_iconst (pc := 0) C dJ7_fill_53178_0 ?_
  refine kt_istore (pc := 1) (lv' := [(2, .int (Int32.ofInt 0)), (0, .ref a), (1, .int v)]) C dJ7_fill_53178_1 rfl hl (by decide) rfl (fun ls hl => ?_)
  refine kt_aload (pc := 2) C dJ7_fill_53178_2 rfl (lv_at hl 1 rfl) ?_
  refine kt_alen (pc := 3) C dJ7_fill_53178_3 0 rfl ?_
  refine kt_istore (pc := 4) (lv' := [(3, .int (Int32.ofInt (N : Int))), (2, .int (Int32.ofInt 0)), (0, .ref a), (1, .int v)]) C dJ7_fill_53178_4 rfl hl (by decide) rfl (fun ls hl => ?_)
  have z := L N 0 (by omega) ls (lv_sub hl [1, 0, 2, 3] rfl)
  rw [← fl_0 v f] at z
  exact z
def wf_X4_init (G : KG) (h0 : Nat) (u : Nat → Nat) : va_W := [(h0, .inr (4, [.ref (u 0), .ref (u 1), .ref (u 2), .ref (u 3), .ref (u 4), .ref (u 5), .ref (u 6), .int 0, .int 0, .int 0])), ((u 0), .inl (G.2.1, 10, .inl (fun _ => 0))), ((u 1), .inl (G.2.1, 10, .inl (fun _ => 0))), ((u 2), .inl (G.2.1, 10, .inl (fun _ => 0))), ((u 3), .inl (G.2.1, 10, .inl (fun _ => 0))), ((u 4), .inl (G.2.1, 10, .inl (fl 10 (Int32.ofInt (-4)) (fun _ => 0)))), ((u 5), .inl (G.2.1, 6, .inl (fl 6 (Int32.ofInt (-1)) (fun _ => 0)))), ((u 6), .inl (G.2.1, 5, .inl (fun _ => 0)))]
set_option maxRecDepth 100000 in
set_option maxHeartbeats 4000000 in
theorem c_X4_init (l : Launch) (G : KG) (h0 : Nat) : CT l yX4_init Y_X4_init [.ref h0] [(h0, .inr (4, [.null, .null, .null, .null, .null, .null, .null, .int 0, .int 0, .int 0]))] 7 61 G (wf_X4_init G h0) := by
  refine ct_met m_X4_init rfl rfl ?_
  intro p e s m args below meth c A Q ls C hi hl kr
  replace hi : meth.name = "<init>" := hi
  have hl : lv_has ls 1 [(0, .ref h0)] := hl
  refine kt_aload (pc := 0) C dX4_init_0 rfl (lv_at hl 0 rfl) ?_
  refine kt_oi (pc := 1) C dX4_init_1 ul_1_29 hl.1 rfl rfl ?_
  refine kt_aload (pc := 4) C dX4_init_4 rfl (lv_at hl 0 rfl) ?_
  refine kt_bipush (pc := 5) C dX4_init_5 (by decide) ?_
  refine kt_newI (pc := 7) (k := 0) (n := 0) (N := 10) C dX4_init_7 (by decide) (by decide) rfl rfl rfl (fun q7 => ?_)
  refine kt_put (pc := 9) (ws' := [(h0, .inr (4, [.ref q7, .null, .null, .null, .null, .null, .null, .int 0, .int 0, .int 0])), (q7, .inl (G.2.1, 10, .inl (fun _ => 0)))]) C hi dX4_init_9 ev_in4 tyX4_ok nmX4 0 rfl rfl 0 (by decide) ul_1_33 rfl rfl (tyX4_ok 0 (by decide)) rfl rfl (Nat.le_of_ble_eq_true rfl) rfl ?_
  refine kt_aload (pc := 12) C dX4_init_12 rfl (lv_at hl 0 rfl) ?_
  refine kt_bipush (pc := 13) C dX4_init_13 (by decide) ?_
  refine kt_newI (pc := 15) (k := 1) (n := 10) (N := 10) C dX4_init_15 (by decide) (by decide) rfl rfl rfl (fun q15 => ?_)
  refine kt_put (pc := 17) (ws' := [(h0, .inr (4, [.ref q7, .ref q15, .null, .null, .null, .null, .null, .int 0, .int 0, .int 0])), (q7, .inl (G.2.1, 10, .inl (fun _ => 0))), (q15, .inl (G.2.1, 10, .inl (fun _ => 0)))]) C hi dX4_init_17 ev_in4 tyX4_ok nmX4 0 rfl rfl 1 (by decide) ul_1_35 rfl rfl (tyX4_ok 1 (by decide)) rfl rfl (Nat.le_of_ble_eq_true rfl) rfl ?_
  refine kt_aload (pc := 20) C dX4_init_20 rfl (lv_at hl 0 rfl) ?_
  refine kt_bipush (pc := 21) C dX4_init_21 (by decide) ?_
  refine kt_newI (pc := 23) (k := 2) (n := 20) (N := 10) C dX4_init_23 (by decide) (by decide) rfl rfl rfl (fun q23 => ?_)
  refine kt_put (pc := 25) (ws' := [(h0, .inr (4, [.ref q7, .ref q15, .ref q23, .null, .null, .null, .null, .int 0, .int 0, .int 0])), (q7, .inl (G.2.1, 10, .inl (fun _ => 0))), (q15, .inl (G.2.1, 10, .inl (fun _ => 0))), (q23, .inl (G.2.1, 10, .inl (fun _ => 0)))]) C hi dX4_init_25 ev_in4 tyX4_ok nmX4 0 rfl rfl 2 (by decide) ul_1_37 rfl rfl (tyX4_ok 2 (by decide)) rfl rfl (Nat.le_of_ble_eq_true rfl) rfl ?_
  refine kt_aload (pc := 28) C dX4_init_28 rfl (lv_at hl 0 rfl) ?_
  refine kt_bipush (pc := 29) C dX4_init_29 (by decide) ?_
  refine kt_newI (pc := 31) (k := 3) (n := 30) (N := 10) C dX4_init_31 (by decide) (by decide) rfl rfl rfl (fun q31 => ?_)
  refine kt_put (pc := 33) (ws' := [(h0, .inr (4, [.ref q7, .ref q15, .ref q23, .ref q31, .null, .null, .null, .int 0, .int 0, .int 0])), (q7, .inl (G.2.1, 10, .inl (fun _ => 0))), (q15, .inl (G.2.1, 10, .inl (fun _ => 0))), (q23, .inl (G.2.1, 10, .inl (fun _ => 0))), (q31, .inl (G.2.1, 10, .inl (fun _ => 0)))]) C hi dX4_init_33 ev_in4 tyX4_ok nmX4 0 rfl rfl 3 (by decide) ul_1_38 rfl rfl (tyX4_ok 3 (by decide)) rfl rfl (Nat.le_of_ble_eq_true rfl) rfl ?_
  refine kt_aload (pc := 36) C dX4_init_36 rfl (lv_at hl 0 rfl) ?_
  refine kt_bipush (pc := 37) C dX4_init_37 (by decide) ?_
  refine kt_newI (pc := 39) (k := 4) (n := 40) (N := 10) C dX4_init_39 (by decide) (by decide) rfl rfl rfl (fun q39 => ?_)
  refine kt_put (pc := 41) (ws' := [(h0, .inr (4, [.ref q7, .ref q15, .ref q23, .ref q31, .ref q39, .null, .null, .int 0, .int 0, .int 0])), (q7, .inl (G.2.1, 10, .inl (fun _ => 0))), (q15, .inl (G.2.1, 10, .inl (fun _ => 0))), (q23, .inl (G.2.1, 10, .inl (fun _ => 0))), (q31, .inl (G.2.1, 10, .inl (fun _ => 0))), (q39, .inl (G.2.1, 10, .inl (fun _ => 0)))]) C hi dX4_init_41 ev_in4 tyX4_ok nmX4 0 rfl rfl 4 (by decide) ul_1_40 rfl rfl (tyX4_ok 4 (by decide)) rfl rfl (Nat.le_of_ble_eq_true rfl) rfl ?_
  refine kt_aload (pc := 44) C dX4_init_44 rfl (lv_at hl 0 rfl) ?_
  refine kt_bipush (pc := 45) C dX4_init_45 (by decide) ?_
  refine kt_newI (pc := 47) (k := 5) (n := 50) (N := 6) C dX4_init_47 (by decide) (by decide) rfl rfl rfl (fun q47 => ?_)
  refine kt_put (pc := 49) (ws' := [(h0, .inr (4, [.ref q7, .ref q15, .ref q23, .ref q31, .ref q39, .ref q47, .null, .int 0, .int 0, .int 0])), (q7, .inl (G.2.1, 10, .inl (fun _ => 0))), (q15, .inl (G.2.1, 10, .inl (fun _ => 0))), (q23, .inl (G.2.1, 10, .inl (fun _ => 0))), (q31, .inl (G.2.1, 10, .inl (fun _ => 0))), (q39, .inl (G.2.1, 10, .inl (fun _ => 0))), (q47, .inl (G.2.1, 6, .inl (fun _ => 0)))]) C hi dX4_init_49 ev_in4 tyX4_ok nmX4 0 rfl rfl 5 (by decide) ul_1_42 rfl rfl (tyX4_ok 5 (by decide)) rfl rfl (Nat.le_of_ble_eq_true rfl) rfl ?_
  refine kt_aload (pc := 52) C dX4_init_52 rfl (lv_at hl 0 rfl) ?_
  refine kt_iconst (pc := 53) C dX4_init_53 ?_
  refine kt_newI (pc := 54) (k := 6) (n := 56) (N := 5) C dX4_init_54 (by decide) (by decide) rfl rfl rfl (fun q54 => ?_)
  refine kt_put (pc := 56) (ws' := [(h0, .inr (4, [.ref q7, .ref q15, .ref q23, .ref q31, .ref q39, .ref q47, .ref q54, .int 0, .int 0, .int 0])), (q7, .inl (G.2.1, 10, .inl (fun _ => 0))), (q15, .inl (G.2.1, 10, .inl (fun _ => 0))), (q23, .inl (G.2.1, 10, .inl (fun _ => 0))), (q31, .inl (G.2.1, 10, .inl (fun _ => 0))), (q39, .inl (G.2.1, 10, .inl (fun _ => 0))), (q47, .inl (G.2.1, 6, .inl (fun _ => 0))), (q54, .inl (G.2.1, 5, .inl (fun _ => 0)))]) C hi dX4_init_56 ev_in4 tyX4_ok nmX4 0 rfl rfl 6 (by decide) ul_1_45 rfl rfl (tyX4_ok 6 (by decide)) rfl rfl (Nat.le_of_ble_eq_true rfl) rfl ?_
  refine kt_aload (pc := 59) C dX4_init_59 rfl (lv_at hl 0 rfl) ?_
  refine kt_get (pc := 60) C dX4_init_60 ev_in4 0 rfl rfl 4 (by decide) ul_1_40 rfl ?_
  refine kt_bipush (pc := 63) C dX4_init_63 (by decide) ?_
  refine kt_callS (pc := 65) (k := 7) (n := 61) (wr := [(h0, .inr (4, [.ref q7, .ref q15, .ref q23, .ref q31, .ref q39, .ref q47, .ref q54, .int 0, .int 0, .int 0])), (q7, .inl (G.2.1, 10, .inl (fun _ => 0))), (q15, .inl (G.2.1, 10, .inl (fun _ => 0))), (q23, .inl (G.2.1, 10, .inl (fun _ => 0))), (q31, .inl (G.2.1, 10, .inl (fun _ => 0))), (q47, .inl (G.2.1, 6, .inl (fun _ => 0))), (q54, .inl (G.2.1, 5, .inl (fun _ => 0)))]) (st := []) C dX4_init_65 (c_fill l G q39 10 (Int32.ofInt (-4)) (fun _ => 0) ⟨by decide, by decide⟩) m_J7_fill_53178 rfl ul_1_30 ul_1_31 ⟨rfl, rfl⟩ ⟨rfl, rfl⟩ [5] [0, 1, 2, 3, 4, 6, 7] rfl rfl rfl rfl (by decide) (by decide) rfl hl.1 rfl rfl (fun _ => ?_)
  refine kt_aload (pc := 68) C dX4_init_68 rfl (lv_at hl 0 rfl) ?_
  refine kt_get (pc := 69) C dX4_init_69 ev_in4 0 rfl rfl 5 (by decide) ul_1_42 rfl ?_
  refine kt_iconst (pc := 72) C dX4_init_72 ?_
  refine kt_callS (pc := 73) (k := 7) (n := 61) (wr := [(h0, .inr (4, [.ref q7, .ref q15, .ref q23, .ref q31, .ref q39, .ref q47, .ref q54, .int 0, .int 0, .int 0])), (q7, .inl (G.2.1, 10, .inl (fun _ => 0))), (q15, .inl (G.2.1, 10, .inl (fun _ => 0))), (q23, .inl (G.2.1, 10, .inl (fun _ => 0))), (q31, .inl (G.2.1, 10, .inl (fun _ => 0))), (q54, .inl (G.2.1, 5, .inl (fun _ => 0))), (q39, .inl (G.2.1, 10, .inl (fl 10 (Int32.ofInt (-4)) (fun _ => 0))))]) (st := []) C dX4_init_73 (c_fill l G q47 6 (Int32.ofInt (-1)) (fun _ => 0) ⟨by decide, by decide⟩) m_J7_fill_53178 rfl ul_1_30 ul_1_31 ⟨rfl, rfl⟩ ⟨rfl, rfl⟩ [5] [0, 1, 2, 3, 4, 6, 7] rfl rfl rfl rfl (by decide) (by decide) rfl hl.1 rfl rfl (fun _ => ?_)
  refine kt_perm (ws' := [(h0, .inr (4, [.ref q7, .ref q15, .ref q23, .ref q31, .ref q39, .ref q47, .ref q54, .int 0, .int 0, .int 0])), (q7, .inl (G.2.1, 10, .inl (fun _ => 0))), (q15, .inl (G.2.1, 10, .inl (fun _ => 0))), (q23, .inl (G.2.1, 10, .inl (fun _ => 0))), (q31, .inl (G.2.1, 10, .inl (fun _ => 0))), (q39, .inl (G.2.1, 10, .inl (fl 10 (Int32.ofInt (-4)) (fun _ => 0)))), (q47, .inl (G.2.1, 6, .inl (fl 6 (Int32.ofInt (-1)) (fun _ => 0)))), (q54, .inl (G.2.1, 5, .inl (fun _ => 0)))]) [0, 1, 2, 3, 4, 6, 7, 5] rfl rfl rfl ?_
  exact kr 76 ls (fun j => [q7, q15, q23, q31, q39, q47, q54].getD j 0) dX4_init_76
def wf_X5_init (G : KG) (h0 : Nat) (a1 : Nat) (u : Nat → Nat) : va_W := [(h0, .inr (5, [.ref a1, .ref (u 0), .ref (u 1), .ref (u 2), .ref (u 3), .int 0, .int 0])), ((u 0), .inl (G.2.1, 200, .inl (fun _ => 0))), ((u 1), .inl (G.2.1, 5, .inl (fun _ => 0))), ((u 2), .inl (G.2.1, 40, .inl (fun _ => 0))), ((u 3), .inl (G.2.1, 200, .inl (fun _ => 0)))]
set_option maxRecDepth 100000 in
set_option maxHeartbeats 4000000 in
theorem c_X5_init (l : Launch) (G : KG) (h0 : Nat) (a1 : Nat) : CT l yX5_init Y_X5_init [.ref h0, .ref a1] [(h0, .inr (5, [.null, .null, .null, .null, .null, .int 0, .int 0]))] 4 445 G (wf_X5_init G h0 a1) := by
  refine ct_met m_X5_init rfl rfl ?_
  intro p e s m args below meth c A Q ls C hi hl kr
  replace hi : meth.name = "<init>" := hi
  have hl : lv_has ls 2 [(0, .ref h0), (1, .ref a1)] := hl
  refine kt_aload (pc := 0) C dX5_init_0 rfl (lv_at hl 0 rfl) ?_
  refine kt_oi (pc := 1) C dX5_init_1 ul_1_83 hl.1 rfl rfl ?_
  refine kt_aload (pc := 4) C dX5_init_4 rfl (lv_at hl 0 rfl) ?_
  refine kt_sipush (pc := 5) C dX5_init_5 (by decide) ?_
  refine kt_newI (pc := 8) (k := 0) (n := 0) (N := 200) C dX5_init_8 (by decide) (by decide) rfl rfl rfl (fun q8 => ?_)
  refine kt_put (pc := 10) (ws' := [(h0, .inr (5, [.null, .ref q8, .null, .null, .null, .int 0, .int 0])), (q8, .inl (G.2.1, 200, .inl (fun _ => 0)))]) C hi dX5_init_10 ev_in5 tyX5_ok nmX5 0 rfl rfl 1 (by decide) ul_1_85 rfl rfl (tyX5_ok 1 (by decide)) rfl rfl (Nat.le_of_ble_eq_true rfl) rfl ?_
  refine kt_aload (pc := 13) C dX5_init_13 rfl (lv_at hl 0 rfl) ?_
  refine kt_iconst (pc := 14) C dX5_init_14 ?_
  refine kt_newI (pc := 15) (k := 1) (n := 200) (N := 5) C dX5_init_15 (by decide) (by decide) rfl rfl rfl (fun q15 => ?_)
  refine kt_put (pc := 17) (ws' := [(h0, .inr (5, [.null, .ref q8, .ref q15, .null, .null, .int 0, .int 0])), (q8, .inl (G.2.1, 200, .inl (fun _ => 0))), (q15, .inl (G.2.1, 5, .inl (fun _ => 0)))]) C hi dX5_init_17 ev_in5 tyX5_ok nmX5 0 rfl rfl 2 (by decide) ul_1_86 rfl rfl (tyX5_ok 2 (by decide)) rfl rfl (Nat.le_of_ble_eq_true rfl) rfl ?_
  refine kt_aload (pc := 20) C dX5_init_20 rfl (lv_at hl 0 rfl) ?_
  refine kt_bipush (pc := 21) C dX5_init_21 (by decide) ?_
  refine kt_newI (pc := 23) (k := 2) (n := 205) (N := 40) C dX5_init_23 (by decide) (by decide) rfl rfl rfl (fun q23 => ?_)
  refine kt_put (pc := 25) (ws' := [(h0, .inr (5, [.null, .ref q8, .ref q15, .ref q23, .null, .int 0, .int 0])), (q8, .inl (G.2.1, 200, .inl (fun _ => 0))), (q15, .inl (G.2.1, 5, .inl (fun _ => 0))), (q23, .inl (G.2.1, 40, .inl (fun _ => 0)))]) C hi dX5_init_25 ev_in5 tyX5_ok nmX5 0 rfl rfl 3 (by decide) ul_1_87 rfl rfl (tyX5_ok 3 (by decide)) rfl rfl (Nat.le_of_ble_eq_true rfl) rfl ?_
  refine kt_aload (pc := 28) C dX5_init_28 rfl (lv_at hl 0 rfl) ?_
  refine kt_sipush (pc := 29) C dX5_init_29 (by decide) ?_
  refine kt_newI (pc := 32) (k := 3) (n := 245) (N := 200) C dX5_init_32 (by decide) (by decide) rfl rfl rfl (fun q32 => ?_)
  refine kt_put (pc := 34) (ws' := [(h0, .inr (5, [.null, .ref q8, .ref q15, .ref q23, .ref q32, .int 0, .int 0])), (q8, .inl (G.2.1, 200, .inl (fun _ => 0))), (q15, .inl (G.2.1, 5, .inl (fun _ => 0))), (q23, .inl (G.2.1, 40, .inl (fun _ => 0))), (q32, .inl (G.2.1, 200, .inl (fun _ => 0)))]) C hi dX5_init_34 ev_in5 tyX5_ok nmX5 0 rfl rfl 4 (by decide) ul_1_88 rfl rfl (tyX5_ok 4 (by decide)) rfl rfl (Nat.le_of_ble_eq_true rfl) rfl ?_
  refine kt_aload (pc := 37) C dX5_init_37 rfl (lv_at hl 0 rfl) ?_
  refine kt_aload (pc := 38) C dX5_init_38 rfl (lv_at hl 1 rfl) ?_
  refine kt_put (pc := 39) (ws' := [(h0, .inr (5, [.ref a1, .ref q8, .ref q15, .ref q23, .ref q32, .int 0, .int 0])), (q8, .inl (G.2.1, 200, .inl (fun _ => 0))), (q15, .inl (G.2.1, 5, .inl (fun _ => 0))), (q23, .inl (G.2.1, 40, .inl (fun _ => 0))), (q32, .inl (G.2.1, 200, .inl (fun _ => 0)))]) C hi dX5_init_39 ev_in5 tyX5_ok nmX5 0 rfl rfl 0 (by decide) ul_1_84 rfl rfl (tyX5_ok 0 (by decide)) rfl rfl (Nat.le_of_ble_eq_true rfl) rfl ?_
  exact kr 42 ls (fun j => [q8, q15, q23, q32].getD j 0) dX5_init_42
def wf_X3_init (G : KG) (h0 : Nat) (a1 : Nat) (a2 : Nat) (u : Nat → Nat) : va_W := [(h0, .inr (3, [.ref a1, .ref a2, .ref (u 0), .ref (u 1), .ref (u 2), .ref (u 3), .ref (u 4), .ref (u 5), .ref (u 6), .ref (u 7), .ref (u 8), .ref (u 9), .int 0, .int 0, .int 0, .int 0])), ((u 0), .inl (G.2.1, 12, .inl (fun _ => 0))), ((u 1), .inl (G.2.1, 12, .inl (fun _ => 0))), ((u 2), .inl (G.2.1, 12, .inl (fun _ => 0))), ((u 3), .inl (G.2.1, 12, .inl (fun _ => 0))), ((u 4), .inl (G.2.1, 12, .inl (fun _ => 0))), ((u 5), .inl (G.2.2, 12, .inl (fun _ => 0))), ((u 6), .inl (G.2.1, 9, .inl (fun _ => 0))), ((u 7), .inl (G.2.1, 9, .inl (fun _ => 0))), ((u 8), .inl (G.2.1, 9, .inl (fun _ => 0))), ((u 9), .inl (G.2.1, 9, .inl (fun _ => 0)))]
set_option maxRecDepth 100000 in
set_option maxHeartbeats 4000000 in
theorem c_X3_init (l : Launch) (G : KG) (h0 : Nat) (a1 : Nat) (a2 : Nat) : CT l yX3_init Y_X3_init [.ref h0, .ref a1, .ref a2] [(h0, .inr (3, [.null, .null, .null, .null, .null, .null, .null, .null, .null, .null, .null, .null, .int 0, .int 0, .int 0, .int 0]))] 10 108 G (wf_X3_init G h0 a1 a2) := by
  refine ct_met m_X3_init rfl rfl ?_
  intro p e s m args below meth c A Q ls C hi hl kr
  replace hi : meth.name = "<init>" := hi
  have hl : lv_has ls 3 [(0, .ref h0), (1, .ref a1), (2, .ref a2)] := hl
  refine kt_aload (pc := 0) C dX3_init_0 rfl (lv_at hl 0 rfl) ?_
  refine kt_oi (pc := 1) C dX3_init_1 ul_1_150 hl.1 rfl rfl ?_
  refine kt_aload (pc := 4) C dX3_init_4 rfl (lv_at hl 0 rfl) ?_
  refine kt_bipush (pc := 5) C dX3_init_5 (by decide) ?_
  refine kt_newI (pc := 7) (k := 0) (n := 0) (N := 12) C dX3_init_7 (by decide) (by decide) rfl rfl rfl (fun q7 => ?_)
  refine kt_put (pc := 9) (ws' := [(h0, .inr (3, [.null, .null, .ref q7, .null, .null, .null, .null, .null, .null, .null, .null, .null, .int 0, .int 0, .int 0, .int 0])), (q7, .inl (G.2.1, 12, .inl (fun _ => 0)))]) C hi dX3_init_9 ev_in3 tyX3_ok nmX3 0 rfl rfl 2 (by decide) ul_1_153 rfl rfl (tyX3_ok 2 (by decide)) rfl rfl (Nat.le_of_ble_eq_true rfl) rfl ?_
  refine kt_aload (pc := 12) C dX3_init_12 rfl (lv_at hl 0 rfl) ?_
  refine kt_bipush (pc := 13) C dX3_init_13 (by decide) ?_
  refine kt_newI (pc := 15) (k := 1) (n := 12) (N := 12) C dX3_init_15 (by decide) (by decide) rfl rfl rfl (fun q15 => ?_)
  refine kt_put (pc := 17) (ws' := [(h0, .inr (3, [.null, .null, .ref q7, .ref q15, .null, .null, .null, .null, .null, .null, .null, .null, .int 0, .int 0, .int 0, .int 0])), (q7, .inl (G.2.1, 12, .inl (fun _ => 0))), (q15, .inl (G.2.1, 12, .inl (fun _ => 0)))]) C hi dX3_init_17 ev_in3 tyX3_ok nmX3 0 rfl rfl 3 (by decide) ul_1_154 rfl rfl (tyX3_ok 3 (by decide)) rfl rfl (Nat.le_of_ble_eq_true rfl) rfl ?_
  refine kt_aload (pc := 20) C dX3_init_20 rfl (lv_at hl 0 rfl) ?_
  refine kt_bipush (pc := 21) C dX3_init_21 (by decide) ?_
  refine kt_newI (pc := 23) (k := 2) (n := 24) (N := 12) C dX3_init_23 (by decide) (by decide) rfl rfl rfl (fun q23 => ?_)
  refine kt_put (pc := 25) (ws' := [(h0, .inr (3, [.null, .null, .ref q7, .ref q15, .ref q23, .null, .null, .null, .null, .null, .null, .null, .int 0, .int 0, .int 0, .int 0])), (q7, .inl (G.2.1, 12, .inl (fun _ => 0))), (q15, .inl (G.2.1, 12, .inl (fun _ => 0))), (q23, .inl (G.2.1, 12, .inl (fun _ => 0)))]) C hi dX3_init_25 ev_in3 tyX3_ok nmX3 0 rfl rfl 4 (by decide) ul_1_156 rfl rfl (tyX3_ok 4 (by decide)) rfl rfl (Nat.le_of_ble_eq_true rfl) rfl ?_
  refine kt_aload (pc := 28) C dX3_init_28 rfl (lv_at hl 0 rfl) ?_
  refine kt_bipush (pc := 29) C dX3_init_29 (by decide) ?_
  refine kt_newI (pc := 31) (k := 3) (n := 36) (N := 12) C dX3_init_31 (by decide) (by decide) rfl rfl rfl (fun q31 => ?_)
  refine kt_put (pc := 33) (ws' := [(h0, .inr (3, [.null, .null, .ref q7, .ref q15, .ref q23, .ref q31, .null, .null, .null, .null, .null, .null, .int 0, .int 0, .int 0, .int 0])), (q7, .inl (G.2.1, 12, .inl (fun _ => 0))), (q15, .inl (G.2.1, 12, .inl (fun _ => 0))), (q23, .inl (G.2.1, 12, .inl (fun _ => 0))), (q31, .inl (G.2.1, 12, .inl (fun _ => 0)))]) C hi dX3_init_33 ev_in3 tyX3_ok nmX3 0 rfl rfl 5 (by decide) ul_1_157 rfl rfl (tyX3_ok 5 (by decide)) rfl rfl (Nat.le_of_ble_eq_true rfl) rfl ?_
  refine kt_aload (pc := 36) C dX3_init_36 rfl (lv_at hl 0 rfl) ?_
  refine kt_bipush (pc := 37) C dX3_init_37 (by decide) ?_
  refine kt_newI (pc := 39) (k := 4) (n := 48) (N := 12) C dX3_init_39 (by decide) (by decide) rfl rfl rfl (fun q39 => ?_)
  refine kt_put (pc := 41) (ws' := [(h0, .inr (3, [.null, .null, .ref q7, .ref q15, .ref q23, .ref q31, .ref q39, .null, .null, .null, .null, .null, .int 0, .int 0, .int 0, .int 0])), (q7, .inl (G.2.1, 12, .inl (fun _ => 0))), (q15, .inl (G.2.1, 12, .inl (fun _ => 0))), (q23, .inl (G.2.1, 12, .inl (fun _ => 0))), (q31, .inl (G.2.1, 12, .inl (fun _ => 0))), (q39, .inl (G.2.1, 12, .inl (fun _ => 0)))]) C hi dX3_init_41 ev_in3 tyX3_ok nmX3 0 rfl rfl 6 (by decide) ul_1_158 rfl rfl (tyX3_ok 6 (by decide)) rfl rfl (Nat.le_of_ble_eq_true rfl) rfl ?_
  refine kt_aload (pc := 44) C dX3_init_44 rfl (lv_at hl 0 rfl) ?_
  refine kt_bipush (pc := 45) C dX3_init_45 (by decide) ?_
  refine kt_newZ (pc := 47) (k := 5) (n := 60) (N := 12) C dX3_init_47 (by decide) (by decide) rfl rfl rfl (fun q47 => ?_)
  refine kt_put (pc := 49) (ws' := [(h0, .inr (3, [.null, .null, .ref q7, .ref q15, .ref q23, .ref q31, .ref q39, .ref q47, .null, .null, .null, .null, .int 0, .int 0, .int 0, .int 0])), (q7, .inl (G.2.1, 12, .inl (fun _ => 0))), (q15, .inl (G.2.1, 12, .inl (fun _ => 0))), (q23, .inl (G.2.1, 12, .inl (fun _ => 0))), (q31, .inl (G.2.1, 12, .inl (fun _ => 0))), (q39, .inl (G.2.1, 12, .inl (fun _ => 0))), (q47, .inl (G.2.2, 12, .inl (fun _ => 0)))]) C hi dX3_init_49 ev_in3 tyX3_ok nmX3 0 rfl rfl 7 (by decide) ul_1_160 rfl rfl (tyX3_ok 7 (by decide)) rfl rfl (Nat.le_of_ble_eq_true rfl) rfl ?_
  refine kt_aload (pc := 52) C dX3_init_52 rfl (lv_at hl 0 rfl) ?_
  refine kt_bipush (pc := 53) C dX3_init_53 (by decide) ?_
  refine kt_newI (pc := 55) (k := 6) (n := 72) (N := 9) C dX3_init_55 (by decide) (by decide) rfl rfl rfl (fun q55 => ?_)
  refine kt_put (pc := 57) (ws' := [(h0, .inr (3, [.null, .null, .ref q7, .ref q15, .ref q23, .ref q31, .ref q39, .ref q47, .ref q55, .null, .null, .null, .int 0, .int 0, .int 0, .int 0])), (q7, .inl (G.2.1, 12, .inl (fun _ => 0))), (q15, .inl (G.2.1, 12, .inl (fun _ => 0))), (q23, .inl (G.2.1, 12, .inl (fun _ => 0))), (q31, .inl (G.2.1, 12, .inl (fun _ => 0))), (q39, .inl (G.2.1, 12, .inl (fun _ => 0))), (q47, .inl (G.2.2, 12, .inl (fun _ => 0))), (q55, .inl (G.2.1, 9, .inl (fun _ => 0)))]) C hi dX3_init_57 ev_in3 tyX3_ok nmX3 0 rfl rfl 8 (by decide) ul_1_161 rfl rfl (tyX3_ok 8 (by decide)) rfl rfl (Nat.le_of_ble_eq_true rfl) rfl ?_
  refine kt_aload (pc := 60) C dX3_init_60 rfl (lv_at hl 0 rfl) ?_
  refine kt_bipush (pc := 61) C dX3_init_61 (by decide) ?_
  refine kt_newI (pc := 63) (k := 7) (n := 81) (N := 9) C dX3_init_63 (by decide) (by decide) rfl rfl rfl (fun q63 => ?_)
  refine kt_put (pc := 65) (ws' := [(h0, .inr (3, [.null, .null, .ref q7, .ref q15, .ref q23, .ref q31, .ref q39, .ref q47, .ref q55, .ref q63, .null, .null, .int 0, .int 0, .int 0, .int 0])), (q7, .inl (G.2.1, 12, .inl (fun _ => 0))), (q15, .inl (G.2.1, 12, .inl (fun _ => 0))), (q23, .inl (G.2.1, 12, .inl (fun _ => 0))), (q31, .inl (G.2.1, 12, .inl (fun _ => 0))), (q39, .inl (G.2.1, 12, .inl (fun _ => 0))), (q47, .inl (G.2.2, 12, .inl (fun _ => 0))), (q55, .inl (G.2.1, 9, .inl (fun _ => 0))), (q63, .inl (G.2.1, 9, .inl (fun _ => 0)))]) C hi dX3_init_65 ev_in3 tyX3_ok nmX3 0 rfl rfl 9 (by decide) ul_1_162 rfl rfl (tyX3_ok 9 (by decide)) rfl rfl (Nat.le_of_ble_eq_true rfl) rfl ?_
  refine kt_aload (pc := 68) C dX3_init_68 rfl (lv_at hl 0 rfl) ?_
  refine kt_bipush (pc := 69) C dX3_init_69 (by decide) ?_
  refine kt_newI (pc := 71) (k := 8) (n := 90) (N := 9) C dX3_init_71 (by decide) (by decide) rfl rfl rfl (fun q71 => ?_)
  refine kt_put (pc := 73) (ws' := [(h0, .inr (3, [.null, .null, .ref q7, .ref q15, .ref q23, .ref q31, .ref q39, .ref q47, .ref q55, .ref q63, .ref q71, .null, .int 0, .int 0, .int 0, .int 0])), (q7, .inl (G.2.1, 12, .inl (fun _ => 0))), (q15, .inl (G.2.1, 12, .inl (fun _ => 0))), (q23, .inl (G.2.1, 12, .inl (fun _ => 0))), (q31, .inl (G.2.1, 12, .inl (fun _ => 0))), (q39, .inl (G.2.1, 12, .inl (fun _ => 0))), (q47, .inl (G.2.2, 12, .inl (fun _ => 0))), (q55, .inl (G.2.1, 9, .inl (fun _ => 0))), (q63, .inl (G.2.1, 9, .inl (fun _ => 0))), (q71, .inl (G.2.1, 9, .inl (fun _ => 0)))]) C hi dX3_init_73 ev_in3 tyX3_ok nmX3 0 rfl rfl 10 (by decide) ul_1_163 rfl rfl (tyX3_ok 10 (by decide)) rfl rfl (Nat.le_of_ble_eq_true rfl) rfl ?_
  refine kt_aload (pc := 76) C dX3_init_76 rfl (lv_at hl 0 rfl) ?_
  refine kt_bipush (pc := 77) C dX3_init_77 (by decide) ?_
  refine kt_newI (pc := 79) (k := 9) (n := 99) (N := 9) C dX3_init_79 (by decide) (by decide) rfl rfl rfl (fun q79 => ?_)
  refine kt_put (pc := 81) (ws' := [(h0, .inr (3, [.null, .null, .ref q7, .ref q15, .ref q23, .ref q31, .ref q39, .ref q47, .ref q55, .ref q63, .ref q71, .ref q79, .int 0, .int 0, .int 0, .int 0])), (q7, .inl (G.2.1, 12, .inl (fun _ => 0))), (q15, .inl (G.2.1, 12, .inl (fun _ => 0))), (q23, .inl (G.2.1, 12, .inl (fun _ => 0))), (q31, .inl (G.2.1, 12, .inl (fun _ => 0))), (q39, .inl (G.2.1, 12, .inl (fun _ => 0))), (q47, .inl (G.2.2, 12, .inl (fun _ => 0))), (q55, .inl (G.2.1, 9, .inl (fun _ => 0))), (q63, .inl (G.2.1, 9, .inl (fun _ => 0))), (q71, .inl (G.2.1, 9, .inl (fun _ => 0))), (q79, .inl (G.2.1, 9, .inl (fun _ => 0)))]) C hi dX3_init_81 ev_in3 tyX3_ok nmX3 0 rfl rfl 11 (by decide) ul_1_164 rfl rfl (tyX3_ok 11 (by decide)) rfl rfl (Nat.le_of_ble_eq_true rfl) rfl ?_
  refine kt_aload (pc := 84) C dX3_init_84 rfl (lv_at hl 0 rfl) ?_
  refine kt_aload (pc := 85) C dX3_init_85 rfl (lv_at hl 1 rfl) ?_
  refine kt_put (pc := 86) (ws' := [(h0, .inr (3, [.ref a1, .null, .ref q7, .ref q15, .ref q23, .ref q31, .ref q39, .ref q47, .ref q55, .ref q63, .ref q71, .ref q79, .int 0, .int 0, .int 0, .int 0])), (q7, .inl (G.2.1, 12, .inl (fun _ => 0))), (q15, .inl (G.2.1, 12, .inl (fun _ => 0))), (q23, .inl (G.2.1, 12, .inl (fun _ => 0))), (q31, .inl (G.2.1, 12, .inl (fun _ => 0))), (q39, .inl (G.2.1, 12, .inl (fun _ => 0))), (q47, .inl (G.2.2, 12, .inl (fun _ => 0))), (q55, .inl (G.2.1, 9, .inl (fun _ => 0))), (q63, .inl (G.2.1, 9, .inl (fun _ => 0))), (q71, .inl (G.2.1, 9, .inl (fun _ => 0))), (q79, .inl (G.2.1, 9, .inl (fun _ => 0)))]) C hi dX3_init_86 ev_in3 tyX3_ok nmX3 0 rfl rfl 0 (by decide) ul_1_151 rfl rfl (tyX3_ok 0 (by decide)) rfl rfl (Nat.le_of_ble_eq_true rfl) rfl ?_
  refine kt_aload (pc := 89) C dX3_init_89 rfl (lv_at hl 0 rfl) ?_
  refine kt_aload (pc := 90) C dX3_init_90 rfl (lv_at hl 2 rfl) ?_
  refine kt_put (pc := 91) (ws' := [(h0, .inr (3, [.ref a1, .ref a2, .ref q7, .ref q15, .ref q23, .ref q31, .ref q39, .ref q47, .ref q55, .ref q63, .ref q71, .ref q79, .int 0, .int 0, .int 0, .int 0])), (q7, .inl (G.2.1, 12, .inl (fun _ => 0))), (q15, .inl (G.2.1, 12, .inl (fun _ => 0))), (q23, .inl (G.2.1, 12, .inl (fun _ => 0))), (q31, .inl (G.2.1, 12, .inl (fun _ => 0))), (q39, .inl (G.2.1, 12, .inl (fun _ => 0))), (q47, .inl (G.2.2, 12, .inl (fun _ => 0))), (q55, .inl (G.2.1, 9, .inl (fun _ => 0))), (q63, .inl (G.2.1, 9, .inl (fun _ => 0))), (q71, .inl (G.2.1, 9, .inl (fun _ => 0))), (q79, .inl (G.2.1, 9, .inl (fun _ => 0)))]) C hi dX3_init_91 ev_in3 tyX3_ok nmX3 0 rfl rfl 1 (by decide) ul_1_152 rfl rfl (tyX3_ok 1 (by decide)) rfl rfl (Nat.le_of_ble_eq_true rfl) rfl ?_
  exact kr 94 ls (fun j => [q7, q15, q23, q31, q39, q47, q55, q63, q71, q79].getD j 0) dX3_init_94
def wf_X0_init (G : KG) (h0 : Nat) (u : Nat → Nat) : va_W := [(h0, .inr (0, [.ref (u 0), .ref (u 1), .ref (u 2), .int 0, .int 0])), ((u 0), .inl (G.2.1, 200, .inl (fun _ => 0))), ((u 1), .inl (G.2.1, 200, .inl (fun _ => 0))), ((u 2), .inl (G.2.2, 200, .inl (fun _ => 0)))]
set_option maxRecDepth 100000 in
set_option maxHeartbeats 4000000 in
theorem c_X0_init (l : Launch) (G : KG) (h0 : Nat) : CT l yX0_init Y_X0_init [.ref h0] [(h0, .inr (0, [.null, .null, .null, .int 0, .int 0]))] 3 600 G (wf_X0_init G h0) := by
  refine ct_met m_X0_init rfl rfl ?_
  intro p e s m args below meth c A Q ls C hi hl kr
  replace hi : meth.name = "<init>" := hi
  have hl : lv_has ls 1 [(0, .ref h0)] := hl
  refine kt_aload (pc := 0) C dX0_init_0 rfl (lv_at hl 0 rfl) ?_
  refine kt_oi (pc := 1) C dX0_init_1 ul_1_212 hl.1 rfl rfl ?_
  refine kt_aload (pc := 4) C dX0_init_4 rfl (lv_at hl 0 rfl) ?_
  refine kt_sipush (pc := 5) C dX0_init_5 (by decide) ?_
  refine kt_newI (pc := 8) (k := 0) (n := 0) (N := 200) C dX0_init_8 (by decide) (by decide) rfl rfl rfl (fun q8 => ?_)
  refine kt_put (pc := 10) (ws' := [(h0, .inr (0, [.ref q8, .null, .null, .int 0, .int 0])), (q8, .inl (G.2.1, 200, .inl (fun _ => 0)))]) C hi dX0_init_10 ev_in0 tyX0_ok nmX0 0 rfl rfl 0 (by decide) ul_1_213 rfl rfl (tyX0_ok 0 (by decide)) rfl rfl (Nat.le_of_ble_eq_true rfl) rfl ?_
  refine kt_aload (pc := 13) C dX0_init_13 rfl (lv_at hl 0 rfl) ?_
  refine kt_sipush (pc := 14) C dX0_init_14 (by decide) ?_
  refine kt_newI (pc := 17) (k := 1) (n := 200) (N := 200) C dX0_init_17 (by decide) (by decide) rfl rfl rfl (fun q17 => ?_)
  refine kt_put (pc := 19) (ws' := [(h0, .inr (0, [.ref q8, .ref q17, .null, .int 0, .int 0])), (q8, .inl (G.2.1, 200, .inl (fun _ => 0))), (q17, .inl (G.2.1, 200, .inl (fun _ => 0)))]) C hi dX0_init_19 ev_in0 tyX0_ok nmX0 0 rfl rfl 1 (by decide) ul_1_215 rfl rfl (tyX0_ok 1 (by decide)) rfl rfl (Nat.le_of_ble_eq_true rfl) rfl ?_
  refine kt_aload (pc := 22) C dX0_init_22 rfl (lv_at hl 0 rfl) ?_
  refine kt_sipush (pc := 23) C dX0_init_23 (by decide) ?_
  refine kt_newZ (pc := 26) (k := 2) (n := 400) (N := 200) C dX0_init_26 (by decide) (by decide) rfl rfl rfl (fun q26 => ?_)
  refine kt_put (pc := 28) (ws' := [(h0, .inr (0, [.ref q8, .ref q17, .ref q26, .int 0, .int 0])), (q8, .inl (G.2.1, 200, .inl (fun _ => 0))), (q17, .inl (G.2.1, 200, .inl (fun _ => 0))), (q26, .inl (G.2.2, 200, .inl (fun _ => 0)))]) C hi dX0_init_28 ev_in0 tyX0_ok nmX0 0 rfl rfl 2 (by decide) ul_1_217 rfl rfl (tyX0_ok 2 (by decide)) rfl rfl (Nat.le_of_ble_eq_true rfl) rfl ?_
  exact kr 31 ls (fun j => [q8, q17, q26].getD j 0) dX0_init_31
def wf_X6_init (G : KG) (h0 : Nat) (a1 : Nat) (a2 : Nat) (u : Nat → Nat) : va_W := [(h0, .inr (6, [.ref a1, .ref a2, .ref (u 0), .ref (u 1), .ref (u 2), .ref (u 3), .ref (u 4), .int 0, .int 0, .int 0])), ((u 0), .inl (G.2.1, 8, .inl (fun _ => 0))), ((u 1), .inl (G.2.1, 8, .inl (fun _ => 0))), ((u 2), .inl (G.2.1, 8, .inl (fun _ => 0))), ((u 3), .inl (G.2.1, 8, .inl (fun _ => 0))), ((u 4), .inl (G.2.1, 256, .inl (fun _ => 0)))]
set_option maxRecDepth 100000 in
set_option maxHeartbeats 4000000 in
theorem c_X6_init (l : Launch) (G : KG) (h0 : Nat) (a1 : Nat) (a2 : Nat) : CT l yX6_init Y_X6_init [.ref h0, .ref a1, .ref a2] [(h0, .inr (6, [.null, .null, .null, .null, .null, .null, .null, .int 0, .int 0, .int 0]))] 5 288 G (wf_X6_init G h0 a1 a2) := by
  refine ct_met m_X6_init rfl rfl ?_
  intro p e s m args below meth c A Q ls C hi hl kr
  replace hi : meth.name = "<init>" := hi
  have hl : lv_has ls 3 [(0, .ref h0), (1, .ref a1), (2, .ref a2)] := hl
  refine kt_aload (pc := 0) C dX6_init_0 rfl (lv_at hl 0 rfl) ?_
  refine kt_oi (pc := 1) C dX6_init_1 ul_1_239 hl.1 rfl rfl ?_
  refine kt_aload (pc := 4) C dX6_init_4 rfl (lv_at hl 0 rfl) ?_
  refine kt_bipush (pc := 5) C dX6_init_5 (by decide) ?_
  refine kt_newI (pc := 7) (k := 0) (n := 0) (N := 8) C dX6_init_7 (by decide) (by decide) rfl rfl rfl (fun q7 => ?_)
  refine kt_put (pc := 9) (ws' := [(h0, .inr (6, [.null, .null, .ref q7, .null, .null, .null, .null, .int 0, .int 0, .int 0])), (q7, .inl (G.2.1, 8, .inl (fun _ => 0)))]) C hi dX6_init_9 ev_in6 tyX6_ok nmX6 0 rfl rfl 2 (by decide) ul_2_2 rfl rfl (tyX6_ok 2 (by decide)) rfl rfl (Nat.le_of_ble_eq_true rfl) rfl ?_
  refine kt_aload (pc := 12) C dX6_init_12 rfl (lv_at hl 0 rfl) ?_
  refine kt_bipush (pc := 13) C dX6_init_13 (by decide) ?_
  refine kt_newI (pc := 15) (k := 1) (n := 8) (N := 8) C dX6_init_15 (by decide) (by decide) rfl rfl rfl (fun q15 => ?_)
  refine kt_put (pc := 17) (ws' := [(h0, .inr (6, [.null, .null, .ref q7, .ref q15, .null, .null, .null, .int 0, .int 0, .int 0])), (q7, .inl (G.2.1, 8, .inl (fun _ => 0))), (q15, .inl (G.2.1, 8, .inl (fun _ => 0)))]) C hi dX6_init_17 ev_in6 tyX6_ok nmX6 0 rfl rfl 3 (by decide) ul_2_3 rfl rfl (tyX6_ok 3 (by decide)) rfl rfl (Nat.le_of_ble_eq_true rfl) rfl ?_
  refine kt_aload (pc := 20) C dX6_init_20 rfl (lv_at hl 0 rfl) ?_
  refine kt_bipush (pc := 21) C dX6_init_21 (by decide) ?_
  refine kt_newI (pc := 23) (k := 2) (n := 16) (N := 8) C dX6_init_23 (by decide) (by decide) rfl rfl rfl (fun q23 => ?_)
  refine kt_put (pc := 25) (ws' := [(h0, .inr (6, [.null, .null, .ref q7, .ref q15, .ref q23, .null, .null, .int 0, .int 0, .int 0])), (q7, .inl (G.2.1, 8, .inl (fun _ => 0))), (q15, .inl (G.2.1, 8, .inl (fun _ => 0))), (q23, .inl (G.2.1, 8, .inl (fun _ => 0)))]) C hi dX6_init_25 ev_in6 tyX6_ok nmX6 0 rfl rfl 4 (by decide) ul_2_4 rfl rfl (tyX6_ok 4 (by decide)) rfl rfl (Nat.le_of_ble_eq_true rfl) rfl ?_
  refine kt_aload (pc := 28) C dX6_init_28 rfl (lv_at hl 0 rfl) ?_
  refine kt_bipush (pc := 29) C dX6_init_29 (by decide) ?_
  refine kt_newI (pc := 31) (k := 3) (n := 24) (N := 8) C dX6_init_31 (by decide) (by decide) rfl rfl rfl (fun q31 => ?_)
  refine kt_put (pc := 33) (ws' := [(h0, .inr (6, [.null, .null, .ref q7, .ref q15, .ref q23, .ref q31, .null, .int 0, .int 0, .int 0])), (q7, .inl (G.2.1, 8, .inl (fun _ => 0))), (q15, .inl (G.2.1, 8, .inl (fun _ => 0))), (q23, .inl (G.2.1, 8, .inl (fun _ => 0))), (q31, .inl (G.2.1, 8, .inl (fun _ => 0)))]) C hi dX6_init_33 ev_in6 tyX6_ok nmX6 0 rfl rfl 5 (by decide) ul_2_5 rfl rfl (tyX6_ok 5 (by decide)) rfl rfl (Nat.le_of_ble_eq_true rfl) rfl ?_
  refine kt_aload (pc := 36) C dX6_init_36 rfl (lv_at hl 0 rfl) ?_
  refine kt_sipush (pc := 37) C dX6_init_37 (by decide) ?_
  refine kt_newI (pc := 40) (k := 4) (n := 32) (N := 256) C dX6_init_40 (by decide) (by decide) rfl rfl rfl (fun q40 => ?_)
  refine kt_put (pc := 42) (ws' := [(h0, .inr (6, [.null, .null, .ref q7, .ref q15, .ref q23, .ref q31, .ref q40, .int 0, .int 0, .int 0])), (q7, .inl (G.2.1, 8, .inl (fun _ => 0))), (q15, .inl (G.2.1, 8, .inl (fun _ => 0))), (q23, .inl (G.2.1, 8, .inl (fun _ => 0))), (q31, .inl (G.2.1, 8, .inl (fun _ => 0))), (q40, .inl (G.2.1, 256, .inl (fun _ => 0)))]) C hi dX6_init_42 ev_in6 tyX6_ok nmX6 0 rfl rfl 6 (by decide) ul_2_6 rfl rfl (tyX6_ok 6 (by decide)) rfl rfl (Nat.le_of_ble_eq_true rfl) rfl ?_
  refine kt_aload (pc := 45) C dX6_init_45 rfl (lv_at hl 0 rfl) ?_
  refine kt_aload (pc := 46) C dX6_init_46 rfl (lv_at hl 1 rfl) ?_
  refine kt_put (pc := 47) (ws' := [(h0, .inr (6, [.ref a1, .null, .ref q7, .ref q15, .ref q23, .ref q31, .ref q40, .int 0, .int 0, .int 0])), (q7, .inl (G.2.1, 8, .inl (fun _ => 0))), (q15, .inl (G.2.1, 8, .inl (fun _ => 0))), (q23, .inl (G.2.1, 8, .inl (fun _ => 0))), (q31, .inl (G.2.1, 8, .inl (fun _ => 0))), (q40, .inl (G.2.1, 256, .inl (fun _ => 0)))]) C hi dX6_init_47 ev_in6 tyX6_ok nmX6 0 rfl rfl 0 (by decide) ul_2_0 rfl rfl (tyX6_ok 0 (by decide)) rfl rfl (Nat.le_of_ble_eq_true rfl) rfl ?_
  refine kt_aload (pc := 50) C dX6_init_50 rfl (lv_at hl 0 rfl) ?_
  refine kt_aload (pc := 51) C dX6_init_51 rfl (lv_at hl 2 rfl) ?_
  refine kt_put (pc := 52) (ws' := [(h0, .inr (6, [.ref a1, .ref a2, .ref q7, .ref q15, .ref q23, .ref q31, .ref q40, .int 0, .int 0, .int 0])), (q7, .inl (G.2.1, 8, .inl (fun _ => 0))), (q15, .inl (G.2.1, 8, .inl (fun _ => 0))), (q23, .inl (G.2.1, 8, .inl (fun _ => 0))), (q31, .inl (G.2.1, 8, .inl (fun _ => 0))), (q40, .inl (G.2.1, 256, .inl (fun _ => 0)))]) C hi dX6_init_52 ev_in6 tyX6_ok nmX6 0 rfl rfl 1 (by decide) ul_2_1 rfl rfl (tyX6_ok 1 (by decide)) rfl rfl (Nat.le_of_ble_eq_true rfl) rfl ?_
  exact kr 55 ls (fun j => [q7, q15, q23, q31, q40].getD j 0) dX6_init_55
def wf_X2_init (G : KG) (h0 : Nat) (a1 : Nat) (a2 : Nat) (a3 : Nat) (u : Nat → Nat) : va_W := [(h0, .inr (2, [.ref a1, .ref a2, .ref a3, .ref (u 0), .ref (u 1), .ref (u 2), .ref (u 3), .int 0])), ((u 0), .inl (G.2.1, 2048, .inl (fun _ => 0))), ((u 1), .inl (G.2.1, 2048, .inl (fun _ => 0))), ((u 2), .inl (G.2.1, 2048, .inl (fun _ => 0))), ((u 3), .inl (G.2.1, 256, .inl (fun _ => 0)))]
set_option maxRecDepth 100000 in
set_option maxHeartbeats 4000000 in
theorem c_X2_init (l : Launch) (G : KG) (h0 : Nat) (a1 : Nat) (a2 : Nat) (a3 : Nat) : CT l yX2_init Y_X2_init [.ref h0, .ref a1, .ref a2, .ref a3] [(h0, .inr (2, [.null, .null, .null, .null, .null, .null, .null, .int 0]))] 4 6400 G (wf_X2_init G h0 a1 a2 a3) := by
  refine ct_met m_X2_init rfl rfl ?_
  intro p e s m args below meth c A Q ls C hi hl kr
  replace hi : meth.name = "<init>" := hi
  have hl : lv_has ls 4 [(0, .ref h0), (1, .ref a1), (2, .ref a2), (3, .ref a3)] := hl
  refine kt_aload (pc := 0) C dX2_init_0 rfl (lv_at hl 0 rfl) ?_
  refine kt_oi (pc := 1) C dX2_init_1 ul_2_39 hl.1 rfl rfl ?_
  refine kt_aload (pc := 4) C dX2_init_4 rfl (lv_at hl 0 rfl) ?_
  refine kt_sipush (pc := 5) C dX2_init_5 (by decide) ?_
  refine kt_newI (pc := 8) (k := 0) (n := 0) (N := 2048) C dX2_init_8 (by decide) (by decide) rfl rfl rfl (fun q8 => ?_)
  refine kt_put (pc := 10) (ws' := [(h0, .inr (2, [.null, .null, .null, .ref q8, .null, .null, .null, .int 0])), (q8, .inl (G.2.1, 2048, .inl (fun _ => 0)))]) C hi dX2_init_10 ev_in2 tyX2_ok nmX2 0 rfl rfl 3 (by decide) ul_2_43 rfl rfl (tyX2_ok 3 (by decide)) rfl rfl (Nat.le_of_ble_eq_true rfl) rfl ?_
  refine kt_aload (pc := 13) C dX2_init_13 rfl (lv_at hl 0 rfl) ?_
  refine kt_sipush (pc := 14) C dX2_init_14 (by decide) ?_
  refine kt_newI (pc := 17) (k := 1) (n := 2048) (N := 2048) C dX2_init_17 (by decide) (by decide) rfl rfl rfl (fun q17 => ?_)
  refine kt_put (pc := 19) (ws' := [(h0, .inr (2, [.null, .null, .null, .ref q8, .ref q17, .null, .null, .int 0])), (q8, .inl (G.2.1, 2048, .inl (fun _ => 0))), (q17, .inl (G.2.1, 2048, .inl (fun _ => 0)))]) C hi dX2_init_19 ev_in2 tyX2_ok nmX2 0 rfl rfl 4 (by decide) ul_2_44 rfl rfl (tyX2_ok 4 (by decide)) rfl rfl (Nat.le_of_ble_eq_true rfl) rfl ?_
  refine kt_aload (pc := 22) C dX2_init_22 rfl (lv_at hl 0 rfl) ?_
  refine kt_sipush (pc := 23) C dX2_init_23 (by decide) ?_
  refine kt_newI (pc := 26) (k := 2) (n := 4096) (N := 2048) C dX2_init_26 (by decide) (by decide) rfl rfl rfl (fun q26 => ?_)
  refine kt_put (pc := 28) (ws' := [(h0, .inr (2, [.null, .null, .null, .ref q8, .ref q17, .ref q26, .null, .int 0])), (q8, .inl (G.2.1, 2048, .inl (fun _ => 0))), (q17, .inl (G.2.1, 2048, .inl (fun _ => 0))), (q26, .inl (G.2.1, 2048, .inl (fun _ => 0)))]) C hi dX2_init_28 ev_in2 tyX2_ok nmX2 0 rfl rfl 5 (by decide) ul_2_45 rfl rfl (tyX2_ok 5 (by decide)) rfl rfl (Nat.le_of_ble_eq_true rfl) rfl ?_
  refine kt_aload (pc := 31) C dX2_init_31 rfl (lv_at hl 0 rfl) ?_
  refine kt_sipush (pc := 32) C dX2_init_32 (by decide) ?_
  refine kt_newI (pc := 35) (k := 3) (n := 6144) (N := 256) C dX2_init_35 (by decide) (by decide) rfl rfl rfl (fun q35 => ?_)
  refine kt_put (pc := 37) (ws' := [(h0, .inr (2, [.null, .null, .null, .ref q8, .ref q17, .ref q26, .ref q35, .int 0])), (q8, .inl (G.2.1, 2048, .inl (fun _ => 0))), (q17, .inl (G.2.1, 2048, .inl (fun _ => 0))), (q26, .inl (G.2.1, 2048, .inl (fun _ => 0))), (q35, .inl (G.2.1, 256, .inl (fun _ => 0)))]) C hi dX2_init_37 ev_in2 tyX2_ok nmX2 0 rfl rfl 6 (by decide) ul_2_46 rfl rfl (tyX2_ok 6 (by decide)) rfl rfl (Nat.le_of_ble_eq_true rfl) rfl ?_
  refine kt_aload (pc := 40) C dX2_init_40 rfl (lv_at hl 0 rfl) ?_
  refine kt_aload (pc := 41) C dX2_init_41 rfl (lv_at hl 1 rfl) ?_
  refine kt_put (pc := 42) (ws' := [(h0, .inr (2, [.ref a1, .null, .null, .ref q8, .ref q17, .ref q26, .ref q35, .int 0])), (q8, .inl (G.2.1, 2048, .inl (fun _ => 0))), (q17, .inl (G.2.1, 2048, .inl (fun _ => 0))), (q26, .inl (G.2.1, 2048, .inl (fun _ => 0))), (q35, .inl (G.2.1, 256, .inl (fun _ => 0)))]) C hi dX2_init_42 ev_in2 tyX2_ok nmX2 0 rfl rfl 0 (by decide) ul_2_40 rfl rfl (tyX2_ok 0 (by decide)) rfl rfl (Nat.le_of_ble_eq_true rfl) rfl ?_
  refine kt_aload (pc := 45) C dX2_init_45 rfl (lv_at hl 0 rfl) ?_
  refine kt_aload (pc := 46) C dX2_init_46 rfl (lv_at hl 2 rfl) ?_
  refine kt_put (pc := 47) (ws' := [(h0, .inr (2, [.ref a1, .ref a2, .null, .ref q8, .ref q17, .ref q26, .ref q35, .int 0])), (q8, .inl (G.2.1, 2048, .inl (fun _ => 0))), (q17, .inl (G.2.1, 2048, .inl (fun _ => 0))), (q26, .inl (G.2.1, 2048, .inl (fun _ => 0))), (q35, .inl (G.2.1, 256, .inl (fun _ => 0)))]) C hi dX2_init_47 ev_in2 tyX2_ok nmX2 0 rfl rfl 1 (by decide) ul_2_41 rfl rfl (tyX2_ok 1 (by decide)) rfl rfl (Nat.le_of_ble_eq_true rfl) rfl ?_
  refine kt_aload (pc := 50) C dX2_init_50 rfl (lv_at hl 0 rfl) ?_
  refine kt_aload (pc := 51) C dX2_init_51 rfl (lv_at hl 3 rfl) ?_
  refine kt_put (pc := 52) (ws' := [(h0, .inr (2, [.ref a1, .ref a2, .ref a3, .ref q8, .ref q17, .ref q26, .ref q35, .int 0])), (q8, .inl (G.2.1, 2048, .inl (fun _ => 0))), (q17, .inl (G.2.1, 2048, .inl (fun _ => 0))), (q26, .inl (G.2.1, 2048, .inl (fun _ => 0))), (q35, .inl (G.2.1, 256, .inl (fun _ => 0)))]) C hi dX2_init_52 ev_in2 tyX2_ok nmX2 0 rfl rfl 2 (by decide) ul_2_42 rfl rfl (tyX2_ok 2 (by decide)) rfl rfl (Nat.le_of_ble_eq_true rfl) rfl ?_
  exact kr 55 ls (fun j => [q8, q17, q26, q35].getD j 0) dX2_init_55
def wf_X1_init (G : KG) (h0 : Nat) (u : Nat → Nat) : va_W := [(h0, .inr (1, [.ref (u 0), .ref (u 1), .ref (u 2), .ref (u 3), .ref (u 4), .ref (u 5), .int 0, .int 0])), ((u 0), .inl (G.2.1, 60, .inl (fun _ => 0))), ((u 1), .inl (G.2.1, 60, .inl (fun _ => 0))), ((u 2), .inl (G.2.1, 60, .inl (fun _ => 0))), ((u 3), .inl (G.2.1, 60, .inl (fun _ => 0))), ((u 4), .inl (G.2.1, 60, .inl (fun _ => 0))), ((u 5), .inl (G.2.1, 960, .inl (fun _ => 0)))]
set_option maxRecDepth 100000 in
set_option maxHeartbeats 4000000 in
theorem c_X1_init (l : Launch) (G : KG) (h0 : Nat) : CT l yX1_init Y_X1_init [.ref h0] [(h0, .inr (1, [.null, .null, .null, .null, .null, .null, .int 0, .int 0]))] 6 1260 G (wf_X1_init G h0) := by
  refine ct_met m_X1_init rfl rfl ?_
  intro p e s m args below meth c A Q ls C hi hl kr
  replace hi : meth.name = "<init>" := hi
  have hl : lv_has ls 1 [(0, .ref h0)] := hl
  refine kt_aload (pc := 0) C dX1_init_0 rfl (lv_at hl 0 rfl) ?_
  refine kt_oi (pc := 1) C dX1_init_1 ul_2_70 hl.1 rfl rfl ?_
  refine kt_aload (pc := 4) C dX1_init_4 rfl (lv_at hl 0 rfl) ?_
  refine kt_bipush (pc := 5) C dX1_init_5 (by decide) ?_
  refine kt_newI (pc := 7) (k := 0) (n := 0) (N := 60) C dX1_init_7 (by decide) (by decide) rfl rfl rfl (fun q7 => ?_)
  refine kt_put (pc := 9) (ws' := [(h0, .inr (1, [.ref q7, .null, .null, .null, .null, .null, .int 0, .int 0])), (q7, .inl (G.2.1, 60, .inl (fun _ => 0)))]) C hi dX1_init_9 ev_in1 tyX1_ok nmX1 0 rfl rfl 0 (by decide) ul_2_71 rfl rfl (tyX1_ok 0 (by decide)) rfl rfl (Nat.le_of_ble_eq_true rfl) rfl ?_
  refine kt_aload (pc := 12) C dX1_init_12 rfl (lv_at hl 0 rfl) ?_
  refine kt_bipush (pc := 13) C dX1_init_13 (by decide) ?_
  refine kt_newI (pc := 15) (k := 1) (n := 60) (N := 60) C dX1_init_15 (by decide) (by decide) rfl rfl rfl (fun q15 => ?_)
  refine kt_put (pc := 17) (ws' := [(h0, .inr (1, [.ref q7, .ref q15, .null, .null, .null, .null, .int 0, .int 0])), (q7, .inl (G.2.1, 60, .inl (fun _ => 0))), (q15, .inl (G.2.1, 60, .inl (fun _ => 0)))]) C hi dX1_init_17 ev_in1 tyX1_ok nmX1 0 rfl rfl 1 (by decide) ul_2_72 rfl rfl (tyX1_ok 1 (by decide)) rfl rfl (Nat.le_of_ble_eq_true rfl) rfl ?_
  refine kt_aload (pc := 20) C dX1_init_20 rfl (lv_at hl 0 rfl) ?_
  refine kt_bipush (pc := 21) C dX1_init_21 (by decide) ?_
  refine kt_newI (pc := 23) (k := 2) (n := 120) (N := 60) C dX1_init_23 (by decide) (by decide) rfl rfl rfl (fun q23 => ?_)
  refine kt_put (pc := 25) (ws' := [(h0, .inr (1, [.ref q7, .ref q15, .ref q23, .null, .null, .null, .int 0, .int 0])), (q7, .inl (G.2.1, 60, .inl (fun _ => 0))), (q15, .inl (G.2.1, 60, .inl (fun _ => 0))), (q23, .inl (G.2.1, 60, .inl (fun _ => 0)))]) C hi dX1_init_25 ev_in1 tyX1_ok nmX1 0 rfl rfl 2 (by decide) ul_2_73 rfl rfl (tyX1_ok 2 (by decide)) rfl rfl (Nat.le_of_ble_eq_true rfl) rfl ?_
  refine kt_aload (pc := 28) C dX1_init_28 rfl (lv_at hl 0 rfl) ?_
  refine kt_bipush (pc := 29) C dX1_init_29 (by decide) ?_
  refine kt_newI (pc := 31) (k := 3) (n := 180) (N := 60) C dX1_init_31 (by decide) (by decide) rfl rfl rfl (fun q31 => ?_)
  refine kt_put (pc := 33) (ws' := [(h0, .inr (1, [.ref q7, .ref q15, .ref q23, .ref q31, .null, .null, .int 0, .int 0])), (q7, .inl (G.2.1, 60, .inl (fun _ => 0))), (q15, .inl (G.2.1, 60, .inl (fun _ => 0))), (q23, .inl (G.2.1, 60, .inl (fun _ => 0))), (q31, .inl (G.2.1, 60, .inl (fun _ => 0)))]) C hi dX1_init_33 ev_in1 tyX1_ok nmX1 0 rfl rfl 3 (by decide) ul_2_74 rfl rfl (tyX1_ok 3 (by decide)) rfl rfl (Nat.le_of_ble_eq_true rfl) rfl ?_
  refine kt_aload (pc := 36) C dX1_init_36 rfl (lv_at hl 0 rfl) ?_
  refine kt_bipush (pc := 37) C dX1_init_37 (by decide) ?_
  refine kt_newI (pc := 39) (k := 4) (n := 240) (N := 60) C dX1_init_39 (by decide) (by decide) rfl rfl rfl (fun q39 => ?_)
  refine kt_put (pc := 41) (ws' := [(h0, .inr (1, [.ref q7, .ref q15, .ref q23, .ref q31, .ref q39, .null, .int 0, .int 0])), (q7, .inl (G.2.1, 60, .inl (fun _ => 0))), (q15, .inl (G.2.1, 60, .inl (fun _ => 0))), (q23, .inl (G.2.1, 60, .inl (fun _ => 0))), (q31, .inl (G.2.1, 60, .inl (fun _ => 0))), (q39, .inl (G.2.1, 60, .inl (fun _ => 0)))]) C hi dX1_init_41 ev_in1 tyX1_ok nmX1 0 rfl rfl 4 (by decide) ul_2_75 rfl rfl (tyX1_ok 4 (by decide)) rfl rfl (Nat.le_of_ble_eq_true rfl) rfl ?_
  refine kt_aload (pc := 44) C dX1_init_44 rfl (lv_at hl 0 rfl) ?_
  refine kt_sipush (pc := 45) C dX1_init_45 (by decide) ?_
  refine kt_newI (pc := 48) (k := 5) (n := 300) (N := 960) C dX1_init_48 (by decide) (by decide) rfl rfl rfl (fun q48 => ?_)
  refine kt_put (pc := 50) (ws' := [(h0, .inr (1, [.ref q7, .ref q15, .ref q23, .ref q31, .ref q39, .ref q48, .int 0, .int 0])), (q7, .inl (G.2.1, 60, .inl (fun _ => 0))), (q15, .inl (G.2.1, 60, .inl (fun _ => 0))), (q23, .inl (G.2.1, 60, .inl (fun _ => 0))), (q31, .inl (G.2.1, 60, .inl (fun _ => 0))), (q39, .inl (G.2.1, 60, .inl (fun _ => 0))), (q48, .inl (G.2.1, 960, .inl (fun _ => 0)))]) C hi dX1_init_50 ev_in1 tyX1_ok nmX1 0 rfl rfl 5 (by decide) ul_2_76 rfl rfl (tyX1_ok 5 (by decide)) rfl rfl (Nat.le_of_ble_eq_true rfl) rfl ?_
  exact kr 53 ls (fun j => [q7, q15, q23, q31, q39, q48].getD j 0) dX1_init_53
def wf_X7_init (G : KG) (h0 : Nat) (u : Nat → Nat) : va_W := [(h0, .inr (7, [.ref (u 0), .ref (u 1), .ref (u 2), .ref (u 3), .ref (u 4), .ref (u 5), .int 0, .int 0])), ((u 0), .inl (G.2.1, 16, .inl (fun _ => 0))), ((u 1), .inl (G.2.1, 16, .inl (fun _ => 0))), ((u 2), .inl (G.2.1, 16, .inl (fun _ => 0))), ((u 3), .inl (G.2.1, 64, .inl (fun _ => 0))), ((u 4), .inl (G.2.1, 256, .inl (dz 16))), ((u 5), .inl (G.2.1, 8, .inl (fun _ => 0)))]
set_option maxRecDepth 100000 in
set_option maxHeartbeats 4000000 in
theorem c_X7_init (l : Launch) (G : KG) (h0 : Nat) : CT l yX7_init Y_X7_init [.ref h0] [(h0, .inr (7, [.null, .null, .null, .null, .null, .null, .int 0, .int 0]))] 6 376 G (wf_X7_init G h0) := by
  refine ct_met m_X7_init rfl rfl ?_
  intro p e s m args below meth c A Q ls C hi hl kr
  replace hi : meth.name = "<init>" := hi
  have hl : lv_has ls 2 [(0, .ref h0)] := hl
  refine kt_aload (pc := 0) C dX7_init_0 rfl (lv_at hl 0 rfl) ?_
  refine kt_oi (pc := 1) C dX7_init_1 ul_1_114 hl.1 rfl rfl ?_
  refine kt_aload (pc := 4) C dX7_init_4 rfl (lv_at hl 0 rfl) ?_
  refine kt_bipush (pc := 5) C dX7_init_5 (by decide) ?_
  refine kt_newI (pc := 7) (k := 0) (n := 0) (N := 16) C dX7_init_7 (by decide) (by decide) rfl rfl rfl (fun q7 => ?_)
  refine kt_put (pc := 9) (ws' := [(h0, .inr (7, [.ref q7, .null, .null, .null, .null, .null, .int 0, .int 0])), (q7, .inl (G.2.1, 16, .inl (fun _ => 0)))]) C hi dX7_init_9 ev_in7 tyX7_ok nmX7 0 rfl rfl 0 (by decide) ul_1_116 rfl rfl (tyX7_ok 0 (by decide)) rfl rfl (Nat.le_of_ble_eq_true rfl) rfl ?_
  refine kt_aload (pc := 12) C dX7_init_12 rfl (lv_at hl 0 rfl) ?_
  refine kt_bipush (pc := 13) C dX7_init_13 (by decide) ?_
  refine kt_newI (pc := 15) (k := 1) (n := 16) (N := 16) C dX7_init_15 (by decide) (by decide) rfl rfl rfl (fun q15 => ?_)
  refine kt_put (pc := 17) (ws' := [(h0, .inr (7, [.ref q7, .ref q15, .null, .null, .null, .null, .int 0, .int 0])), (q7, .inl (G.2.1, 16, .inl (fun _ => 0))), (q15, .inl (G.2.1, 16, .inl (fun _ => 0)))]) C hi dX7_init_17 ev_in7 tyX7_ok nmX7 0 rfl rfl 1 (by decide) ul_1_118 rfl rfl (tyX7_ok 1 (by decide)) rfl rfl (Nat.le_of_ble_eq_true rfl) rfl ?_
  refine kt_aload (pc := 20) C dX7_init_20 rfl (lv_at hl 0 rfl) ?_
  refine kt_bipush (pc := 21) C dX7_init_21 (by decide) ?_
  refine kt_newI (pc := 23) (k := 2) (n := 32) (N := 16) C dX7_init_23 (by decide) (by decide) rfl rfl rfl (fun q23 => ?_)
  refine kt_put (pc := 25) (ws' := [(h0, .inr (7, [.ref q7, .ref q15, .ref q23, .null, .null, .null, .int 0, .int 0])), (q7, .inl (G.2.1, 16, .inl (fun _ => 0))), (q15, .inl (G.2.1, 16, .inl (fun _ => 0))), (q23, .inl (G.2.1, 16, .inl (fun _ => 0)))]) C hi dX7_init_25 ev_in7 tyX7_ok nmX7 0 rfl rfl 2 (by decide) ul_1_119 rfl rfl (tyX7_ok 2 (by decide)) rfl rfl (Nat.le_of_ble_eq_true rfl) rfl ?_
  refine kt_aload (pc := 28) C dX7_init_28 rfl (lv_at hl 0 rfl) ?_
  refine kt_bipush (pc := 29) C dX7_init_29 (by decide) ?_
  refine kt_newI (pc := 31) (k := 3) (n := 48) (N := 64) C dX7_init_31 (by decide) (by decide) rfl rfl rfl (fun q31 => ?_)
  refine kt_put (pc := 33) (ws' := [(h0, .inr (7, [.ref q7, .ref q15, .ref q23, .ref q31, .null, .null, .int 0, .int 0])), (q7, .inl (G.2.1, 16, .inl (fun _ => 0))), (q15, .inl (G.2.1, 16, .inl (fun _ => 0))), (q23, .inl (G.2.1, 16, .inl (fun _ => 0))), (q31, .inl (G.2.1, 64, .inl (fun _ => 0)))]) C hi dX7_init_33 ev_in7 tyX7_ok nmX7 0 rfl rfl 3 (by decide) ul_1_120 rfl rfl (tyX7_ok 3 (by decide)) rfl rfl (Nat.le_of_ble_eq_true rfl) rfl ?_
  refine kt_aload (pc := 36) C dX7_init_36 rfl (lv_at hl 0 rfl) ?_
  refine kt_sipush (pc := 37) C dX7_init_37 (by decide) ?_
  refine kt_newI (pc := 40) (k := 4) (n := 112) (N := 256) C dX7_init_40 (by decide) (by decide) rfl rfl rfl (fun q40 => ?_)
  refine kt_put (pc := 42) (ws' := [(h0, .inr (7, [.ref q7, .ref q15, .ref q23, .ref q31, .ref q40, .null, .int 0, .int 0])), (q7, .inl (G.2.1, 16, .inl (fun _ => 0))), (q15, .inl (G.2.1, 16, .inl (fun _ => 0))), (q23, .inl (G.2.1, 16, .inl (fun _ => 0))), (q31, .inl (G.2.1, 64, .inl (fun _ => 0))), (q40, .inl (G.2.1, 256, .inl (fun _ => 0)))]) C hi dX7_init_42 ev_in7 tyX7_ok nmX7 0 rfl rfl 4 (by decide) ul_1_121 rfl rfl (tyX7_ok 4 (by decide)) rfl rfl (Nat.le_of_ble_eq_true rfl) rfl ?_
  refine kt_aload (pc := 45) C dX7_init_45 rfl (lv_at hl 0 rfl) ?_
  refine kt_bipush (pc := 46) C dX7_init_46 (by decide) ?_
  refine kt_newI (pc := 48) (k := 5) (n := 368) (N := 8) C dX7_init_48 (by decide) (by decide) rfl rfl rfl (fun q48 => ?_)
  refine kt_put (pc := 50) (ws' := [(h0, .inr (7, [.ref q7, .ref q15, .ref q23, .ref q31, .ref q40, .ref q48, .int 0, .int 0])), (q7, .inl (G.2.1, 16, .inl (fun _ => 0))), (q15, .inl (G.2.1, 16, .inl (fun _ => 0))), (q23, .inl (G.2.1, 16, .inl (fun _ => 0))), (q31, .inl (G.2.1, 64, .inl (fun _ => 0))), (q40, .inl (G.2.1, 256, .inl (fun _ => 0))), (q48, .inl (G.2.1, 8, .inl (fun _ => 0)))]) C hi dX7_init_50 ev_in7 tyX7_ok nmX7 0 rfl rfl 5 (by decide) ul_1_122 rfl rfl (tyX7_ok 5 (by decide)) rfl rfl (Nat.le_of_ble_eq_true rfl) rfl ?_
  refine kt_aload (pc := 53) C dX7_init_53 rfl (lv_at hl 0 rfl) ?_
  refine kt_get (pc := 54) C dX7_init_54 ev_in7 0 rfl rfl 4 (by decide) ul_1_121 rfl ?_
  refine kt_bipush (pc := 57) C dX7_init_57 (by decide) ?_
  refine kt_callS (pc := 59) (k := 6) (n := 376) (wr := [(h0, .inr (7, [.ref q7, .ref q15, .ref q23, .ref q31, .ref q40, .ref q48, .int 0, .int 0])), (q7, .inl (G.2.1, 16, .inl (fun _ => 0))), (q15, .inl (G.2.1, 16, .inl (fun _ => 0))), (q23, .inl (G.2.1, 16, .inl (fun _ => 0))), (q31, .inl (G.2.1, 64, .inl (fun _ => 0))), (q48, .inl (G.2.1, 8, .inl (fun _ => 0)))]) (st := []) C dX7_init_59 (c_fill l G q40 256 (Int32.ofInt 9) (fun _ => 0) ⟨by decide, by decide⟩) m_J7_fill_53178 rfl ul_1_115 ul_1_31 ⟨rfl, rfl⟩ ⟨rfl, rfl⟩ [5] [0, 1, 2, 3, 4, 6] rfl rfl rfl rfl (by decide) (by decide) rfl hl.1 rfl rfl (fun _ => ?_)
  refine kt_perm (ws' := [(h0, .inr (7, [.ref q7, .ref q15, .ref q23, .ref q31, .ref q40, .ref q48, .int 0, .int 0])), (q7, .inl (G.2.1, 16, .inl (fun _ => 0))), (q15, .inl (G.2.1, 16, .inl (fun _ => 0))), (q23, .inl (G.2.1, 16, .inl (fun _ => 0))), (q31, .inl (G.2.1, 64, .inl (fun _ => 0))), (q40, .inl (G.2.1, 256, .inl (fl 256 (Int32.ofInt 9) (fun _ => 0)))), (q48, .inl (G.2.1, 8, .inl (fun _ => 0)))]) [0, 1, 2, 3, 4, 6, 5] rfl rfl rfl ?_
  have L : ∀ (d i : Nat), i + d = 16 → ∀ ls : Array Slot, lv_has ls 2 [(1, .int (Int32.ofInt (i : Int))), (0, .ref h0)] → Kt p l e { frames := Y_X7_init.2.2.2.2.1, cells := 6, slots := 376, locals := Y_X7_init.2.2.2.2.2 } s m args below meth c G A Q [(h0, .inr (7, [.ref q7, .ref q15, .ref q23, .ref q31, .ref q40, .ref q48, .int 0, .int 0])), (q7, .inl (G.2.1, 16, .inl (fun _ => 0))), (q15, .inl (G.2.1, 16, .inl (fun _ => 0))), (q23, .inl (G.2.1, 16, .inl (fun _ => 0))), (q31, .inl (G.2.1, 64, .inl (fun _ => 0))), (q40, .inl (G.2.1, 256, .inl (dz i))), (q48, .inl (G.2.1, 8, .inl (fun _ => 0)))] 6 376 64 ls [] := by
    intro d
    induction d with
    | zero =>
      intro i hi16 ls hl
      have e16 : i = 16 := by omega
      subst e16
      refine kt_iload (pc := 64) C dX7_init_64 rfl (lv_at hl 0 rfl) ?_
      refine kt_bipush (pc := 65) C dX7_init_65 (by decide) ?_
      refine kt_ge (pc := 67) (x := ((16 : Nat) : Int)) (tgt := 88) C dX7_init_67 (by decide) ⟨by decide, by decide⟩ ⟨by decide, by decide⟩ (fun _ => ?_) (fun z => absurd (by decide) z)
      exact kr 88 ls (fun j => [q7, q15, q23, q31, q40, q48].getD j 0) dX7_init_88
    | succ d ih =>
      intro i hi16 ls hl
      refine kt_iload (pc := 64) C dX7_init_64 rfl (lv_at hl 0 rfl) ?_
      refine kt_bipush (pc := 65) C dX7_init_65 (by decide) ?_
      refine kt_ge (pc := 67) (x := (i : Int)) (tgt := 88) C dX7_init_67 (by decide) ⟨by omega, by omega⟩ ⟨by decide, by decide⟩ (fun z => absurd z (by omega)) (fun _ => ?_)
      refine kt_aload (pc := 70) C dX7_init_70 rfl (lv_at hl 1 rfl) ?_
      refine kt_get (pc := 71) C dX7_init_71 ev_in7 0 rfl rfl 4 (by decide) ul_1_121 rfl ?_
      refine kt_iload (pc := 74) C dX7_init_74 rfl (lv_at hl 0 rfl) ?_
      refine kt_bipush (pc := 75) C dX7_init_75 (by decide) ?_
      refine kt_imul (pc := 77) (x := (i : Int)) (y := 16) C dX7_init_77 ?_
      refine kt_iload (pc := 78) C dX7_init_78 rfl (lv_at hl 0 rfl) ?_
      refine kt_iadd (pc := 79) (x := (i : Int) * 16) (y := (i : Int)) C dX7_init_79 ?_
      refine kt_iconst (pc := 80) C dX7_init_80 ?_
      refine kt_iast (pc := 81) (i := (i : Int) * 16 + (i : Int)) (ws' := [(h0, .inr (7, [.ref q7, .ref q15, .ref q23, .ref q31, .ref q40, .ref q48, .int 0, .int 0])), (q7, .inl (G.2.1, 16, .inl (fun _ => 0))), (q15, .inl (G.2.1, 16, .inl (fun _ => 0))), (q23, .inl (G.2.1, 16, .inl (fun _ => 0))), (q31, .inl (G.2.1, 64, .inl (fun _ => 0))), (q40, .inl (G.2.1, 256, .inl (dz (i + 1)))), (q48, .inl (G.2.1, 8, .inl (fun _ => 0)))]) C dX7_init_81 5 rfl ⟨by omega, by omega⟩ ⟨by omega, by omega⟩ (by rw [← dz_s i (by omega)]; rfl) ?_
      refine kt_iinc (pc := 82) (x := (i : Int)) (j := 0) (lv' := [(1, .int (Int32.ofInt ((i : Int) + 1))), (0, .ref h0)]) C dX7_init_82 hl rfl (by decide) rfl (fun ls hl => ?_)
      refine kt_goto (pc := 85) (tgt := 64) C dX7_init_85 (by decide) ?_
      exact ih (i + 1) (by omega) ls hl
  refine kt_iconst (pc := 62) C dX7_init_62 ?_
  refine kt_istore (pc := 63) (lv' := [(1, .int (Int32.ofInt 0)), (0, .ref h0)]) C dX7_init_63 rfl hl (by decide) rfl (fun ls hl => ?_)
  rw [dz_0]
  exact L 16 0 rfl ls hl
