/-! the world at the law's loop -/
def adS (o0 : Nat) (u4 : Nat → Nat) (o8 : Nat) (u12 : Nat → Nat) (t0 t1 t2 b : Nat) : Nat → Nat := fun k => if k = 0 then o0 else if k < 55 then u4 k else if k = 55 then o8 else if k < 90 then u12 k else if k = 90 then t0 else if k = 91 then t1 else if k = 92 then t2 else b
def wdS (G : KG) (o0 : Nat) (u4 : Nat → Nat) (o8 : Nat) (u12 : Nat → Nat) (t0 t1 t2 b L : Nat) (xs : Nat → Int32) : WD := (adS o0 u4 o8 u12 t0 t1 t2 b, G.1, G.2.1, G.2.2, L, xs)
theorem at_arr {D : va_G} {cl : List vw_C} {q : Nat} {cA : ClassId} {n : Nat} {f g : Nat → Int32} {H : Heap} (h : va_at D cl (q, .inl (cA, n, .inl f)) H) (e : ∀ j, j < n → f j = g j) : va_at D cl (q, .inl (cA, n, .inl g)) H := by
  have e2 : arrV cA n (fun j => Value.int (f j)) = arrV cA n (fun j => Value.int (g j)) := by
    unfold arrV
    congr 1
    apply Array.ext
    · simp
    · intro j h1 h2
      have hj : j < n := by simpa using h1
      simp [e j hj]
  show H[q]? = some (arrV cA n (fun j => Value.int (g j)))
  rw [← e2]
  exact h
def AllTo (P : Nat → Prop) : Nat → Prop
  | 0 => True
  | n + 1 => AllTo P n ∧ P n
theorem all_s {P : Nat → Prop} {n : Nat} (h : AllTo P n) (h2 : P n) : AllTo P (n + 1) := ⟨h, h2⟩
theorem all_to {P : Nat → Prop} : ∀ {n : Nat}, AllTo P n → ∀ k, k < n → P k
  | 0, _, k, hk => absurd hk (Nat.not_lt_zero k)
  | n + 1, h, k, hk => by
    by_cases e : k = n
    · rw [e]; exact h.2
    · exact all_to h.1 k (by omega)
abbrev wsB (G : KG) (o0 : Nat) (u4 : Nat → Nat) (o8 : Nat) (u12 : Nat → Nat) : va_W := wf_X8_init G o0 u4 ++ wf_X9_init G o8 u12
theorem i_d (n : Nat) : Int32.ofInt (if (n : Int) / 16 = (n : Int) % 16 then 0 else 9) = (if n / 16 = n % 16 then 0 else 9) := by
  by_cases h : n / 16 = n % 16
  · rw [if_pos h, if_pos (by omega)]; decide
  · rw [if_neg h, if_neg (by omega)]; decide
set_option maxRecDepth 100000 in
set_option maxHeartbeats 4000000 in
theorem start_P (G : KG) (o0 : Nat) (u4 : Nat → Nat) (o8 : Nat) (u12 : Nat → Nat) (t0 t1 t2 b L : Nat) (xs : Nat → Int32) {H : Heap} (hP : va_P G.1 ev_cl (wsB G o0 u4 o8 u12) H) : va_P G.1 ev_cl (wld (wdS G o0 u4 o8 u12 t0 t1 t2 b L xs) hz) H := by
  have h : AllTo (fun k => va_at G.1 ev_cl ((wdS G o0 u4 o8 u12 t0 t1 t2 b L xs).1 k, cE (wdS G o0 u4 o8 u12 t0 t1 t2 b L xs) hz k) H) 90 := by
    refine all_s (n := 89) ?_ (hP 89 ((wdS G o0 u4 o8 u12 t0 t1 t2 b L xs).1 89, cE (wdS G o0 u4 o8 u12 t0 t1 t2 b L xs) hz 89) rfl)
    refine all_s (n := 88) ?_ (hP 88 ((wdS G o0 u4 o8 u12 t0 t1 t2 b L xs).1 88, cE (wdS G o0 u4 o8 u12 t0 t1 t2 b L xs) hz 88) rfl)
    refine all_s (n := 87) ?_ (hP 87 ((wdS G o0 u4 o8 u12 t0 t1 t2 b L xs).1 87, cE (wdS G o0 u4 o8 u12 t0 t1 t2 b L xs) hz 87) rfl)
    refine all_s (n := 86) ?_ (hP 86 ((wdS G o0 u4 o8 u12 t0 t1 t2 b L xs).1 86, cE (wdS G o0 u4 o8 u12 t0 t1 t2 b L xs) hz 86) rfl)
    refine all_s (n := 85) ?_ (hP 85 ((wdS G o0 u4 o8 u12 t0 t1 t2 b L xs).1 85, cE (wdS G o0 u4 o8 u12 t0 t1 t2 b L xs) hz 85) rfl)
    refine all_s (n := 84) ?_ (hP 84 ((wdS G o0 u4 o8 u12 t0 t1 t2 b L xs).1 84, cE (wdS G o0 u4 o8 u12 t0 t1 t2 b L xs) hz 84) rfl)
    refine all_s (n := 83) ?_ (hP 83 ((wdS G o0 u4 o8 u12 t0 t1 t2 b L xs).1 83, cE (wdS G o0 u4 o8 u12 t0 t1 t2 b L xs) hz 83) rfl)
    refine all_s (n := 82) ?_ (hP 82 ((wdS G o0 u4 o8 u12 t0 t1 t2 b L xs).1 82, cE (wdS G o0 u4 o8 u12 t0 t1 t2 b L xs) hz 82) rfl)
    refine all_s (n := 81) ?_ (hP 81 ((wdS G o0 u4 o8 u12 t0 t1 t2 b L xs).1 81, cE (wdS G o0 u4 o8 u12 t0 t1 t2 b L xs) hz 81) rfl)
    refine all_s (n := 80) ?_ (hP 80 ((wdS G o0 u4 o8 u12 t0 t1 t2 b L xs).1 80, cE (wdS G o0 u4 o8 u12 t0 t1 t2 b L xs) hz 80) rfl)
    refine all_s (n := 79) ?_ (hP 79 ((wdS G o0 u4 o8 u12 t0 t1 t2 b L xs).1 79, cE (wdS G o0 u4 o8 u12 t0 t1 t2 b L xs) hz 79) rfl)
    refine all_s (n := 78) ?_ (hP 78 ((wdS G o0 u4 o8 u12 t0 t1 t2 b L xs).1 78, cE (wdS G o0 u4 o8 u12 t0 t1 t2 b L xs) hz 78) rfl)
    refine all_s (n := 77) ?_ (hP 77 ((wdS G o0 u4 o8 u12 t0 t1 t2 b L xs).1 77, cE (wdS G o0 u4 o8 u12 t0 t1 t2 b L xs) hz 77) rfl)
    refine all_s (n := 76) ?_ (hP 76 ((wdS G o0 u4 o8 u12 t0 t1 t2 b L xs).1 76, cE (wdS G o0 u4 o8 u12 t0 t1 t2 b L xs) hz 76) rfl)
    refine all_s (n := 75) ?_ (hP 75 ((wdS G o0 u4 o8 u12 t0 t1 t2 b L xs).1 75, cE (wdS G o0 u4 o8 u12 t0 t1 t2 b L xs) hz 75) rfl)
    refine all_s (n := 74) ?_ (hP 74 ((wdS G o0 u4 o8 u12 t0 t1 t2 b L xs).1 74, cE (wdS G o0 u4 o8 u12 t0 t1 t2 b L xs) hz 74) rfl)
    refine all_s (n := 73) ?_ (hP 73 ((wdS G o0 u4 o8 u12 t0 t1 t2 b L xs).1 73, cE (wdS G o0 u4 o8 u12 t0 t1 t2 b L xs) hz 73) rfl)
    refine all_s (n := 72) ?_ (hP 72 ((wdS G o0 u4 o8 u12 t0 t1 t2 b L xs).1 72, cE (wdS G o0 u4 o8 u12 t0 t1 t2 b L xs) hz 72) rfl)
    refine all_s (n := 71) ?_ (hP 71 ((wdS G o0 u4 o8 u12 t0 t1 t2 b L xs).1 71, cE (wdS G o0 u4 o8 u12 t0 t1 t2 b L xs) hz 71) rfl)
    refine all_s (n := 70) ?_ (hP 70 ((wdS G o0 u4 o8 u12 t0 t1 t2 b L xs).1 70, cE (wdS G o0 u4 o8 u12 t0 t1 t2 b L xs) hz 70) rfl)
    refine all_s (n := 69) ?_ (hP 69 ((wdS G o0 u4 o8 u12 t0 t1 t2 b L xs).1 69, cE (wdS G o0 u4 o8 u12 t0 t1 t2 b L xs) hz 69) rfl)
    refine all_s (n := 68) ?_ (at_arr (hP 68 _ rfl) (fun j hj => by rcases (show j = 0 ∨ j = 1 ∨ j = 2 by omega) with rfl | rfl | rfl <;> rfl))
    refine all_s (n := 67) ?_ (hP 67 ((wdS G o0 u4 o8 u12 t0 t1 t2 b L xs).1 67, cE (wdS G o0 u4 o8 u12 t0 t1 t2 b L xs) hz 67) rfl)
    refine all_s (n := 66) ?_ (hP 66 ((wdS G o0 u4 o8 u12 t0 t1 t2 b L xs).1 66, cE (wdS G o0 u4 o8 u12 t0 t1 t2 b L xs) hz 66) rfl)
    refine all_s (n := 65) ?_ (hP 65 ((wdS G o0 u4 o8 u12 t0 t1 t2 b L xs).1 65, cE (wdS G o0 u4 o8 u12 t0 t1 t2 b L xs) hz 65) rfl)
    refine all_s (n := 64) ?_ (hP 64 ((wdS G o0 u4 o8 u12 t0 t1 t2 b L xs).1 64, cE (wdS G o0 u4 o8 u12 t0 t1 t2 b L xs) hz 64) rfl)
    refine all_s (n := 63) ?_ (at_arr (hP 63 _ rfl) (fun j hj => by show fz 256 j = Int32.ofInt (if (j : Int) / 16 = (j : Int) % 16 then 0 else 9); rw [i_d]; unfold fz; rw [if_pos hj]))
    refine all_s (n := 62) ?_ (at_arr (hP 62 _ rfl) (fun j hj => by rcases (show j = 0 ∨ j = 1 ∨ j = 2 ∨ j = 3 ∨ j = 4 ∨ j = 5 by omega) with rfl | rfl | rfl | rfl | rfl | rfl <;> rfl))
    refine all_s (n := 61) ?_ (hP 61 ((wdS G o0 u4 o8 u12 t0 t1 t2 b L xs).1 61, cE (wdS G o0 u4 o8 u12 t0 t1 t2 b L xs) hz 61) rfl)
    refine all_s (n := 60) ?_ (hP 60 ((wdS G o0 u4 o8 u12 t0 t1 t2 b L xs).1 60, cE (wdS G o0 u4 o8 u12 t0 t1 t2 b L xs) hz 60) rfl)
    refine all_s (n := 59) ?_ (hP 59 ((wdS G o0 u4 o8 u12 t0 t1 t2 b L xs).1 59, cE (wdS G o0 u4 o8 u12 t0 t1 t2 b L xs) hz 59) rfl)
    refine all_s (n := 58) ?_ (hP 58 ((wdS G o0 u4 o8 u12 t0 t1 t2 b L xs).1 58, cE (wdS G o0 u4 o8 u12 t0 t1 t2 b L xs) hz 58) rfl)
    refine all_s (n := 57) ?_ (hP 57 ((wdS G o0 u4 o8 u12 t0 t1 t2 b L xs).1 57, cE (wdS G o0 u4 o8 u12 t0 t1 t2 b L xs) hz 57) rfl)
    refine all_s (n := 56) ?_ (hP 56 ((wdS G o0 u4 o8 u12 t0 t1 t2 b L xs).1 56, cE (wdS G o0 u4 o8 u12 t0 t1 t2 b L xs) hz 56) rfl)
    refine all_s (n := 55) ?_ (hP 55 ((wdS G o0 u4 o8 u12 t0 t1 t2 b L xs).1 55, cE (wdS G o0 u4 o8 u12 t0 t1 t2 b L xs) hz 55) rfl)
    refine all_s (n := 54) ?_ (at_arr (hP 54 _ rfl) (fun j hj => by rcases (show j = 0 ∨ j = 1 ∨ j = 2 by omega) with rfl | rfl | rfl <;> rfl))
    refine all_s (n := 53) ?_ (hP 53 ((wdS G o0 u4 o8 u12 t0 t1 t2 b L xs).1 53, cE (wdS G o0 u4 o8 u12 t0 t1 t2 b L xs) hz 53) rfl)
    refine all_s (n := 52) ?_ (hP 52 ((wdS G o0 u4 o8 u12 t0 t1 t2 b L xs).1 52, cE (wdS G o0 u4 o8 u12 t0 t1 t2 b L xs) hz 52) rfl)
    refine all_s (n := 51) ?_ (hP 51 ((wdS G o0 u4 o8 u12 t0 t1 t2 b L xs).1 51, cE (wdS G o0 u4 o8 u12 t0 t1 t2 b L xs) hz 51) rfl)
    refine all_s (n := 50) ?_ (hP 50 ((wdS G o0 u4 o8 u12 t0 t1 t2 b L xs).1 50, cE (wdS G o0 u4 o8 u12 t0 t1 t2 b L xs) hz 50) rfl)
    refine all_s (n := 49) ?_ (hP 49 ((wdS G o0 u4 o8 u12 t0 t1 t2 b L xs).1 49, cE (wdS G o0 u4 o8 u12 t0 t1 t2 b L xs) hz 49) rfl)
    refine all_s (n := 48) ?_ (hP 48 ((wdS G o0 u4 o8 u12 t0 t1 t2 b L xs).1 48, cE (wdS G o0 u4 o8 u12 t0 t1 t2 b L xs) hz 48) rfl)
    refine all_s (n := 47) ?_ (hP 47 ((wdS G o0 u4 o8 u12 t0 t1 t2 b L xs).1 47, cE (wdS G o0 u4 o8 u12 t0 t1 t2 b L xs) hz 47) rfl)
    refine all_s (n := 46) ?_ (hP 46 ((wdS G o0 u4 o8 u12 t0 t1 t2 b L xs).1 46, cE (wdS G o0 u4 o8 u12 t0 t1 t2 b L xs) hz 46) rfl)
    refine all_s (n := 45) ?_ (hP 45 ((wdS G o0 u4 o8 u12 t0 t1 t2 b L xs).1 45, cE (wdS G o0 u4 o8 u12 t0 t1 t2 b L xs) hz 45) rfl)
    refine all_s (n := 44) ?_ (hP 44 ((wdS G o0 u4 o8 u12 t0 t1 t2 b L xs).1 44, cE (wdS G o0 u4 o8 u12 t0 t1 t2 b L xs) hz 44) rfl)
    refine all_s (n := 43) ?_ (hP 43 ((wdS G o0 u4 o8 u12 t0 t1 t2 b L xs).1 43, cE (wdS G o0 u4 o8 u12 t0 t1 t2 b L xs) hz 43) rfl)
    refine all_s (n := 42) ?_ (hP 42 ((wdS G o0 u4 o8 u12 t0 t1 t2 b L xs).1 42, cE (wdS G o0 u4 o8 u12 t0 t1 t2 b L xs) hz 42) rfl)
    refine all_s (n := 41) ?_ (hP 41 ((wdS G o0 u4 o8 u12 t0 t1 t2 b L xs).1 41, cE (wdS G o0 u4 o8 u12 t0 t1 t2 b L xs) hz 41) rfl)
    refine all_s (n := 40) ?_ (hP 40 ((wdS G o0 u4 o8 u12 t0 t1 t2 b L xs).1 40, cE (wdS G o0 u4 o8 u12 t0 t1 t2 b L xs) hz 40) rfl)
    refine all_s (n := 39) ?_ (hP 39 ((wdS G o0 u4 o8 u12 t0 t1 t2 b L xs).1 39, cE (wdS G o0 u4 o8 u12 t0 t1 t2 b L xs) hz 39) rfl)
    refine all_s (n := 38) ?_ (hP 38 ((wdS G o0 u4 o8 u12 t0 t1 t2 b L xs).1 38, cE (wdS G o0 u4 o8 u12 t0 t1 t2 b L xs) hz 38) rfl)
    refine all_s (n := 37) ?_ (hP 37 ((wdS G o0 u4 o8 u12 t0 t1 t2 b L xs).1 37, cE (wdS G o0 u4 o8 u12 t0 t1 t2 b L xs) hz 37) rfl)
    refine all_s (n := 36) ?_ (hP 36 ((wdS G o0 u4 o8 u12 t0 t1 t2 b L xs).1 36, cE (wdS G o0 u4 o8 u12 t0 t1 t2 b L xs) hz 36) rfl)
    refine all_s (n := 35) ?_ (hP 35 ((wdS G o0 u4 o8 u12 t0 t1 t2 b L xs).1 35, cE (wdS G o0 u4 o8 u12 t0 t1 t2 b L xs) hz 35) rfl)
    refine all_s (n := 34) ?_ (hP 34 ((wdS G o0 u4 o8 u12 t0 t1 t2 b L xs).1 34, cE (wdS G o0 u4 o8 u12 t0 t1 t2 b L xs) hz 34) rfl)
    refine all_s (n := 33) ?_ (hP 33 ((wdS G o0 u4 o8 u12 t0 t1 t2 b L xs).1 33, cE (wdS G o0 u4 o8 u12 t0 t1 t2 b L xs) hz 33) rfl)
    refine all_s (n := 32) ?_ (hP 32 ((wdS G o0 u4 o8 u12 t0 t1 t2 b L xs).1 32, cE (wdS G o0 u4 o8 u12 t0 t1 t2 b L xs) hz 32) rfl)
    refine all_s (n := 31) ?_ (hP 31 ((wdS G o0 u4 o8 u12 t0 t1 t2 b L xs).1 31, cE (wdS G o0 u4 o8 u12 t0 t1 t2 b L xs) hz 31) rfl)
    refine all_s (n := 30) ?_ (hP 30 ((wdS G o0 u4 o8 u12 t0 t1 t2 b L xs).1 30, cE (wdS G o0 u4 o8 u12 t0 t1 t2 b L xs) hz 30) rfl)
    refine all_s (n := 29) ?_ (hP 29 ((wdS G o0 u4 o8 u12 t0 t1 t2 b L xs).1 29, cE (wdS G o0 u4 o8 u12 t0 t1 t2 b L xs) hz 29) rfl)
    refine all_s (n := 28) ?_ (hP 28 ((wdS G o0 u4 o8 u12 t0 t1 t2 b L xs).1 28, cE (wdS G o0 u4 o8 u12 t0 t1 t2 b L xs) hz 28) rfl)
    refine all_s (n := 27) ?_ (hP 27 ((wdS G o0 u4 o8 u12 t0 t1 t2 b L xs).1 27, cE (wdS G o0 u4 o8 u12 t0 t1 t2 b L xs) hz 27) rfl)
    refine all_s (n := 26) ?_ (hP 26 ((wdS G o0 u4 o8 u12 t0 t1 t2 b L xs).1 26, cE (wdS G o0 u4 o8 u12 t0 t1 t2 b L xs) hz 26) rfl)
    refine all_s (n := 25) ?_ (hP 25 ((wdS G o0 u4 o8 u12 t0 t1 t2 b L xs).1 25, cE (wdS G o0 u4 o8 u12 t0 t1 t2 b L xs) hz 25) rfl)
    refine all_s (n := 24) ?_ (at_arr (hP 24 _ rfl) (fun j hj => by show dz 16 j = Int32.ofInt (if (j : Int) / 16 = (j : Int) % 16 then 0 else 9); rw [i_d]; unfold dz; rw [if_pos hj]; by_cases h : j / 16 = j % 16; (· rw [if_pos h, if_pos ⟨h, by omega⟩]); (· rw [if_neg h, if_neg (fun z => h z.1)])))
    refine all_s (n := 23) ?_ (hP 23 ((wdS G o0 u4 o8 u12 t0 t1 t2 b L xs).1 23, cE (wdS G o0 u4 o8 u12 t0 t1 t2 b L xs) hz 23) rfl)
    refine all_s (n := 22) ?_ (hP 22 ((wdS G o0 u4 o8 u12 t0 t1 t2 b L xs).1 22, cE (wdS G o0 u4 o8 u12 t0 t1 t2 b L xs) hz 22) rfl)
    refine all_s (n := 21) ?_ (hP 21 ((wdS G o0 u4 o8 u12 t0 t1 t2 b L xs).1 21, cE (wdS G o0 u4 o8 u12 t0 t1 t2 b L xs) hz 21) rfl)
    refine all_s (n := 20) ?_ (hP 20 ((wdS G o0 u4 o8 u12 t0 t1 t2 b L xs).1 20, cE (wdS G o0 u4 o8 u12 t0 t1 t2 b L xs) hz 20) rfl)
    refine all_s (n := 19) ?_ (hP 19 ((wdS G o0 u4 o8 u12 t0 t1 t2 b L xs).1 19, cE (wdS G o0 u4 o8 u12 t0 t1 t2 b L xs) hz 19) rfl)
    refine all_s (n := 18) ?_ (hP 18 ((wdS G o0 u4 o8 u12 t0 t1 t2 b L xs).1 18, cE (wdS G o0 u4 o8 u12 t0 t1 t2 b L xs) hz 18) rfl)
    refine all_s (n := 17) ?_ (hP 17 ((wdS G o0 u4 o8 u12 t0 t1 t2 b L xs).1 17, cE (wdS G o0 u4 o8 u12 t0 t1 t2 b L xs) hz 17) rfl)
    refine all_s (n := 16) ?_ (hP 16 ((wdS G o0 u4 o8 u12 t0 t1 t2 b L xs).1 16, cE (wdS G o0 u4 o8 u12 t0 t1 t2 b L xs) hz 16) rfl)
    refine all_s (n := 15) ?_ (hP 15 ((wdS G o0 u4 o8 u12 t0 t1 t2 b L xs).1 15, cE (wdS G o0 u4 o8 u12 t0 t1 t2 b L xs) hz 15) rfl)
    refine all_s (n := 14) ?_ (at_arr (hP 14 _ rfl) (fun j hj => by show fl 6 (Int32.ofInt (-1)) (fun _ => 0) j = _; unfold fl; rw [if_pos hj]; rfl))
    refine all_s (n := 13) ?_ (at_arr (hP 13 _ rfl) (fun j hj => by show fl 10 (Int32.ofInt (-4)) (fun _ => 0) j = _; unfold fl; rw [if_pos hj]; rfl))
    refine all_s (n := 12) ?_ (hP 12 ((wdS G o0 u4 o8 u12 t0 t1 t2 b L xs).1 12, cE (wdS G o0 u4 o8 u12 t0 t1 t2 b L xs) hz 12) rfl)
    refine all_s (n := 11) ?_ (hP 11 ((wdS G o0 u4 o8 u12 t0 t1 t2 b L xs).1 11, cE (wdS G o0 u4 o8 u12 t0 t1 t2 b L xs) hz 11) rfl)
    refine all_s (n := 10) ?_ (hP 10 ((wdS G o0 u4 o8 u12 t0 t1 t2 b L xs).1 10, cE (wdS G o0 u4 o8 u12 t0 t1 t2 b L xs) hz 10) rfl)
    refine all_s (n := 9) ?_ (hP 9 ((wdS G o0 u4 o8 u12 t0 t1 t2 b L xs).1 9, cE (wdS G o0 u4 o8 u12 t0 t1 t2 b L xs) hz 9) rfl)
    refine all_s (n := 8) ?_ (hP 8 ((wdS G o0 u4 o8 u12 t0 t1 t2 b L xs).1 8, cE (wdS G o0 u4 o8 u12 t0 t1 t2 b L xs) hz 8) rfl)
    refine all_s (n := 7) ?_ (hP 7 ((wdS G o0 u4 o8 u12 t0 t1 t2 b L xs).1 7, cE (wdS G o0 u4 o8 u12 t0 t1 t2 b L xs) hz 7) rfl)
    refine all_s (n := 6) ?_ (hP 6 ((wdS G o0 u4 o8 u12 t0 t1 t2 b L xs).1 6, cE (wdS G o0 u4 o8 u12 t0 t1 t2 b L xs) hz 6) rfl)
    refine all_s (n := 5) ?_ (hP 5 ((wdS G o0 u4 o8 u12 t0 t1 t2 b L xs).1 5, cE (wdS G o0 u4 o8 u12 t0 t1 t2 b L xs) hz 5) rfl)
    refine all_s (n := 4) ?_ (hP 4 ((wdS G o0 u4 o8 u12 t0 t1 t2 b L xs).1 4, cE (wdS G o0 u4 o8 u12 t0 t1 t2 b L xs) hz 4) rfl)
    refine all_s (n := 3) ?_ (hP 3 ((wdS G o0 u4 o8 u12 t0 t1 t2 b L xs).1 3, cE (wdS G o0 u4 o8 u12 t0 t1 t2 b L xs) hz 3) rfl)
    refine all_s (n := 2) ?_ (hP 2 ((wdS G o0 u4 o8 u12 t0 t1 t2 b L xs).1 2, cE (wdS G o0 u4 o8 u12 t0 t1 t2 b L xs) hz 2) rfl)
    refine all_s (n := 1) ?_ (hP 1 ((wdS G o0 u4 o8 u12 t0 t1 t2 b L xs).1 1, cE (wdS G o0 u4 o8 u12 t0 t1 t2 b L xs) hz 1) rfl)
    refine all_s (n := 0) ?_ (hP 0 ((wdS G o0 u4 o8 u12 t0 t1 t2 b L xs).1 0, cE (wdS G o0 u4 o8 u12 t0 t1 t2 b L xs) hz 0) rfl)
    exact trivial
  intro k x hk
  obtain ⟨h1, rfl⟩ := wld_in hk
  exact all_to h k h1
set_option maxRecDepth 100000 in
set_option maxHeartbeats 4000000 in
theorem start_D (G : KG) (o0 : Nat) (u4 : Nat → Nat) (o8 : Nat) (u12 : Nat → Nat) (t0 t1 t2 b L : Nat) (xs : Nat → Int32) {B : Nat → Prop} (hD : va_D B (wsB G o0 u4 o8 u12)) : va_D B (wld (wdS G o0 u4 o8 u12 t0 t1 t2 b L xs) hz) := by
  have h : AllTo (fun k => ∃ e, (wsB G o0 u4 o8 u12)[k]? = some ((wdS G o0 u4 o8 u12 t0 t1 t2 b L xs).1 k, e)) 90 := by
    refine all_s (n := 89) ?_ ⟨_, rfl⟩
    refine all_s (n := 88) ?_ ⟨_, rfl⟩
    refine all_s (n := 87) ?_ ⟨_, rfl⟩
    refine all_s (n := 86) ?_ ⟨_, rfl⟩
    refine all_s (n := 85) ?_ ⟨_, rfl⟩
    refine all_s (n := 84) ?_ ⟨_, rfl⟩
    refine all_s (n := 83) ?_ ⟨_, rfl⟩
    refine all_s (n := 82) ?_ ⟨_, rfl⟩
    refine all_s (n := 81) ?_ ⟨_, rfl⟩
    refine all_s (n := 80) ?_ ⟨_, rfl⟩
    refine all_s (n := 79) ?_ ⟨_, rfl⟩
    refine all_s (n := 78) ?_ ⟨_, rfl⟩
    refine all_s (n := 77) ?_ ⟨_, rfl⟩
    refine all_s (n := 76) ?_ ⟨_, rfl⟩
    refine all_s (n := 75) ?_ ⟨_, rfl⟩
    refine all_s (n := 74) ?_ ⟨_, rfl⟩
    refine all_s (n := 73) ?_ ⟨_, rfl⟩
    refine all_s (n := 72) ?_ ⟨_, rfl⟩
    refine all_s (n := 71) ?_ ⟨_, rfl⟩
    refine all_s (n := 70) ?_ ⟨_, rfl⟩
    refine all_s (n := 69) ?_ ⟨_, rfl⟩
    refine all_s (n := 68) ?_ ⟨_, rfl⟩
    refine all_s (n := 67) ?_ ⟨_, rfl⟩
    refine all_s (n := 66) ?_ ⟨_, rfl⟩
    refine all_s (n := 65) ?_ ⟨_, rfl⟩
    refine all_s (n := 64) ?_ ⟨_, rfl⟩
    refine all_s (n := 63) ?_ ⟨_, rfl⟩
    refine all_s (n := 62) ?_ ⟨_, rfl⟩
    refine all_s (n := 61) ?_ ⟨_, rfl⟩
    refine all_s (n := 60) ?_ ⟨_, rfl⟩
    refine all_s (n := 59) ?_ ⟨_, rfl⟩
    refine all_s (n := 58) ?_ ⟨_, rfl⟩
    refine all_s (n := 57) ?_ ⟨_, rfl⟩
    refine all_s (n := 56) ?_ ⟨_, rfl⟩
    refine all_s (n := 55) ?_ ⟨_, rfl⟩
    refine all_s (n := 54) ?_ ⟨_, rfl⟩
    refine all_s (n := 53) ?_ ⟨_, rfl⟩
    refine all_s (n := 52) ?_ ⟨_, rfl⟩
    refine all_s (n := 51) ?_ ⟨_, rfl⟩
    refine all_s (n := 50) ?_ ⟨_, rfl⟩
    refine all_s (n := 49) ?_ ⟨_, rfl⟩
    refine all_s (n := 48) ?_ ⟨_, rfl⟩
    refine all_s (n := 47) ?_ ⟨_, rfl⟩
    refine all_s (n := 46) ?_ ⟨_, rfl⟩
    refine all_s (n := 45) ?_ ⟨_, rfl⟩
    refine all_s (n := 44) ?_ ⟨_, rfl⟩
    refine all_s (n := 43) ?_ ⟨_, rfl⟩
    refine all_s (n := 42) ?_ ⟨_, rfl⟩
    refine all_s (n := 41) ?_ ⟨_, rfl⟩
    refine all_s (n := 40) ?_ ⟨_, rfl⟩
    refine all_s (n := 39) ?_ ⟨_, rfl⟩
    refine all_s (n := 38) ?_ ⟨_, rfl⟩
    refine all_s (n := 37) ?_ ⟨_, rfl⟩
    refine all_s (n := 36) ?_ ⟨_, rfl⟩
    refine all_s (n := 35) ?_ ⟨_, rfl⟩
    refine all_s (n := 34) ?_ ⟨_, rfl⟩
    refine all_s (n := 33) ?_ ⟨_, rfl⟩
    refine all_s (n := 32) ?_ ⟨_, rfl⟩
    refine all_s (n := 31) ?_ ⟨_, rfl⟩
    refine all_s (n := 30) ?_ ⟨_, rfl⟩
    refine all_s (n := 29) ?_ ⟨_, rfl⟩
    refine all_s (n := 28) ?_ ⟨_, rfl⟩
    refine all_s (n := 27) ?_ ⟨_, rfl⟩
    refine all_s (n := 26) ?_ ⟨_, rfl⟩
    refine all_s (n := 25) ?_ ⟨_, rfl⟩
    refine all_s (n := 24) ?_ ⟨_, rfl⟩
    refine all_s (n := 23) ?_ ⟨_, rfl⟩
    refine all_s (n := 22) ?_ ⟨_, rfl⟩
    refine all_s (n := 21) ?_ ⟨_, rfl⟩
    refine all_s (n := 20) ?_ ⟨_, rfl⟩
    refine all_s (n := 19) ?_ ⟨_, rfl⟩
    refine all_s (n := 18) ?_ ⟨_, rfl⟩
    refine all_s (n := 17) ?_ ⟨_, rfl⟩
    refine all_s (n := 16) ?_ ⟨_, rfl⟩
    refine all_s (n := 15) ?_ ⟨_, rfl⟩
    refine all_s (n := 14) ?_ ⟨_, rfl⟩
    refine all_s (n := 13) ?_ ⟨_, rfl⟩
    refine all_s (n := 12) ?_ ⟨_, rfl⟩
    refine all_s (n := 11) ?_ ⟨_, rfl⟩
    refine all_s (n := 10) ?_ ⟨_, rfl⟩
    refine all_s (n := 9) ?_ ⟨_, rfl⟩
    refine all_s (n := 8) ?_ ⟨_, rfl⟩
    refine all_s (n := 7) ?_ ⟨_, rfl⟩
    refine all_s (n := 6) ?_ ⟨_, rfl⟩
    refine all_s (n := 5) ?_ ⟨_, rfl⟩
    refine all_s (n := 4) ?_ ⟨_, rfl⟩
    refine all_s (n := 3) ?_ ⟨_, rfl⟩
    refine all_s (n := 2) ?_ ⟨_, rfl⟩
    refine all_s (n := 1) ?_ ⟨_, rfl⟩
    refine all_s (n := 0) ?_ ⟨_, rfl⟩
    exact trivial
  refine ⟨fun i j p q h1 h2 h3 => ?_, fun k q h1 => ?_⟩
  · obtain ⟨a1, rfl⟩ := wld_in h1
    obtain ⟨a2, rfl⟩ := wld_in h2
    obtain ⟨e1, z1⟩ := all_to h i a1
    obtain ⟨e2, z2⟩ := all_to h j a2
    exact hD.1 i j _ _ z1 z2 h3
  · obtain ⟨a1, rfl⟩ := wld_in h1
    obtain ⟨e1, z1⟩ := all_to h k a1
    have z := hD.2 k (_, e1) z1
    exact z
