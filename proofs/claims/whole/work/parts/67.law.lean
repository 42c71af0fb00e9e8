/-! the law's loop -/
set_option maxRecDepth 100000 in
set_option maxHeartbeats 4000000 in
theorem v_L_law (w : WD)  (h : HP) (K : Int → HP → Prop) 
    (I1 : Nat → Int → HP → Prop)
    (PH : Nat → Int → Int → Int → HP → Prop)
    (HPH : ∀ (n1 : Nat) (x3 : Int) (g1 : HP), I1 n1 x3 g1 → (0 ≤ x3 ∧ x3 < (w.2.2.2.2.1 : Int)) → ∀ (r r' : Int) (h' : HP), PH n1 x3 r r' h' → ((r = r' → ((iR (x3 + 6)) ∧ (∃ m : Nat, m < n1 ∧ I1 m (x3 + 6) h'))) ∧ (¬ r = r' → K 0 h')))
    (H : (∃ m : Nat, I1 m 0 h))
    (H1 : ∀ (n1 : Nat) (x3 : Int) (g1 : HP), I1 n1 x3 g1 → ((iR (w.2.2.2.2.1 : Int)) ∧ ((iR ((w.2.2.2.2.1 : Int) - 6)) ∧ ((((w.2.2.2.2.1 : Int) - 6) < x3 → K 1 g1) ∧ (¬ ((w.2.2.2.2.1 : Int) - 6) < x3 → ((0 ≤ x3 ∧ x3 < (w.2.2.2.2.1 : Int)) ∧ (((iand (ro w 93 x3) 31) = 0 → ((iR (x3 + 1)) ∧ ((0 ≤ (x3 + 1) ∧ (x3 + 1) < (w.2.2.2.2.1 : Int)) ∧ ((iR (x3 + 2)) ∧ ((0 ≤ (x3 + 2) ∧ (x3 + 2) < (w.2.2.2.2.1 : Int)) ∧ ((iR (x3 + 3)) ∧ ((0 ≤ (x3 + 3) ∧ (x3 + 3) < (w.2.2.2.2.1 : Int)) ∧ (S_X8_thing (ro w 93 (x3 + 1)) (ro w 93 (x3 + 2)) (ro w 93 (x3 + 3)) g1 (fun r21 h21 => (S_X9_thing (ro w 93 (x3 + 1)) (ro w 93 (x3 + 2)) (ro w 93 (x3 + 3)) h21 (fun r22 h22 => (PH n1 x3 r21 r22 h22)))))))))))) ∧ (((iand (ro w 93 x3) 31) = 1 → ((iR (x3 + 1)) ∧ ((0 ≤ (x3 + 1) ∧ (x3 + 1) < (w.2.2.2.2.1 : Int)) ∧ ((iR (x3 + 2)) ∧ ((0 ≤ (x3 + 2) ∧ (x3 + 2) < (w.2.2.2.2.1 : Int)) ∧ (S_X8_go (ro w 93 (x3 + 1)) (ro w 93 (x3 + 2)) g1 (fun r23 h23 => (S_X9_go (ro w 93 (x3 + 1)) (ro w 93 (x3 + 2)) h23 (fun r24 h24 => (PH n1 x3 r23 r24 h24)))))))))) ∧ (((iand (ro w 93 x3) 31) = 2 → ((iR (x3 + 1)) ∧ ((0 ≤ (x3 + 1) ∧ (x3 + 1) < (w.2.2.2.2.1 : Int)) ∧ (S_X8_state (ro w 93 (x3 + 1)) g1 (fun r25 h25 => (S_X9_state (ro w 93 (x3 + 1)) h25 (fun r26 h26 => (PH n1 x3 r25 r26 h26)))))))) ∧ (((iand (ro w 93 x3) 31) = 3 → ((iR (x3 + 1)) ∧ ((0 ≤ (x3 + 1) ∧ (x3 + 1) < (w.2.2.2.2.1 : Int)) ∧ ((iR (x3 + 2)) ∧ ((0 ≤ (x3 + 2) ∧ (x3 + 2) < (w.2.2.2.2.1 : Int)) ∧ ((iR (x3 + 3)) ∧ ((0 ≤ (x3 + 3) ∧ (x3 + 3) < (w.2.2.2.2.1 : Int)) ∧ (S_X8_doubt (ro w 93 (x3 + 1)) (ro w 93 (x3 + 2)) (ro w 93 (x3 + 3)) g1 (fun r27 h27 => (S_X9_doubt (ro w 93 (x3 + 1)) (ro w 93 (x3 + 2)) (ro w 93 (x3 + 3)) h27 (fun r28 h28 => (PH n1 x3 r27 r28 h28)))))))))))) ∧ (((iand (ro w 93 x3) 31) = 4 → ((iR (x3 + 1)) ∧ ((0 ≤ (x3 + 1) ∧ (x3 + 1) < (w.2.2.2.2.1 : Int)) ∧ ((iR (x3 + 2)) ∧ ((0 ≤ (x3 + 2) ∧ (x3 + 2) < (w.2.2.2.2.1 : Int)) ∧ ((iR (x3 + 3)) ∧ ((0 ≤ (x3 + 3) ∧ (x3 + 3) < (w.2.2.2.2.1 : Int)) ∧ ((iR (x3 + 4)) ∧ ((0 ≤ (x3 + 4) ∧ (x3 + 4) < (w.2.2.2.2.1 : Int)) ∧ (S_X8_word (ro w 93 (x3 + 1)) (ro w 93 (x3 + 2)) (ro w 93 (x3 + 3)) (ro w 93 (x3 + 4)) g1 (fun r29 h29 => (S_X9_word (ro w 93 (x3 + 1)) (ro w 93 (x3 + 2)) (ro w 93 (x3 + 3)) (ro w 93 (x3 + 4)) h29 (fun r30 h30 => (PH n1 x3 r29 r30 h30)))))))))))))) ∧ (((iand (ro w 93 x3) 31) = 5 → ((iR (x3 + 1)) ∧ ((0 ≤ (x3 + 1) ∧ (x3 + 1) < (w.2.2.2.2.1 : Int)) ∧ ((iR (x3 + 2)) ∧ ((0 ≤ (x3 + 2) ∧ (x3 + 2) < (w.2.2.2.2.1 : Int)) ∧ (S_X8_rule (ro w 93 (x3 + 1)) (ro w 93 (x3 + 2)) g1 (fun r31 h31 => (S_X9_rule (ro w 93 (x3 + 1)) (ro w 93 (x3 + 2)) h31 (fun r32 h32 => (PH n1 x3 r31 r32 h32)))))))))) ∧ (((iand (ro w 93 x3) 31) = 6 → ((iR (x3 + 1)) ∧ ((0 ≤ (x3 + 1) ∧ (x3 + 1) < (w.2.2.2.2.1 : Int)) ∧ ((iR (x3 + 2)) ∧ ((0 ≤ (x3 + 2) ∧ (x3 + 2) < (w.2.2.2.2.1 : Int)) ∧ ((iR (x3 + 3)) ∧ ((0 ≤ (x3 + 3) ∧ (x3 + 3) < (w.2.2.2.2.1 : Int)) ∧ (S_X8_write (ro w 93 (x3 + 1)) (jor (jshl (ro w 93 (x3 + 2)) 32) (jand (ro w 93 (x3 + 3)) 4294967295)) g1 (fun r33 h33 => (S_X9_write (ro w 93 (x3 + 1)) (jor (jshl (ro w 93 (x3 + 2)) 32) (jand (ro w 93 (x3 + 3)) 4294967295)) h33 (fun r34 h34 => (PH n1 x3 r33 r34 h34)))))))))))) ∧ (((iand (ro w 93 x3) 31) = 7 → (S_X8_wipe g1 (fun r35 h35 => (S_X9_wipe h35 (fun r36 h36 => (PH n1 x3 r35 r36 h36)))))) ∧ (((iand (ro w 93 x3) 31) = 8 → (S_X8_fault g1 (fun r37 h37 => (S_X9_fault h37 (fun r38 h38 => (PH n1 x3 r37 r38 h38)))))) ∧ (((iand (ro w 93 x3) 31) = 9 → (S_X8_force g1 (fun r39 h39 => (S_X9_force h39 (fun r40 h40 => (PH n1 x3 r39 r40 h40)))))) ∧ (((iand (ro w 93 x3) 31) = 10 → ((iR (x3 + 1)) ∧ ((0 ≤ (x3 + 1) ∧ (x3 + 1) < (w.2.2.2.2.1 : Int)) ∧ ((iR (x3 + 2)) ∧ ((0 ≤ (x3 + 2) ∧ (x3 + 2) < (w.2.2.2.2.1 : Int)) ∧ ((iR (x3 + 3)) ∧ ((0 ≤ (x3 + 3) ∧ (x3 + 3) < (w.2.2.2.2.1 : Int)) ∧ (S_X8_may (ro w 93 (x3 + 1)) (ro w 93 (x3 + 2)) (ro w 93 (x3 + 3)) g1 (fun r41 h41 => (S_X9_may (ro w 93 (x3 + 1)) (ro w 93 (x3 + 2)) (ro w 93 (x3 + 3)) h41 (fun r42 h42 => (PH n1 x3 r41 r42 h42)))))))))))) ∧ (((iand (ro w 93 x3) 31) = 11 → (S_X8_barred g1 (fun r43 h43 => ((mfOK h43 ∧ mHOK h43) ∧ (PH n1 x3 r43 (cnt (fun k => mBar h43 k) (h43 70 1).toNat) h43))))) ∧ (((iand (ro w 93 x3) 31) = 12 → ((iR (x3 + 1)) ∧ ((0 ≤ (x3 + 1) ∧ (x3 + 1) < (w.2.2.2.2.1 : Int)) ∧ ((iR (x3 + 2)) ∧ ((0 ≤ (x3 + 2) ∧ (x3 + 2) < (w.2.2.2.2.1 : Int)) ∧ ((iR (x3 + 3)) ∧ ((0 ≤ (x3 + 3) ∧ (x3 + 3) < (w.2.2.2.2.1 : Int)) ∧ ((iR (x3 + 4)) ∧ ((0 ≤ (x3 + 4) ∧ (x3 + 4) < (w.2.2.2.2.1 : Int)) ∧ ((iR (x3 + 5)) ∧ ((0 ≤ (x3 + 5) ∧ (x3 + 5) < (w.2.2.2.2.1 : Int)) ∧ (S_X8_hear (ro w 93 (x3 + 1)) (ro w 93 (x3 + 2)) (ro w 93 (x3 + 3)) (jor (jshl (ro w 93 (x3 + 4)) 32) (jand (ro w 93 (x3 + 5)) 4294967295)) g1 (fun r44 h44 => (S_X9_hear (ro w 93 (x3 + 1)) (ro w 93 (x3 + 2)) (ro w 93 (x3 + 3)) (jor (jshl (ro w 93 (x3 + 4)) 32) (jand (ro w 93 (x3 + 5)) 4294967295)) h44 (fun r45 h45 => (PH n1 x3 r44 r45 h45)))))))))))))))) ∧ (((iand (ro w 93 x3) 31) = 13 → ((iR (x3 + 1)) ∧ ((0 ≤ (x3 + 1) ∧ (x3 + 1) < (w.2.2.2.2.1 : Int)) ∧ ((iR (x3 + 2)) ∧ ((0 ≤ (x3 + 2) ∧ (x3 + 2) < (w.2.2.2.2.1 : Int)) ∧ (S_X8_reading (ro w 93 (x3 + 1)) (ro w 93 (x3 + 2)) g1 (fun r46 h46 => (S_X9_reading (ro w 93 (x3 + 1)) (ro w 93 (x3 + 2)) h46 (fun r47 h47 => (PH n1 x3 r46 r47 h47)))))))))) ∧ (((iand (ro w 93 x3) 31) = 14 → (S_X8_open g1 (fun r48 h48 => (S_X9_open h48 (fun r49 h49 => (PH n1 x3 r48 r49 h49)))))) ∧ (((iand (ro w 93 x3) 31) = 15 → (S_X8_ask g1 (fun r50 h50 => ((mHOK h50 ∧ mVOK h50 ∧ mEOK h50) ∧ (PH n1 x3 r50 (askM h50) h50))))) ∧ (((iand (ro w 93 x3) 31) = 16 → ((iR (x3 + 1)) ∧ ((0 ≤ (x3 + 1) ∧ (x3 + 1) < (w.2.2.2.2.1 : Int)) ∧ ((iR (x3 + 2)) ∧ ((0 ≤ (x3 + 2) ∧ (x3 + 2) < (w.2.2.2.2.1 : Int)) ∧ (S_X8_answer (ro w 93 (x3 + 1)) (ro w 93 (x3 + 2)) g1 (fun r51 h51 => (S_X9_answer (ro w 93 (x3 + 1)) (ro w 93 (x3 + 2)) h51 (fun r52 h52 => (PH n1 x3 r51 r52 h52)))))))))) ∧ (((iand (ro w 93 x3) 31) = 17 → (S_X8_done g1 (fun r53 h53 => (S_X9_done h53 (fun r54 h54 => (PH n1 x3 r53 r54 h54)))))) ∧ (((iand (ro w 93 x3) 31) = 18 → (S_X8_undo g1 (fun r55 h55 => (S_X9_undo h55 (fun r56 h56 => (PH n1 x3 r55 r56 h56)))))) ∧ (((iand (ro w 93 x3) 31) = 19 → ((iR (x3 + 1)) ∧ ((0 ≤ (x3 + 1) ∧ (x3 + 1) < (w.2.2.2.2.1 : Int)) ∧ ((iR (x3 + 2)) ∧ ((0 ≤ (x3 + 2) ∧ (x3 + 2) < (w.2.2.2.2.1 : Int)) ∧ ((iR (x3 + 3)) ∧ ((0 ≤ (x3 + 3) ∧ (x3 + 3) < (w.2.2.2.2.1 : Int)) ∧ ((iR (x3 + 4)) ∧ ((0 ≤ (x3 + 4) ∧ (x3 + 4) < (w.2.2.2.2.1 : Int)) ∧ (S_X8_when (ro w 93 (x3 + 1)) (ro w 93 (x3 + 2)) (ro w 93 (x3 + 3)) (ro w 93 (x3 + 4)) g1 (fun r57 h57 => (S_X9_when (ro w 93 (x3 + 1)) (ro w 93 (x3 + 2)) (ro w 93 (x3 + 3)) (ro w 93 (x3 + 4)) h57 (fun r58 h58 => (PH n1 x3 r57 r58 h58)))))))))))))) ∧ (((iand (ro w 93 x3) 31) = 20 → ((iR (x3 + 1)) ∧ ((0 ≤ (x3 + 1) ∧ (x3 + 1) < (w.2.2.2.2.1 : Int)) ∧ ((iR (x3 + 2)) ∧ ((0 ≤ (x3 + 2) ∧ (x3 + 2) < (w.2.2.2.2.1 : Int)) ∧ ((iR (x3 + 3)) ∧ ((0 ≤ (x3 + 3) ∧ (x3 + 3) < (w.2.2.2.2.1 : Int)) ∧ (S_X8_at (ro w 93 (x3 + 1)) (ro w 93 (x3 + 2)) (ro w 93 (x3 + 3)) g1 (fun r59 h59 => (S_X9_at (ro w 93 (x3 + 1)) (ro w 93 (x3 + 2)) (ro w 93 (x3 + 3)) h59 (fun r60 h60 => (PH n1 x3 r59 r60 h60)))))))))))) ∧ (((iand (ro w 93 x3) 31) = 21 → ((iR (x3 + 1)) ∧ ((0 ≤ (x3 + 1) ∧ (x3 + 1) < (w.2.2.2.2.1 : Int)) ∧ (S_X8_ticks (ro w 93 (x3 + 1)) g1 (fun r61 h61 => (S_X9_ticks (ro w 93 (x3 + 1)) h61 (fun r62 h62 => (PH n1 x3 r61 r62 h62)))))))) ∧ (((iand (ro w 93 x3) 31) = 22 → (S_X8_quarrel g1 (fun r63 h63 => ((0 ≤ h63 55 33 ∧ h63 55 33 ≤ 8) ∧ (PH n1 x3 r63 (qrl (fun a b => (h63 79 (5 * a) = h63 79 (5 * b) ∧ h63 79 (5 * a + 1) = h63 79 (5 * b + 1) ∧ h63 79 (5 * a + 2) = h63 79 (5 * b + 2)) ∧ h63 79 (5 * a + 3) = h63 79 (5 * b + 3) ∧ ¬ h63 79 (5 * a + 4) = h63 79 (5 * b + 4)) (h63 55 33).toNat) h63))))) ∧ (((iand (ro w 93 x3) 31) = 23 → (S_X8_wake g1 (fun r64 h64 => ((0 ≤ h64 55 33 ∧ h64 55 33 ≤ 8) ∧ (PH n1 x3 r64 (fs4 (selfW (wiM h64) (h64 55 33)) (h64 55 33).toNat) h64))))) ∧ (((iand (ro w 93 x3) 31) = 24 → (S_X8_show g1 (fun r65 h65 => (S_X9_show h65 (fun r66 h66 => (PH n1 x3 r65 r66 h66)))))) ∧ (((iand (ro w 93 x3) 31) = 25 → ((iR (x3 + 1)) ∧ ((0 ≤ (x3 + 1) ∧ (x3 + 1) < (w.2.2.2.2.1 : Int)) ∧ ((iR (x3 + 2)) ∧ ((0 ≤ (x3 + 2) ∧ (x3 + 2) < (w.2.2.2.2.1 : Int)) ∧ ((iR (x3 + 3)) ∧ ((0 ≤ (x3 + 3) ∧ (x3 + 3) < (w.2.2.2.2.1 : Int)) ∧ (S_X8_habits (ro w 93 (x3 + 1)) (ro w 93 (x3 + 2)) (ro w 93 (x3 + 3)) g1 (fun r67 h67 => (((0 ≤ h67 55 0 ∧ h67 55 0 ≤ 10) ∧ (0 ≤ h67 55 8 ∧ h67 55 8 ≤ 1000000000) ∧ (0 ≤ h67 55 36 ∧ h67 55 36 ≤ 60)) ∧ (PH n1 x3 r67 (hbM h67 (ro w 93 (x3 + 1)) (ro w 93 (x3 + 2)) (ro w 93 (x3 + 3))) h67))))))))))) ∧ (((iand (ro w 93 x3) 31) = 26 → ((iR (x3 + 1)) ∧ ((0 ≤ (x3 + 1) ∧ (x3 + 1) < (w.2.2.2.2.1 : Int)) ∧ (S_X8_keepHabit (ro w 93 (x3 + 1)) g1 (fun r68 h68 => (S_X9_keepHabit (ro w 93 (x3 + 1)) h68 (fun r69 h69 => (PH n1 x3 r68 r69 h69)))))))) ∧ (((iand (ro w 93 x3) 31) = 27 → ((iR (x3 + 1)) ∧ ((0 ≤ (x3 + 1) ∧ (x3 + 1) < (w.2.2.2.2.1 : Int)) ∧ (S_X8_forget (ro w 93 (x3 + 1)) g1 (fun r70 h70 => (S_X9_forget (ro w 93 (x3 + 1)) h70 (fun r71 h71 => (PH n1 x3 r70 r71 h71)))))))) ∧ (((iand (ro w 93 x3) 31) = 28 → ((iR (x3 + 1)) ∧ ((0 ≤ (x3 + 1) ∧ (x3 + 1) < (w.2.2.2.2.1 : Int)) ∧ (S_X8_cost (ro w 93 (x3 + 1)) g1 (fun r72 h72 => (((0 ≤ h72 55 0 ∧ h72 55 0 ≤ 10) ∧ ∀ i : Int, 0 ≤ i → i < 10 → 0 ≤ h72 59 i ∧ h72 59 i ≤ 100000000) ∧ (PH n1 x3 r72 (coM h72 (ro w 93 (x3 + 1))) h72))))))) ∧ (((iand (ro w 93 x3) 31) = 29 → ((iR (x3 + 1)) ∧ ((0 ≤ (x3 + 1) ∧ (x3 + 1) < (w.2.2.2.2.1 : Int)) ∧ (S_X8_why (ro w 93 (x3 + 1)) g1 (fun r73 h73 => (S_X9_why (ro w 93 (x3 + 1)) h73 (fun r74 h74 => (PH n1 x3 r73 r74 h74)))))))) ∧ (((iand (ro w 93 x3) 31) = 30 → ((iR (x3 + 1)) ∧ ((0 ≤ (x3 + 1) ∧ (x3 + 1) < (w.2.2.2.2.1 : Int)) ∧ (S_X8_count (ro w 93 (x3 + 1)) g1 (fun r75 h75 => (S_X9_count (ro w 93 (x3 + 1)) h75 (fun r76 h76 => (PH n1 x3 r75 r76 h76)))))))) ∧ (((iand (ro w 93 x3) 31) < 0 ∨ 30 < (iand (ro w 93 x3) 31)) → ((iR (x3 + 6)) ∧ (∃ m : Nat, m < n1 ∧ I1 m (x3 + 6) g1)))))))))))))))))))))))))))))))))))))))) :
    Ev w Y_L_law 18 [some (vR 93), some (vR 0), some (vR 55), some (vI 0)] [] h (rI K) := by
  have L1 : ∀ (n1 : Nat) (x3 : Int) (g1 : HP), I1 n1 x3 g1 → Ev w Y_L_law 18 [some (vR 93), some (vR 0), some (vR 55), some (vI x3)] [] g1 (rI K) := by
    intro n1
    induction n1 using Nat.strongRecOn with
    | ind n1 ih1 =>
      intro x3 g1 HI
      have H := H1 n1 x3 g1 HI
      refine e_iload_n (pc := 18) dL_law_18 rfl rfl ?_
      refine e_aload_n (pc := 19) dL_law_19 rfl rfl ?_
      have ob20 := H.1
      have H := H.2
      refine e_rolen (q := 93) (pc := 20) dL_law_20 ⟨by decide, by decide⟩ ob20 ?_
      refine e_bipush (pc := 21) dL_law_21 ⟨by decide, by decide⟩ (by decide) ?_
      have ob23 := H.1
      have H := H.2
      refine e_isub (pc := 23) dL_law_23 ob23 ?_
      refine e_icmp_gt (pc := 24) (tgt := 1081) dL_law_24 (by decide) (fun c1 => ?_) (fun c1 => ?_)
      · have H := H.1 c1
        refine e_iconst (pc := 1081) dL_law_1081 ⟨by decide, by decide⟩ ?_
        exact e_ret (pc := 1082) (v := some (vI 1)) dL_law_1082 rfl (Or.inr rfl) ⟨_, rfl, H⟩
      · have H := H.2 c1
        refine e_aload_n (pc := 27) dL_law_27 rfl rfl ?_
        refine e_iload_n (pc := 28) dL_law_28 rfl rfl ?_
        have ob29 := H.1
        have H := H.2
        refine e_rold (q := 93) (x := (ro w 93 x3)) (pc := 29) dL_law_29 ⟨by decide, by decide⟩ ob29 rfl (ro_R w 93 _) ?_
        refine e_bipush (pc := 30) dL_law_30 ⟨by decide, by decide⟩ (by decide) ?_
        refine e_iand (pc := 32) dL_law_32 ?_
        refine e_table (pc := 33) dL_law_33 (fun c2 => ?_) (fun c3 c4 => ?_)
        · have H := H.2.2.2.2.2.2.2.2.2.2.2.2.2.2.2.2.2.2.2.2.2.2.2.2.2.2.2.2.2.2.2 c2
          refine ⟨1075, by decide, ?_⟩
          have ob1075 := H.1
          have H := H.2
          refine e_iinc (lv' := [some (vR 93), some (vR 0), some (vR 55), some (vI (x3 + 6))]) (pc := 1075) dL_law_1075 rfl ob1075 rfl rfl ?_
          refine e_goto (pc := 1078) (tgt := 18) dL_law_1078 (by decide) ?_
          obtain ⟨m, hm, H⟩ := H
          exact ih1 m hm _ _ H
        · have c2 : (iand (ro w 93 x3) 31) = 0 ∨ (iand (ro w 93 x3) 31) = 1 ∨ (iand (ro w 93 x3) 31) = 2 ∨ (iand (ro w 93 x3) 31) = 3 ∨ (iand (ro w 93 x3) 31) = 4 ∨ (iand (ro w 93 x3) 31) = 5 ∨ (iand (ro w 93 x3) 31) = 6 ∨ (iand (ro w 93 x3) 31) = 7 ∨ (iand (ro w 93 x3) 31) = 8 ∨ (iand (ro w 93 x3) 31) = 9 ∨ (iand (ro w 93 x3) 31) = 10 ∨ (iand (ro w 93 x3) 31) = 11 ∨ (iand (ro w 93 x3) 31) = 12 ∨ (iand (ro w 93 x3) 31) = 13 ∨ (iand (ro w 93 x3) 31) = 14 ∨ (iand (ro w 93 x3) 31) = 15 ∨ (iand (ro w 93 x3) 31) = 16 ∨ (iand (ro w 93 x3) 31) = 17 ∨ (iand (ro w 93 x3) 31) = 18 ∨ (iand (ro w 93 x3) 31) = 19 ∨ (iand (ro w 93 x3) 31) = 20 ∨ (iand (ro w 93 x3) 31) = 21 ∨ (iand (ro w 93 x3) 31) = 22 ∨ (iand (ro w 93 x3) 31) = 23 ∨ (iand (ro w 93 x3) 31) = 24 ∨ (iand (ro w 93 x3) 31) = 25 ∨ (iand (ro w 93 x3) 31) = 26 ∨ (iand (ro w 93 x3) 31) = 27 ∨ (iand (ro w 93 x3) 31) = 28 ∨ (iand (ro w 93 x3) 31) = 29 ∨ (iand (ro w 93 x3) 31) = 30 := by omega
          rcases c2 with c2 | c2 | c2 | c2 | c2 | c2 | c2 | c2 | c2 | c2 | c2 | c2 | c2 | c2 | c2 | c2 | c2 | c2 | c2 | c2 | c2 | c2 | c2 | c2 | c2 | c2 | c2 | c2 | c2 | c2 | c2
          · have H := H.1 c2
            refine ⟨139, 172, by rw [c2]; rfl, by decide, ?_⟩
            refine e_aload_n (pc := 172) dL_law_172 rfl rfl ?_
            refine e_aload_n (pc := 173) dL_law_173 rfl rfl ?_
            refine e_iload_n (pc := 174) dL_law_174 rfl rfl ?_
            refine e_iconst (pc := 175) dL_law_175 ⟨by decide, by decide⟩ ?_
            have ob176 := H.1
            have H := H.2
            refine e_iadd (pc := 176) dL_law_176 ob176 ?_
            have ob177 := H.1
            have H := H.2
            refine e_rold (q := 93) (x := (ro w 93 (x3 + 1))) (pc := 177) dL_law_177 ⟨by decide, by decide⟩ ob177 rfl (ro_R w 93 _) ?_
            refine e_aload_n (pc := 178) dL_law_178 rfl rfl ?_
            refine e_iload_n (pc := 179) dL_law_179 rfl rfl ?_
            refine e_iconst (pc := 180) dL_law_180 ⟨by decide, by decide⟩ ?_
            have ob181 := H.1
            have H := H.2
            refine e_iadd (pc := 181) dL_law_181 ob181 ?_
            have ob182 := H.1
            have H := H.2
            refine e_rold (q := 93) (x := (ro w 93 (x3 + 2))) (pc := 182) dL_law_182 ⟨by decide, by decide⟩ ob182 rfl (ro_R w 93 _) ?_
            refine e_aload_n (pc := 183) dL_law_183 rfl rfl ?_
            refine e_iload_n (pc := 184) dL_law_184 rfl rfl ?_
            refine e_iconst (pc := 185) dL_law_185 ⟨by decide, by decide⟩ ?_
            have ob186 := H.1
            have H := H.2
            refine e_iadd (pc := 186) dL_law_186 ob186 ?_
            have ob187 := H.1
            have H := H.2
            refine e_rold (q := 93) (x := (ro w 93 (x3 + 3))) (pc := 187) dL_law_187 ⟨by decide, by decide⟩ ob187 rfl (ro_R w 93 _) ?_
            refine e_invV (pc := 188) (Y' := Y_X8_thing) (as := [vI (ro w 93 (x3 + 1)), vI (ro w 93 (x3 + 2)), vI (ro w 93 (x3 + 3))]) (st := []) (lv0 := [some (vR 0), some (vI (ro w 93 (x3 + 1))), some (vI (ro w 93 (x3 + 2))), some (vI (ro w 93 (x3 + 3)))]) (q := 0) (ci := 8) (T := TX8) (N := 9) dL_law_188 m_X8_thing ul_2_126 ⟨ul_2_127, ul_2_128⟩ ⟨rfl, rfl⟩ rfl rfl rfl rfl rfl rfl rfl (c_X8_thing w (ro w 93 (x3 + 1)) (ro w 93 (x3 + 2)) (ro w 93 (x3 + 3)) g1 _ H) ?_
            rintro _ h21 ⟨r21, rfl, H⟩
            show Ev w Y_L_law 191 [some (vR 93), some (vR 0), some (vR 55), some (vI x3)] [vI r21] h21 (rI K)
            refine e_aload_n (pc := 191) dL_law_191 rfl rfl ?_
            refine e_aload_n (pc := 192) dL_law_192 rfl rfl ?_
            refine e_iload_n (pc := 193) dL_law_193 rfl rfl ?_
            refine e_iconst (pc := 194) dL_law_194 ⟨by decide, by decide⟩ ?_
            refine e_iadd (pc := 195) dL_law_195 ob176 ?_
            refine e_rold (q := 93) (x := (ro w 93 (x3 + 1))) (pc := 196) dL_law_196 ⟨by decide, by decide⟩ ob177 rfl (ro_R w 93 _) ?_
            refine e_aload_n (pc := 197) dL_law_197 rfl rfl ?_
            refine e_iload_n (pc := 198) dL_law_198 rfl rfl ?_
            refine e_iconst (pc := 199) dL_law_199 ⟨by decide, by decide⟩ ?_
            refine e_iadd (pc := 200) dL_law_200 ob181 ?_
            refine e_rold (q := 93) (x := (ro w 93 (x3 + 2))) (pc := 201) dL_law_201 ⟨by decide, by decide⟩ ob182 rfl (ro_R w 93 _) ?_
            refine e_aload_n (pc := 202) dL_law_202 rfl rfl ?_
            refine e_iload_n (pc := 203) dL_law_203 rfl rfl ?_
            refine e_iconst (pc := 204) dL_law_204 ⟨by decide, by decide⟩ ?_
            refine e_iadd (pc := 205) dL_law_205 ob186 ?_
            refine e_rold (q := 93) (x := (ro w 93 (x3 + 3))) (pc := 206) dL_law_206 ⟨by decide, by decide⟩ ob187 rfl (ro_R w 93 _) ?_
            refine e_invV (pc := 207) (Y' := Y_X9_thing) (as := [vI (ro w 93 (x3 + 1)), vI (ro w 93 (x3 + 2)), vI (ro w 93 (x3 + 3))]) (st := [vI r21]) (lv0 := [some (vR 55), some (vI (ro w 93 (x3 + 1))), some (vI (ro w 93 (x3 + 2))), some (vI (ro w 93 (x3 + 3)))]) (q := 55) (ci := 9) (T := TX9) (N := 52) dL_law_207 m_X9_thing ul_5_99 ⟨ul_5_100, ul_5_101⟩ ⟨rfl, rfl⟩ rfl rfl rfl rfl rfl rfl rfl (c_X9_thing w (ro w 93 (x3 + 1)) (ro w 93 (x3 + 2)) (ro w 93 (x3 + 3)) h21 _ H) ?_
            rintro _ h22 ⟨r22, rfl, H⟩
            show Ev w Y_L_law 210 [some (vR 93), some (vR 0), some (vR 55), some (vI x3)] [vI r22, vI r21] h22 (rI K)
            have H := HPH n1 x3 g1 HI ob29 _ _ _ H
            refine e_icmp_eq (pc := 210) (tgt := 1075) dL_law_210 (by decide) (fun c5 => ?_) (fun c5 => ?_)
            · have H := H.1 c5
              have ob1075 := H.1
              have H := H.2
              refine e_iinc (lv' := [some (vR 93), some (vR 0), some (vR 55), some (vI (x3 + 6))]) (pc := 1075) dL_law_1075 rfl ob1075 rfl rfl ?_
              refine e_goto (pc := 1078) (tgt := 18) dL_law_1078 (by decide) ?_
              obtain ⟨m, hm, H⟩ := H
              exact ih1 m hm _ _ H
            · have H := H.2 c5
              refine e_iconst (pc := 213) dL_law_213 ⟨by decide, by decide⟩ ?_
              exact e_ret (pc := 214) (v := some (vI 0)) dL_law_214 rfl (Or.inl rfl) ⟨_, rfl, H⟩
          · have H := H.2.1 c2
            refine ⟨182, 215, by rw [c2]; rfl, by decide, ?_⟩
            refine e_aload_n (pc := 215) dL_law_215 rfl rfl ?_
            refine e_aload_n (pc := 216) dL_law_216 rfl rfl ?_
            refine e_iload_n (pc := 217) dL_law_217 rfl rfl ?_
            refine e_iconst (pc := 218) dL_law_218 ⟨by decide, by decide⟩ ?_
            have ob219 := H.1
            have H := H.2
            refine e_iadd (pc := 219) dL_law_219 ob219 ?_
            have ob220 := H.1
            have H := H.2
            refine e_rold (q := 93) (x := (ro w 93 (x3 + 1))) (pc := 220) dL_law_220 ⟨by decide, by decide⟩ ob220 rfl (ro_R w 93 _) ?_
            refine e_aload_n (pc := 221) dL_law_221 rfl rfl ?_
            refine e_iload_n (pc := 222) dL_law_222 rfl rfl ?_
            refine e_iconst (pc := 223) dL_law_223 ⟨by decide, by decide⟩ ?_
            have ob224 := H.1
            have H := H.2
            refine e_iadd (pc := 224) dL_law_224 ob224 ?_
            have ob225 := H.1
            have H := H.2
            refine e_rold (q := 93) (x := (ro w 93 (x3 + 2))) (pc := 225) dL_law_225 ⟨by decide, by decide⟩ ob225 rfl (ro_R w 93 _) ?_
            refine e_invV (pc := 226) (Y' := Y_X8_go) (as := [vI (ro w 93 (x3 + 1)), vI (ro w 93 (x3 + 2))]) (st := []) (lv0 := [some (vR 0), some (vI (ro w 93 (x3 + 1))), some (vI (ro w 93 (x3 + 2)))]) (q := 0) (ci := 8) (T := TX8) (N := 9) dL_law_226 m_X8_go ul_2_137 ⟨ul_2_138, ul_2_139⟩ ⟨rfl, rfl⟩ rfl rfl rfl rfl rfl rfl rfl (c_X8_go w (ro w 93 (x3 + 1)) (ro w 93 (x3 + 2)) g1 _ H) ?_
            rintro _ h23 ⟨r23, rfl, H⟩
            show Ev w Y_L_law 229 [some (vR 93), some (vR 0), some (vR 55), some (vI x3)] [vI r23] h23 (rI K)
            refine e_aload_n (pc := 229) dL_law_229 rfl rfl ?_
            refine e_aload_n (pc := 230) dL_law_230 rfl rfl ?_
            refine e_iload_n (pc := 231) dL_law_231 rfl rfl ?_
            refine e_iconst (pc := 232) dL_law_232 ⟨by decide, by decide⟩ ?_
            refine e_iadd (pc := 233) dL_law_233 ob219 ?_
            refine e_rold (q := 93) (x := (ro w 93 (x3 + 1))) (pc := 234) dL_law_234 ⟨by decide, by decide⟩ ob220 rfl (ro_R w 93 _) ?_
            refine e_aload_n (pc := 235) dL_law_235 rfl rfl ?_
            refine e_iload_n (pc := 236) dL_law_236 rfl rfl ?_
            refine e_iconst (pc := 237) dL_law_237 ⟨by decide, by decide⟩ ?_
            refine e_iadd (pc := 238) dL_law_238 ob224 ?_
            refine e_rold (q := 93) (x := (ro w 93 (x3 + 2))) (pc := 239) dL_law_239 ⟨by decide, by decide⟩ ob225 rfl (ro_R w 93 _) ?_
            refine e_invV (pc := 240) (Y' := Y_X9_go) (as := [vI (ro w 93 (x3 + 1)), vI (ro w 93 (x3 + 2))]) (st := [vI r23]) (lv0 := [some (vR 55), some (vI (ro w 93 (x3 + 1))), some (vI (ro w 93 (x3 + 2))), none]) (q := 55) (ci := 9) (T := TX9) (N := 52) dL_law_240 m_X9_go ul_5_109 ⟨ul_5_110, ul_5_111⟩ ⟨rfl, rfl⟩ rfl rfl rfl rfl rfl rfl rfl (c_X9_go w (ro w 93 (x3 + 1)) (ro w 93 (x3 + 2)) h23 _ H) ?_
            rintro _ h24 ⟨r24, rfl, H⟩
            show Ev w Y_L_law 243 [some (vR 93), some (vR 0), some (vR 55), some (vI x3)] [vI r24, vI r23] h24 (rI K)
            have H := HPH n1 x3 g1 HI ob29 _ _ _ H
            refine e_icmp_eq (pc := 243) (tgt := 1075) dL_law_243 (by decide) (fun c6 => ?_) (fun c6 => ?_)
            · have H := H.1 c6
              have ob1075 := H.1
              have H := H.2
              refine e_iinc (lv' := [some (vR 93), some (vR 0), some (vR 55), some (vI (x3 + 6))]) (pc := 1075) dL_law_1075 rfl ob1075 rfl rfl ?_
              refine e_goto (pc := 1078) (tgt := 18) dL_law_1078 (by decide) ?_
              obtain ⟨m, hm, H⟩ := H
              exact ih1 m hm _ _ H
            · have H := H.2 c6
              refine e_iconst (pc := 246) dL_law_246 ⟨by decide, by decide⟩ ?_
              exact e_ret (pc := 247) (v := some (vI 0)) dL_law_247 rfl (Or.inl rfl) ⟨_, rfl, H⟩
          · have H := H.2.2.1 c2
            refine ⟨215, 248, by rw [c2]; rfl, by decide, ?_⟩
            refine e_aload_n (pc := 248) dL_law_248 rfl rfl ?_
            refine e_aload_n (pc := 249) dL_law_249 rfl rfl ?_
            refine e_iload_n (pc := 250) dL_law_250 rfl rfl ?_
            refine e_iconst (pc := 251) dL_law_251 ⟨by decide, by decide⟩ ?_
            have ob252 := H.1
            have H := H.2
            refine e_iadd (pc := 252) dL_law_252 ob252 ?_
            have ob253 := H.1
            have H := H.2
            refine e_rold (q := 93) (x := (ro w 93 (x3 + 1))) (pc := 253) dL_law_253 ⟨by decide, by decide⟩ ob253 rfl (ro_R w 93 _) ?_
            refine e_invV (pc := 254) (Y' := Y_X8_state) (as := [vI (ro w 93 (x3 + 1))]) (st := []) (lv0 := [some (vR 0), some (vI (ro w 93 (x3 + 1)))]) (q := 0) (ci := 8) (T := TX8) (N := 9) dL_law_254 m_X8_state ul_2_145 ⟨ul_2_146, ul_2_147⟩ ⟨rfl, rfl⟩ rfl rfl rfl rfl rfl rfl rfl (c_X8_state w (ro w 93 (x3 + 1)) g1 _ H) ?_
            rintro _ h25 ⟨r25, rfl, H⟩
            show Ev w Y_L_law 257 [some (vR 93), some (vR 0), some (vR 55), some (vI x3)] [vI r25] h25 (rI K)
            refine e_aload_n (pc := 257) dL_law_257 rfl rfl ?_
            refine e_aload_n (pc := 258) dL_law_258 rfl rfl ?_
            refine e_iload_n (pc := 259) dL_law_259 rfl rfl ?_
            refine e_iconst (pc := 260) dL_law_260 ⟨by decide, by decide⟩ ?_
            refine e_iadd (pc := 261) dL_law_261 ob252 ?_
            refine e_rold (q := 93) (x := (ro w 93 (x3 + 1))) (pc := 262) dL_law_262 ⟨by decide, by decide⟩ ob253 rfl (ro_R w 93 _) ?_
            refine e_invV (pc := 263) (Y' := Y_X9_state) (as := [vI (ro w 93 (x3 + 1))]) (st := [vI r25]) (lv0 := [some (vR 55), some (vI (ro w 93 (x3 + 1)))]) (q := 55) (ci := 9) (T := TX9) (N := 52) dL_law_263 m_X9_state ul_5_115 ⟨ul_5_116, ul_5_117⟩ ⟨rfl, rfl⟩ rfl rfl rfl rfl rfl rfl rfl (c_X9_state w (ro w 93 (x3 + 1)) h25 _ H) ?_
            rintro _ h26 ⟨r26, rfl, H⟩
            show Ev w Y_L_law 266 [some (vR 93), some (vR 0), some (vR 55), some (vI x3)] [vI r26, vI r25] h26 (rI K)
            have H := HPH n1 x3 g1 HI ob29 _ _ _ H
            refine e_icmp_eq (pc := 266) (tgt := 1075) dL_law_266 (by decide) (fun c7 => ?_) (fun c7 => ?_)
            · have H := H.1 c7
              have ob1075 := H.1
              have H := H.2
              refine e_iinc (lv' := [some (vR 93), some (vR 0), some (vR 55), some (vI (x3 + 6))]) (pc := 1075) dL_law_1075 rfl ob1075 rfl rfl ?_
              refine e_goto (pc := 1078) (tgt := 18) dL_law_1078 (by decide) ?_
              obtain ⟨m, hm, H⟩ := H
              exact ih1 m hm _ _ H
            · have H := H.2 c7
              refine e_iconst (pc := 269) dL_law_269 ⟨by decide, by decide⟩ ?_
              exact e_ret (pc := 270) (v := some (vI 0)) dL_law_270 rfl (Or.inl rfl) ⟨_, rfl, H⟩
          · have H := H.2.2.2.1 c2
            refine ⟨238, 271, by rw [c2]; rfl, by decide, ?_⟩
            refine e_aload_n (pc := 271) dL_law_271 rfl rfl ?_
            refine e_aload_n (pc := 272) dL_law_272 rfl rfl ?_
            refine e_iload_n (pc := 273) dL_law_273 rfl rfl ?_
            refine e_iconst (pc := 274) dL_law_274 ⟨by decide, by decide⟩ ?_
            have ob275 := H.1
            have H := H.2
            refine e_iadd (pc := 275) dL_law_275 ob275 ?_
            have ob276 := H.1
            have H := H.2
            refine e_rold (q := 93) (x := (ro w 93 (x3 + 1))) (pc := 276) dL_law_276 ⟨by decide, by decide⟩ ob276 rfl (ro_R w 93 _) ?_
            refine e_aload_n (pc := 277) dL_law_277 rfl rfl ?_
            refine e_iload_n (pc := 278) dL_law_278 rfl rfl ?_
            refine e_iconst (pc := 279) dL_law_279 ⟨by decide, by decide⟩ ?_
            have ob280 := H.1
            have H := H.2
            refine e_iadd (pc := 280) dL_law_280 ob280 ?_
            have ob281 := H.1
            have H := H.2
            refine e_rold (q := 93) (x := (ro w 93 (x3 + 2))) (pc := 281) dL_law_281 ⟨by decide, by decide⟩ ob281 rfl (ro_R w 93 _) ?_
            refine e_aload_n (pc := 282) dL_law_282 rfl rfl ?_
            refine e_iload_n (pc := 283) dL_law_283 rfl rfl ?_
            refine e_iconst (pc := 284) dL_law_284 ⟨by decide, by decide⟩ ?_
            have ob285 := H.1
            have H := H.2
            refine e_iadd (pc := 285) dL_law_285 ob285 ?_
            have ob286 := H.1
            have H := H.2
            refine e_rold (q := 93) (x := (ro w 93 (x3 + 3))) (pc := 286) dL_law_286 ⟨by decide, by decide⟩ ob286 rfl (ro_R w 93 _) ?_
            refine e_invV (pc := 287) (Y' := Y_X8_doubt) (as := [vI (ro w 93 (x3 + 1)), vI (ro w 93 (x3 + 2)), vI (ro w 93 (x3 + 3))]) (st := []) (lv0 := [some (vR 0), some (vI (ro w 93 (x3 + 1))), some (vI (ro w 93 (x3 + 2))), some (vI (ro w 93 (x3 + 3)))]) (q := 0) (ci := 8) (T := TX8) (N := 9) dL_law_287 m_X8_doubt ul_2_156 ⟨ul_2_157, ul_2_158⟩ ⟨rfl, rfl⟩ rfl rfl rfl rfl rfl rfl rfl (c_X8_doubt w (ro w 93 (x3 + 1)) (ro w 93 (x3 + 2)) (ro w 93 (x3 + 3)) g1 _ H) ?_
            rintro _ h27 ⟨r27, rfl, H⟩
            show Ev w Y_L_law 290 [some (vR 93), some (vR 0), some (vR 55), some (vI x3)] [vI r27] h27 (rI K)
            refine e_aload_n (pc := 290) dL_law_290 rfl rfl ?_
            refine e_aload_n (pc := 291) dL_law_291 rfl rfl ?_
            refine e_iload_n (pc := 292) dL_law_292 rfl rfl ?_
            refine e_iconst (pc := 293) dL_law_293 ⟨by decide, by decide⟩ ?_
            refine e_iadd (pc := 294) dL_law_294 ob275 ?_
            refine e_rold (q := 93) (x := (ro w 93 (x3 + 1))) (pc := 295) dL_law_295 ⟨by decide, by decide⟩ ob276 rfl (ro_R w 93 _) ?_
            refine e_aload_n (pc := 296) dL_law_296 rfl rfl ?_
            refine e_iload_n (pc := 297) dL_law_297 rfl rfl ?_
            refine e_iconst (pc := 298) dL_law_298 ⟨by decide, by decide⟩ ?_
            refine e_iadd (pc := 299) dL_law_299 ob280 ?_
            refine e_rold (q := 93) (x := (ro w 93 (x3 + 2))) (pc := 300) dL_law_300 ⟨by decide, by decide⟩ ob281 rfl (ro_R w 93 _) ?_
            refine e_aload_n (pc := 301) dL_law_301 rfl rfl ?_
            refine e_iload_n (pc := 302) dL_law_302 rfl rfl ?_
            refine e_iconst (pc := 303) dL_law_303 ⟨by decide, by decide⟩ ?_
            refine e_iadd (pc := 304) dL_law_304 ob285 ?_
            refine e_rold (q := 93) (x := (ro w 93 (x3 + 3))) (pc := 305) dL_law_305 ⟨by decide, by decide⟩ ob286 rfl (ro_R w 93 _) ?_
            refine e_invV (pc := 306) (Y' := Y_X9_doubt) (as := [vI (ro w 93 (x3 + 1)), vI (ro w 93 (x3 + 2)), vI (ro w 93 (x3 + 3))]) (st := [vI r27]) (lv0 := [some (vR 55), some (vI (ro w 93 (x3 + 1))), some (vI (ro w 93 (x3 + 2))), some (vI (ro w 93 (x3 + 3))), none]) (q := 55) (ci := 9) (T := TX9) (N := 52) dL_law_306 m_X9_doubt ul_5_123 ⟨ul_5_124, ul_5_125⟩ ⟨rfl, rfl⟩ rfl rfl rfl rfl rfl rfl rfl (c_X9_doubt w (ro w 93 (x3 + 1)) (ro w 93 (x3 + 2)) (ro w 93 (x3 + 3)) h27 _ H) ?_
            rintro _ h28 ⟨r28, rfl, H⟩
            show Ev w Y_L_law 309 [some (vR 93), some (vR 0), some (vR 55), some (vI x3)] [vI r28, vI r27] h28 (rI K)
            have H := HPH n1 x3 g1 HI ob29 _ _ _ H
            refine e_icmp_eq (pc := 309) (tgt := 1075) dL_law_309 (by decide) (fun c8 => ?_) (fun c8 => ?_)
            · have H := H.1 c8
              have ob1075 := H.1
              have H := H.2
              refine e_iinc (lv' := [some (vR 93), some (vR 0), some (vR 55), some (vI (x3 + 6))]) (pc := 1075) dL_law_1075 rfl ob1075 rfl rfl ?_
              refine e_goto (pc := 1078) (tgt := 18) dL_law_1078 (by decide) ?_
              obtain ⟨m, hm, H⟩ := H
              exact ih1 m hm _ _ H
            · have H := H.2 c8
              refine e_iconst (pc := 312) dL_law_312 ⟨by decide, by decide⟩ ?_
              exact e_ret (pc := 313) (v := some (vI 0)) dL_law_313 rfl (Or.inl rfl) ⟨_, rfl, H⟩
          · have H := H.2.2.2.2.1 c2
            refine ⟨281, 314, by rw [c2]; rfl, by decide, ?_⟩
            refine e_aload_n (pc := 314) dL_law_314 rfl rfl ?_
            refine e_aload_n (pc := 315) dL_law_315 rfl rfl ?_
            refine e_iload_n (pc := 316) dL_law_316 rfl rfl ?_
            refine e_iconst (pc := 317) dL_law_317 ⟨by decide, by decide⟩ ?_
            have ob318 := H.1
            have H := H.2
            refine e_iadd (pc := 318) dL_law_318 ob318 ?_
            have ob319 := H.1
            have H := H.2
            refine e_rold (q := 93) (x := (ro w 93 (x3 + 1))) (pc := 319) dL_law_319 ⟨by decide, by decide⟩ ob319 rfl (ro_R w 93 _) ?_
            refine e_aload_n (pc := 320) dL_law_320 rfl rfl ?_
            refine e_iload_n (pc := 321) dL_law_321 rfl rfl ?_
            refine e_iconst (pc := 322) dL_law_322 ⟨by decide, by decide⟩ ?_
            have ob323 := H.1
            have H := H.2
            refine e_iadd (pc := 323) dL_law_323 ob323 ?_
            have ob324 := H.1
            have H := H.2
            refine e_rold (q := 93) (x := (ro w 93 (x3 + 2))) (pc := 324) dL_law_324 ⟨by decide, by decide⟩ ob324 rfl (ro_R w 93 _) ?_
            refine e_aload_n (pc := 325) dL_law_325 rfl rfl ?_
            refine e_iload_n (pc := 326) dL_law_326 rfl rfl ?_
            refine e_iconst (pc := 327) dL_law_327 ⟨by decide, by decide⟩ ?_
            have ob328 := H.1
            have H := H.2
            refine e_iadd (pc := 328) dL_law_328 ob328 ?_
            have ob329 := H.1
            have H := H.2
            refine e_rold (q := 93) (x := (ro w 93 (x3 + 3))) (pc := 329) dL_law_329 ⟨by decide, by decide⟩ ob329 rfl (ro_R w 93 _) ?_
            refine e_aload_n (pc := 330) dL_law_330 rfl rfl ?_
            refine e_iload_n (pc := 331) dL_law_331 rfl rfl ?_
            refine e_iconst (pc := 332) dL_law_332 ⟨by decide, by decide⟩ ?_
            have ob333 := H.1
            have H := H.2
            refine e_iadd (pc := 333) dL_law_333 ob333 ?_
            have ob334 := H.1
            have H := H.2
            refine e_rold (q := 93) (x := (ro w 93 (x3 + 4))) (pc := 334) dL_law_334 ⟨by decide, by decide⟩ ob334 rfl (ro_R w 93 _) ?_
            refine e_invV (pc := 335) (Y' := Y_X8_word) (as := [vI (ro w 93 (x3 + 1)), vI (ro w 93 (x3 + 2)), vI (ro w 93 (x3 + 3)), vI (ro w 93 (x3 + 4))]) (st := []) (lv0 := [some (vR 0), some (vI (ro w 93 (x3 + 1))), some (vI (ro w 93 (x3 + 2))), some (vI (ro w 93 (x3 + 3))), some (vI (ro w 93 (x3 + 4)))]) (q := 0) (ci := 8) (T := TX8) (N := 9) dL_law_335 m_X8_word ul_2_164 ⟨ul_2_165, ul_2_166⟩ ⟨rfl, rfl⟩ rfl rfl rfl rfl rfl rfl rfl (c_X8_word w (ro w 93 (x3 + 1)) (ro w 93 (x3 + 2)) (ro w 93 (x3 + 3)) (ro w 93 (x3 + 4)) g1 _ H) ?_
            rintro _ h29 ⟨r29, rfl, H⟩
            show Ev w Y_L_law 338 [some (vR 93), some (vR 0), some (vR 55), some (vI x3)] [vI r29] h29 (rI K)
            refine e_aload_n (pc := 338) dL_law_338 rfl rfl ?_
            refine e_aload_n (pc := 339) dL_law_339 rfl rfl ?_
            refine e_iload_n (pc := 340) dL_law_340 rfl rfl ?_
            refine e_iconst (pc := 341) dL_law_341 ⟨by decide, by decide⟩ ?_
            refine e_iadd (pc := 342) dL_law_342 ob318 ?_
            refine e_rold (q := 93) (x := (ro w 93 (x3 + 1))) (pc := 343) dL_law_343 ⟨by decide, by decide⟩ ob319 rfl (ro_R w 93 _) ?_
            refine e_aload_n (pc := 344) dL_law_344 rfl rfl ?_
            refine e_iload_n (pc := 345) dL_law_345 rfl rfl ?_
            refine e_iconst (pc := 346) dL_law_346 ⟨by decide, by decide⟩ ?_
            refine e_iadd (pc := 347) dL_law_347 ob323 ?_
            refine e_rold (q := 93) (x := (ro w 93 (x3 + 2))) (pc := 348) dL_law_348 ⟨by decide, by decide⟩ ob324 rfl (ro_R w 93 _) ?_
            refine e_aload_n (pc := 349) dL_law_349 rfl rfl ?_
            refine e_iload_n (pc := 350) dL_law_350 rfl rfl ?_
            refine e_iconst (pc := 351) dL_law_351 ⟨by decide, by decide⟩ ?_
            refine e_iadd (pc := 352) dL_law_352 ob328 ?_
            refine e_rold (q := 93) (x := (ro w 93 (x3 + 3))) (pc := 353) dL_law_353 ⟨by decide, by decide⟩ ob329 rfl (ro_R w 93 _) ?_
            refine e_aload_n (pc := 354) dL_law_354 rfl rfl ?_
            refine e_iload_n (pc := 355) dL_law_355 rfl rfl ?_
            refine e_iconst (pc := 356) dL_law_356 ⟨by decide, by decide⟩ ?_
            refine e_iadd (pc := 357) dL_law_357 ob333 ?_
            refine e_rold (q := 93) (x := (ro w 93 (x3 + 4))) (pc := 358) dL_law_358 ⟨by decide, by decide⟩ ob334 rfl (ro_R w 93 _) ?_
            refine e_invV (pc := 359) (Y' := Y_X9_word) (as := [vI (ro w 93 (x3 + 1)), vI (ro w 93 (x3 + 2)), vI (ro w 93 (x3 + 3)), vI (ro w 93 (x3 + 4))]) (st := [vI r29]) (lv0 := [some (vR 55), some (vI (ro w 93 (x3 + 1))), some (vI (ro w 93 (x3 + 2))), some (vI (ro w 93 (x3 + 3))), some (vI (ro w 93 (x3 + 4))), none]) (q := 55) (ci := 9) (T := TX9) (N := 52) dL_law_359 m_X9_word ul_5_129 ⟨ul_5_130, ul_5_131⟩ ⟨rfl, rfl⟩ rfl rfl rfl rfl rfl rfl rfl (c_X9_word w (ro w 93 (x3 + 1)) (ro w 93 (x3 + 2)) (ro w 93 (x3 + 3)) (ro w 93 (x3 + 4)) h29 _ H) ?_
            rintro _ h30 ⟨r30, rfl, H⟩
            show Ev w Y_L_law 362 [some (vR 93), some (vR 0), some (vR 55), some (vI x3)] [vI r30, vI r29] h30 (rI K)
            have H := HPH n1 x3 g1 HI ob29 _ _ _ H
            refine e_icmp_eq (pc := 362) (tgt := 1075) dL_law_362 (by decide) (fun c9 => ?_) (fun c9 => ?_)
            · have H := H.1 c9
              have ob1075 := H.1
              have H := H.2
              refine e_iinc (lv' := [some (vR 93), some (vR 0), some (vR 55), some (vI (x3 + 6))]) (pc := 1075) dL_law_1075 rfl ob1075 rfl rfl ?_
              refine e_goto (pc := 1078) (tgt := 18) dL_law_1078 (by decide) ?_
              obtain ⟨m, hm, H⟩ := H
              exact ih1 m hm _ _ H
            · have H := H.2 c9
              refine e_iconst (pc := 365) dL_law_365 ⟨by decide, by decide⟩ ?_
              exact e_ret (pc := 366) (v := some (vI 0)) dL_law_366 rfl (Or.inl rfl) ⟨_, rfl, H⟩
          · have H := H.2.2.2.2.2.1 c2
            refine ⟨334, 367, by rw [c2]; rfl, by decide, ?_⟩
            refine e_aload_n (pc := 367) dL_law_367 rfl rfl ?_
            refine e_aload_n (pc := 368) dL_law_368 rfl rfl ?_
            refine e_iload_n (pc := 369) dL_law_369 rfl rfl ?_
            refine e_iconst (pc := 370) dL_law_370 ⟨by decide, by decide⟩ ?_
            have ob371 := H.1
            have H := H.2
            refine e_iadd (pc := 371) dL_law_371 ob371 ?_
            have ob372 := H.1
            have H := H.2
            refine e_rold (q := 93) (x := (ro w 93 (x3 + 1))) (pc := 372) dL_law_372 ⟨by decide, by decide⟩ ob372 rfl (ro_R w 93 _) ?_
            refine e_aload_n (pc := 373) dL_law_373 rfl rfl ?_
            refine e_iload_n (pc := 374) dL_law_374 rfl rfl ?_
            refine e_iconst (pc := 375) dL_law_375 ⟨by decide, by decide⟩ ?_
            have ob376 := H.1
            have H := H.2
            refine e_iadd (pc := 376) dL_law_376 ob376 ?_
            have ob377 := H.1
            have H := H.2
            refine e_rold (q := 93) (x := (ro w 93 (x3 + 2))) (pc := 377) dL_law_377 ⟨by decide, by decide⟩ ob377 rfl (ro_R w 93 _) ?_
            refine e_invV (pc := 378) (Y' := Y_X8_rule) (as := [vI (ro w 93 (x3 + 1)), vI (ro w 93 (x3 + 2))]) (st := []) (lv0 := [some (vR 0), some (vI (ro w 93 (x3 + 1))), some (vI (ro w 93 (x3 + 2))), none]) (q := 0) (ci := 8) (T := TX8) (N := 9) dL_law_378 m_X8_rule ul_2_177 ⟨ul_2_178, ul_2_179⟩ ⟨rfl, rfl⟩ rfl rfl rfl rfl rfl rfl rfl (c_X8_rule w (ro w 93 (x3 + 1)) (ro w 93 (x3 + 2)) g1 _ H) ?_
            rintro _ h31 ⟨r31, rfl, H⟩
            show Ev w Y_L_law 381 [some (vR 93), some (vR 0), some (vR 55), some (vI x3)] [vI r31] h31 (rI K)
            refine e_aload_n (pc := 381) dL_law_381 rfl rfl ?_
            refine e_aload_n (pc := 382) dL_law_382 rfl rfl ?_
            refine e_iload_n (pc := 383) dL_law_383 rfl rfl ?_
            refine e_iconst (pc := 384) dL_law_384 ⟨by decide, by decide⟩ ?_
            refine e_iadd (pc := 385) dL_law_385 ob371 ?_
            refine e_rold (q := 93) (x := (ro w 93 (x3 + 1))) (pc := 386) dL_law_386 ⟨by decide, by decide⟩ ob372 rfl (ro_R w 93 _) ?_
            refine e_aload_n (pc := 387) dL_law_387 rfl rfl ?_
            refine e_iload_n (pc := 388) dL_law_388 rfl rfl ?_
            refine e_iconst (pc := 389) dL_law_389 ⟨by decide, by decide⟩ ?_
            refine e_iadd (pc := 390) dL_law_390 ob376 ?_
            refine e_rold (q := 93) (x := (ro w 93 (x3 + 2))) (pc := 391) dL_law_391 ⟨by decide, by decide⟩ ob377 rfl (ro_R w 93 _) ?_
            refine e_invV (pc := 392) (Y' := Y_X9_rule) (as := [vI (ro w 93 (x3 + 1)), vI (ro w 93 (x3 + 2))]) (st := [vI r31]) (lv0 := [some (vR 55), some (vI (ro w 93 (x3 + 1))), some (vI (ro w 93 (x3 + 2))), none]) (q := 55) (ci := 9) (T := TX9) (N := 52) dL_law_392 m_X9_rule ul_5_133 ⟨ul_5_134, ul_5_135⟩ ⟨rfl, rfl⟩ rfl rfl rfl rfl rfl rfl rfl (c_X9_rule w (ro w 93 (x3 + 1)) (ro w 93 (x3 + 2)) h31 _ H) ?_
            rintro _ h32 ⟨r32, rfl, H⟩
            show Ev w Y_L_law 395 [some (vR 93), some (vR 0), some (vR 55), some (vI x3)] [vI r32, vI r31] h32 (rI K)
            have H := HPH n1 x3 g1 HI ob29 _ _ _ H
            refine e_icmp_eq (pc := 395) (tgt := 1075) dL_law_395 (by decide) (fun c10 => ?_) (fun c10 => ?_)
            · have H := H.1 c10
              have ob1075 := H.1
              have H := H.2
              refine e_iinc (lv' := [some (vR 93), some (vR 0), some (vR 55), some (vI (x3 + 6))]) (pc := 1075) dL_law_1075 rfl ob1075 rfl rfl ?_
              refine e_goto (pc := 1078) (tgt := 18) dL_law_1078 (by decide) ?_
              obtain ⟨m, hm, H⟩ := H
              exact ih1 m hm _ _ H
            · have H := H.2 c10
              refine e_iconst (pc := 398) dL_law_398 ⟨by decide, by decide⟩ ?_
              exact e_ret (pc := 399) (v := some (vI 0)) dL_law_399 rfl (Or.inl rfl) ⟨_, rfl, H⟩
          · have H := H.2.2.2.2.2.2.1 c2
            refine ⟨367, 400, by rw [c2]; rfl, by decide, ?_⟩
            refine e_aload_n (pc := 400) dL_law_400 rfl rfl ?_
            refine e_aload_n (pc := 401) dL_law_401 rfl rfl ?_
            refine e_iload_n (pc := 402) dL_law_402 rfl rfl ?_
            refine e_iconst (pc := 403) dL_law_403 ⟨by decide, by decide⟩ ?_
            have ob404 := H.1
            have H := H.2
            refine e_iadd (pc := 404) dL_law_404 ob404 ?_
            have ob405 := H.1
            have H := H.2
            refine e_rold (q := 93) (x := (ro w 93 (x3 + 1))) (pc := 405) dL_law_405 ⟨by decide, by decide⟩ ob405 rfl (ro_R w 93 _) ?_
            refine e_aload_n (pc := 406) dL_law_406 rfl rfl ?_
            refine e_iload_n (pc := 407) dL_law_407 rfl rfl ?_
            refine e_iconst (pc := 408) dL_law_408 ⟨by decide, by decide⟩ ?_
            have ob409 := H.1
            have H := H.2
            refine e_iadd (pc := 409) dL_law_409 ob409 ?_
            have ob410 := H.1
            have H := H.2
            refine e_rold (q := 93) (x := (ro w 93 (x3 + 2))) (pc := 410) dL_law_410 ⟨by decide, by decide⟩ ob410 rfl (ro_R w 93 _) ?_
            refine e_i2l (pc := 411) dL_law_411 ?_
            refine e_bipush (pc := 412) dL_law_412 ⟨by decide, by decide⟩ (by decide) ?_
            refine e_lshl (pc := 414) dL_law_414 ?_
            refine e_aload_n (pc := 415) dL_law_415 rfl rfl ?_
            refine e_iload_n (pc := 416) dL_law_416 rfl rfl ?_
            refine e_iconst (pc := 417) dL_law_417 ⟨by decide, by decide⟩ ?_
            have ob418 := H.1
            have H := H.2
            refine e_iadd (pc := 418) dL_law_418 ob418 ?_
            have ob419 := H.1
            have H := H.2
            refine e_rold (q := 93) (x := (ro w 93 (x3 + 3))) (pc := 419) dL_law_419 ⟨by decide, by decide⟩ ob419 rfl (ro_R w 93 _) ?_
            refine e_i2l (pc := 420) dL_law_420 ?_
            refine e_ldc2 (x := 4294967295) (pc := 421) dL_law_421 ul_6_120 ⟨by decide, by decide⟩ ?_
            refine e_land (pc := 424) dL_law_424 ?_
            refine e_lor (pc := 425) dL_law_425 ?_
            refine e_invV (pc := 426) (Y' := Y_X8_write) (as := [vI (ro w 93 (x3 + 1)), vL (jor (jshl (ro w 93 (x3 + 2)) 32) (jand (ro w 93 (x3 + 3)) 4294967295))]) (st := []) (lv0 := [some (vR 0), some (vI (ro w 93 (x3 + 1))), some (vL (jor (jshl (ro w 93 (x3 + 2)) 32) (jand (ro w 93 (x3 + 3)) 4294967295))), none]) (q := 0) (ci := 8) (T := TX8) (N := 9) dL_law_426 m_X8_write ul_2_183 ⟨ul_2_184, ul_2_185⟩ ⟨rfl, rfl⟩ rfl rfl rfl rfl rfl rfl rfl (c_X8_write w (ro w 93 (x3 + 1)) (jor (jshl (ro w 93 (x3 + 2)) 32) (jand (ro w 93 (x3 + 3)) 4294967295)) g1 _ H) ?_
            rintro _ h33 ⟨r33, rfl, H⟩
            show Ev w Y_L_law 429 [some (vR 93), some (vR 0), some (vR 55), some (vI x3)] [vI r33] h33 (rI K)
            refine e_aload_n (pc := 429) dL_law_429 rfl rfl ?_
            refine e_aload_n (pc := 430) dL_law_430 rfl rfl ?_
            refine e_iload_n (pc := 431) dL_law_431 rfl rfl ?_
            refine e_iconst (pc := 432) dL_law_432 ⟨by decide, by decide⟩ ?_
            refine e_iadd (pc := 433) dL_law_433 ob404 ?_
            refine e_rold (q := 93) (x := (ro w 93 (x3 + 1))) (pc := 434) dL_law_434 ⟨by decide, by decide⟩ ob405 rfl (ro_R w 93 _) ?_
            refine e_aload_n (pc := 435) dL_law_435 rfl rfl ?_
            refine e_iload_n (pc := 436) dL_law_436 rfl rfl ?_
            refine e_iconst (pc := 437) dL_law_437 ⟨by decide, by decide⟩ ?_
            refine e_iadd (pc := 438) dL_law_438 ob409 ?_
            refine e_rold (q := 93) (x := (ro w 93 (x3 + 2))) (pc := 439) dL_law_439 ⟨by decide, by decide⟩ ob410 rfl (ro_R w 93 _) ?_
            refine e_i2l (pc := 440) dL_law_440 ?_
            refine e_bipush (pc := 441) dL_law_441 ⟨by decide, by decide⟩ (by decide) ?_
            refine e_lshl (pc := 443) dL_law_443 ?_
            refine e_aload_n (pc := 444) dL_law_444 rfl rfl ?_
            refine e_iload_n (pc := 445) dL_law_445 rfl rfl ?_
            refine e_iconst (pc := 446) dL_law_446 ⟨by decide, by decide⟩ ?_
            refine e_iadd (pc := 447) dL_law_447 ob418 ?_
            refine e_rold (q := 93) (x := (ro w 93 (x3 + 3))) (pc := 448) dL_law_448 ⟨by decide, by decide⟩ ob419 rfl (ro_R w 93 _) ?_
            refine e_i2l (pc := 449) dL_law_449 ?_
            refine e_ldc2 (x := 4294967295) (pc := 450) dL_law_450 ul_6_120 ⟨by decide, by decide⟩ ?_
            refine e_land (pc := 453) dL_law_453 ?_
            refine e_lor (pc := 454) dL_law_454 ?_
            refine e_invV (pc := 455) (Y' := Y_X9_write) (as := [vI (ro w 93 (x3 + 1)), vL (jor (jshl (ro w 93 (x3 + 2)) 32) (jand (ro w 93 (x3 + 3)) 4294967295))]) (st := [vI r33]) (lv0 := [some (vR 55), some (vI (ro w 93 (x3 + 1))), some (vL (jor (jshl (ro w 93 (x3 + 2)) 32) (jand (ro w 93 (x3 + 3)) 4294967295))), none, none]) (q := 55) (ci := 9) (T := TX9) (N := 52) dL_law_455 m_X9_write ul_5_140 ⟨ul_5_141, ul_5_142⟩ ⟨rfl, rfl⟩ rfl rfl rfl rfl rfl rfl rfl (c_X9_write w (ro w 93 (x3 + 1)) (jor (jshl (ro w 93 (x3 + 2)) 32) (jand (ro w 93 (x3 + 3)) 4294967295)) h33 _ H) ?_
            rintro _ h34 ⟨r34, rfl, H⟩
            show Ev w Y_L_law 458 [some (vR 93), some (vR 0), some (vR 55), some (vI x3)] [vI r34, vI r33] h34 (rI K)
            have H := HPH n1 x3 g1 HI ob29 _ _ _ H
            refine e_icmp_eq (pc := 458) (tgt := 1075) dL_law_458 (by decide) (fun c11 => ?_) (fun c11 => ?_)
            · have H := H.1 c11
              have ob1075 := H.1
              have H := H.2
              refine e_iinc (lv' := [some (vR 93), some (vR 0), some (vR 55), some (vI (x3 + 6))]) (pc := 1075) dL_law_1075 rfl ob1075 rfl rfl ?_
              refine e_goto (pc := 1078) (tgt := 18) dL_law_1078 (by decide) ?_
              obtain ⟨m, hm, H⟩ := H
              exact ih1 m hm _ _ H
            · have H := H.2 c11
              refine e_iconst (pc := 461) dL_law_461 ⟨by decide, by decide⟩ ?_
              exact e_ret (pc := 462) (v := some (vI 0)) dL_law_462 rfl (Or.inl rfl) ⟨_, rfl, H⟩
          · have H := H.2.2.2.2.2.2.2.1 c2
            refine ⟨430, 463, by rw [c2]; rfl, by decide, ?_⟩
            refine e_aload_n (pc := 463) dL_law_463 rfl rfl ?_
            refine e_invV (pc := 464) (Y' := Y_X8_wipe) (as := []) (st := []) (lv0 := [some (vR 0)]) (q := 0) (ci := 8) (T := TX8) (N := 9) dL_law_464 m_X8_wipe ul_2_191 ⟨ul_2_192, ul_2_193⟩ ⟨rfl, rfl⟩ rfl rfl rfl rfl rfl rfl rfl (c_X8_wipe w g1 _ H) ?_
            rintro _ h35 ⟨r35, rfl, H⟩
            show Ev w Y_L_law 467 [some (vR 93), some (vR 0), some (vR 55), some (vI x3)] [vI r35] h35 (rI K)
            refine e_aload_n (pc := 467) dL_law_467 rfl rfl ?_
            refine e_invV (pc := 468) (Y' := Y_X9_wipe) (as := []) (st := [vI r35]) (lv0 := [some (vR 55), none]) (q := 55) (ci := 9) (T := TX9) (N := 52) dL_law_468 m_X9_wipe ul_5_146 ⟨ul_5_147, ul_5_148⟩ ⟨rfl, rfl⟩ rfl rfl rfl rfl rfl rfl rfl (c_X9_wipe w h35 _ H) ?_
            rintro _ h36 ⟨r36, rfl, H⟩
            show Ev w Y_L_law 471 [some (vR 93), some (vR 0), some (vR 55), some (vI x3)] [vI r36, vI r35] h36 (rI K)
            have H := HPH n1 x3 g1 HI ob29 _ _ _ H
            refine e_icmp_eq (pc := 471) (tgt := 1075) dL_law_471 (by decide) (fun c12 => ?_) (fun c12 => ?_)
            · have H := H.1 c12
              have ob1075 := H.1
              have H := H.2
              refine e_iinc (lv' := [some (vR 93), some (vR 0), some (vR 55), some (vI (x3 + 6))]) (pc := 1075) dL_law_1075 rfl ob1075 rfl rfl ?_
              refine e_goto (pc := 1078) (tgt := 18) dL_law_1078 (by decide) ?_
              obtain ⟨m, hm, H⟩ := H
              exact ih1 m hm _ _ H
            · have H := H.2 c12
              refine e_iconst (pc := 474) dL_law_474 ⟨by decide, by decide⟩ ?_
              exact e_ret (pc := 475) (v := some (vI 0)) dL_law_475 rfl (Or.inl rfl) ⟨_, rfl, H⟩
          · have H := H.2.2.2.2.2.2.2.2.1 c2
            refine ⟨443, 476, by rw [c2]; rfl, by decide, ?_⟩
            refine e_aload_n (pc := 476) dL_law_476 rfl rfl ?_
            refine e_invV (pc := 477) (Y' := Y_X8_fault) (as := []) (st := []) (lv0 := [some (vR 0)]) (q := 0) (ci := 8) (T := TX8) (N := 9) dL_law_477 m_X8_fault ul_2_199 ⟨ul_2_200, ul_2_201⟩ ⟨rfl, rfl⟩ rfl rfl rfl rfl rfl rfl rfl (c_X8_fault w g1 _ H) ?_
            rintro _ h37 ⟨r37, rfl, H⟩
            show Ev w Y_L_law 480 [some (vR 93), some (vR 0), some (vR 55), some (vI x3)] [vI r37] h37 (rI K)
            refine e_aload_n (pc := 480) dL_law_480 rfl rfl ?_
            refine e_invV (pc := 481) (Y' := Y_X9_fault) (as := []) (st := [vI r37]) (lv0 := [some (vR 55)]) (q := 55) (ci := 9) (T := TX9) (N := 52) dL_law_481 m_X9_fault ul_5_150 ⟨ul_5_151, ul_5_152⟩ ⟨rfl, rfl⟩ rfl rfl rfl rfl rfl rfl rfl (c_X9_fault w h37 _ H) ?_
            rintro _ h38 ⟨r38, rfl, H⟩
            show Ev w Y_L_law 484 [some (vR 93), some (vR 0), some (vR 55), some (vI x3)] [vI r38, vI r37] h38 (rI K)
            have H := HPH n1 x3 g1 HI ob29 _ _ _ H
            refine e_icmp_eq (pc := 484) (tgt := 1075) dL_law_484 (by decide) (fun c13 => ?_) (fun c13 => ?_)
            · have H := H.1 c13
              have ob1075 := H.1
              have H := H.2
              refine e_iinc (lv' := [some (vR 93), some (vR 0), some (vR 55), some (vI (x3 + 6))]) (pc := 1075) dL_law_1075 rfl ob1075 rfl rfl ?_
              refine e_goto (pc := 1078) (tgt := 18) dL_law_1078 (by decide) ?_
              obtain ⟨m, hm, H⟩ := H
              exact ih1 m hm _ _ H
            · have H := H.2 c13
              refine e_iconst (pc := 487) dL_law_487 ⟨by decide, by decide⟩ ?_
              exact e_ret (pc := 488) (v := some (vI 0)) dL_law_488 rfl (Or.inl rfl) ⟨_, rfl, H⟩
          · have H := H.2.2.2.2.2.2.2.2.2.1 c2
            refine ⟨456, 489, by rw [c2]; rfl, by decide, ?_⟩
            refine e_aload_n (pc := 489) dL_law_489 rfl rfl ?_
            refine e_invV (pc := 490) (Y' := Y_X8_force) (as := []) (st := []) (lv0 := [some (vR 0)]) (q := 0) (ci := 8) (T := TX8) (N := 9) dL_law_490 m_X8_force ul_2_234 ⟨ul_2_235, ul_2_236⟩ ⟨rfl, rfl⟩ rfl rfl rfl rfl rfl rfl rfl (c_X8_force w g1 _ H) ?_
            rintro _ h39 ⟨r39, rfl, H⟩
            show Ev w Y_L_law 493 [some (vR 93), some (vR 0), some (vR 55), some (vI x3)] [vI r39] h39 (rI K)
            refine e_aload_n (pc := 493) dL_law_493 rfl rfl ?_
            refine e_invV (pc := 494) (Y' := Y_X9_force) (as := []) (st := [vI r39]) (lv0 := [some (vR 55), none]) (q := 55) (ci := 9) (T := TX9) (N := 52) dL_law_494 m_X9_force ul_5_170 ⟨ul_5_171, ul_5_172⟩ ⟨rfl, rfl⟩ rfl rfl rfl rfl rfl rfl rfl (c_X9_force w h39 _ H) ?_
            rintro _ h40 ⟨r40, rfl, H⟩
            show Ev w Y_L_law 497 [some (vR 93), some (vR 0), some (vR 55), some (vI x3)] [vI r40, vI r39] h40 (rI K)
            have H := HPH n1 x3 g1 HI ob29 _ _ _ H
            refine e_icmp_eq (pc := 497) (tgt := 1075) dL_law_497 (by decide) (fun c14 => ?_) (fun c14 => ?_)
            · have H := H.1 c14
              have ob1075 := H.1
              have H := H.2
              refine e_iinc (lv' := [some (vR 93), some (vR 0), some (vR 55), some (vI (x3 + 6))]) (pc := 1075) dL_law_1075 rfl ob1075 rfl rfl ?_
              refine e_goto (pc := 1078) (tgt := 18) dL_law_1078 (by decide) ?_
              obtain ⟨m, hm, H⟩ := H
              exact ih1 m hm _ _ H
            · have H := H.2 c14
              refine e_iconst (pc := 500) dL_law_500 ⟨by decide, by decide⟩ ?_
              exact e_ret (pc := 501) (v := some (vI 0)) dL_law_501 rfl (Or.inl rfl) ⟨_, rfl, H⟩
          · have H := H.2.2.2.2.2.2.2.2.2.2.1 c2
            refine ⟨469, 502, by rw [c2]; rfl, by decide, ?_⟩
            refine e_aload_n (pc := 502) dL_law_502 rfl rfl ?_
            refine e_aload_n (pc := 503) dL_law_503 rfl rfl ?_
            refine e_iload_n (pc := 504) dL_law_504 rfl rfl ?_
            refine e_iconst (pc := 505) dL_law_505 ⟨by decide, by decide⟩ ?_
            have ob506 := H.1
            have H := H.2
            refine e_iadd (pc := 506) dL_law_506 ob506 ?_
            have ob507 := H.1
            have H := H.2
            refine e_rold (q := 93) (x := (ro w 93 (x3 + 1))) (pc := 507) dL_law_507 ⟨by decide, by decide⟩ ob507 rfl (ro_R w 93 _) ?_
            refine e_aload_n (pc := 508) dL_law_508 rfl rfl ?_
            refine e_iload_n (pc := 509) dL_law_509 rfl rfl ?_
            refine e_iconst (pc := 510) dL_law_510 ⟨by decide, by decide⟩ ?_
            have ob511 := H.1
            have H := H.2
            refine e_iadd (pc := 511) dL_law_511 ob511 ?_
            have ob512 := H.1
            have H := H.2
            refine e_rold (q := 93) (x := (ro w 93 (x3 + 2))) (pc := 512) dL_law_512 ⟨by decide, by decide⟩ ob512 rfl (ro_R w 93 _) ?_
            refine e_aload_n (pc := 513) dL_law_513 rfl rfl ?_
            refine e_iload_n (pc := 514) dL_law_514 rfl rfl ?_
            refine e_iconst (pc := 515) dL_law_515 ⟨by decide, by decide⟩ ?_
            have ob516 := H.1
            have H := H.2
            refine e_iadd (pc := 516) dL_law_516 ob516 ?_
            have ob517 := H.1
            have H := H.2
            refine e_rold (q := 93) (x := (ro w 93 (x3 + 3))) (pc := 517) dL_law_517 ⟨by decide, by decide⟩ ob517 rfl (ro_R w 93 _) ?_
            refine e_invV (pc := 518) (Y' := Y_X8_may) (as := [vI (ro w 93 (x3 + 1)), vI (ro w 93 (x3 + 2)), vI (ro w 93 (x3 + 3))]) (st := []) (lv0 := [some (vR 0), some (vI (ro w 93 (x3 + 1))), some (vI (ro w 93 (x3 + 2))), some (vI (ro w 93 (x3 + 3)))]) (q := 0) (ci := 8) (T := TX8) (N := 9) dL_law_518 m_X8_may ul_3_6 ⟨ul_3_7, ul_3_8⟩ ⟨rfl, rfl⟩ rfl rfl rfl rfl rfl rfl rfl (c_X8_may w (ro w 93 (x3 + 1)) (ro w 93 (x3 + 2)) (ro w 93 (x3 + 3)) g1 _ H) ?_
            rintro _ h41 ⟨r41, rfl, H⟩
            show Ev w Y_L_law 521 [some (vR 93), some (vR 0), some (vR 55), some (vI x3)] [vI r41] h41 (rI K)
            refine e_aload_n (pc := 521) dL_law_521 rfl rfl ?_
            refine e_aload_n (pc := 522) dL_law_522 rfl rfl ?_
            refine e_iload_n (pc := 523) dL_law_523 rfl rfl ?_
            refine e_iconst (pc := 524) dL_law_524 ⟨by decide, by decide⟩ ?_
            refine e_iadd (pc := 525) dL_law_525 ob506 ?_
            refine e_rold (q := 93) (x := (ro w 93 (x3 + 1))) (pc := 526) dL_law_526 ⟨by decide, by decide⟩ ob507 rfl (ro_R w 93 _) ?_
            refine e_aload_n (pc := 527) dL_law_527 rfl rfl ?_
            refine e_iload_n (pc := 528) dL_law_528 rfl rfl ?_
            refine e_iconst (pc := 529) dL_law_529 ⟨by decide, by decide⟩ ?_
            refine e_iadd (pc := 530) dL_law_530 ob511 ?_
            refine e_rold (q := 93) (x := (ro w 93 (x3 + 2))) (pc := 531) dL_law_531 ⟨by decide, by decide⟩ ob512 rfl (ro_R w 93 _) ?_
            refine e_aload_n (pc := 532) dL_law_532 rfl rfl ?_
            refine e_iload_n (pc := 533) dL_law_533 rfl rfl ?_
            refine e_iconst (pc := 534) dL_law_534 ⟨by decide, by decide⟩ ?_
            refine e_iadd (pc := 535) dL_law_535 ob516 ?_
            refine e_rold (q := 93) (x := (ro w 93 (x3 + 3))) (pc := 536) dL_law_536 ⟨by decide, by decide⟩ ob517 rfl (ro_R w 93 _) ?_
            refine e_invV (pc := 537) (Y' := Y_X9_may) (as := [vI (ro w 93 (x3 + 1)), vI (ro w 93 (x3 + 2)), vI (ro w 93 (x3 + 3))]) (st := [vI r41]) (lv0 := [some (vR 55), some (vI (ro w 93 (x3 + 1))), some (vI (ro w 93 (x3 + 2))), some (vI (ro w 93 (x3 + 3)))]) (q := 55) (ci := 9) (T := TX9) (N := 52) dL_law_537 m_X9_may ul_5_174 ⟨ul_5_175, ul_5_176⟩ ⟨rfl, rfl⟩ rfl rfl rfl rfl rfl rfl rfl (c_X9_may w (ro w 93 (x3 + 1)) (ro w 93 (x3 + 2)) (ro w 93 (x3 + 3)) h41 _ H) ?_
            rintro _ h42 ⟨r42, rfl, H⟩
            show Ev w Y_L_law 540 [some (vR 93), some (vR 0), some (vR 55), some (vI x3)] [vI r42, vI r41] h42 (rI K)
            have H := HPH n1 x3 g1 HI ob29 _ _ _ H
            refine e_icmp_eq (pc := 540) (tgt := 1075) dL_law_540 (by decide) (fun c15 => ?_) (fun c15 => ?_)
            · have H := H.1 c15
              have ob1075 := H.1
              have H := H.2
              refine e_iinc (lv' := [some (vR 93), some (vR 0), some (vR 55), some (vI (x3 + 6))]) (pc := 1075) dL_law_1075 rfl ob1075 rfl rfl ?_
              refine e_goto (pc := 1078) (tgt := 18) dL_law_1078 (by decide) ?_
              obtain ⟨m, hm, H⟩ := H
              exact ih1 m hm _ _ H
            · have H := H.2 c15
              refine e_iconst (pc := 543) dL_law_543 ⟨by decide, by decide⟩ ?_
              exact e_ret (pc := 544) (v := some (vI 0)) dL_law_544 rfl (Or.inl rfl) ⟨_, rfl, H⟩
          · have H := H.2.2.2.2.2.2.2.2.2.2.2.1 c2
            refine ⟨512, 545, by rw [c2]; rfl, by decide, ?_⟩
            refine e_aload_n (pc := 545) dL_law_545 rfl rfl ?_
            refine e_invV (pc := 546) (Y' := Y_X8_barred) (as := []) (st := []) (lv0 := [some (vR 0)]) (q := 0) (ci := 8) (T := TX8) (N := 9) dL_law_546 m_X8_barred ul_3_18 ⟨ul_3_19, ul_3_20⟩ ⟨rfl, rfl⟩ rfl rfl rfl rfl rfl rfl rfl (c_X8_barred w g1 _ H) ?_
            rintro _ h43 ⟨r43, rfl, H⟩
            show Ev w Y_L_law 549 [some (vR 93), some (vR 0), some (vR 55), some (vI x3)] [vI r43] h43 (rI K)
            refine e_aload_n (pc := 549) dL_law_549 rfl rfl ?_
            refine e_invV (pc := 550) (Y' := Y_X9_barred) (as := []) (st := [vI r43]) (lv0 := [some (vR 55), none, none]) (q := 55) (ci := 9) (T := TX9) (N := 52) dL_law_550 m_X9_barred ul_5_182 ⟨ul_5_183, ul_5_184⟩ ⟨rfl, rfl⟩ rfl rfl rfl rfl rfl rfl rfl (c_X9_barred w h43 H.1) ?_
            rintro _ hz ⟨_, rfl, rfl, hh⟩
            rw [hh]
            show Ev w Y_L_law 553 [some (vR 93), some (vR 0), some (vR 55), some (vI x3)] [vI (cnt (fun k => mBar h43 k) (h43 70 1).toNat), vI r43] h43 (rI K)
            have H := H.2
            have H := HPH n1 x3 g1 HI ob29 _ _ _ H
            refine e_icmp_eq (pc := 553) (tgt := 1075) dL_law_553 (by decide) (fun c16 => ?_) (fun c16 => ?_)
            · have H := H.1 c16
              have ob1075 := H.1
              have H := H.2
              refine e_iinc (lv' := [some (vR 93), some (vR 0), some (vR 55), some (vI (x3 + 6))]) (pc := 1075) dL_law_1075 rfl ob1075 rfl rfl ?_
              refine e_goto (pc := 1078) (tgt := 18) dL_law_1078 (by decide) ?_
              obtain ⟨m, hm, H⟩ := H
              exact ih1 m hm _ _ H
            · have H := H.2 c16
              refine e_iconst (pc := 556) dL_law_556 ⟨by decide, by decide⟩ ?_
              exact e_ret (pc := 557) (v := some (vI 0)) dL_law_557 rfl (Or.inl rfl) ⟨_, rfl, H⟩
          · have H := H.2.2.2.2.2.2.2.2.2.2.2.2.1 c2
            refine ⟨525, 558, by rw [c2]; rfl, by decide, ?_⟩
            refine e_aload_n (pc := 558) dL_law_558 rfl rfl ?_
            refine e_aload_n (pc := 559) dL_law_559 rfl rfl ?_
            refine e_iload_n (pc := 560) dL_law_560 rfl rfl ?_
            refine e_iconst (pc := 561) dL_law_561 ⟨by decide, by decide⟩ ?_
            have ob562 := H.1
            have H := H.2
            refine e_iadd (pc := 562) dL_law_562 ob562 ?_
            have ob563 := H.1
            have H := H.2
            refine e_rold (q := 93) (x := (ro w 93 (x3 + 1))) (pc := 563) dL_law_563 ⟨by decide, by decide⟩ ob563 rfl (ro_R w 93 _) ?_
            refine e_aload_n (pc := 564) dL_law_564 rfl rfl ?_
            refine e_iload_n (pc := 565) dL_law_565 rfl rfl ?_
            refine e_iconst (pc := 566) dL_law_566 ⟨by decide, by decide⟩ ?_
            have ob567 := H.1
            have H := H.2
            refine e_iadd (pc := 567) dL_law_567 ob567 ?_
            have ob568 := H.1
            have H := H.2
            refine e_rold (q := 93) (x := (ro w 93 (x3 + 2))) (pc := 568) dL_law_568 ⟨by decide, by decide⟩ ob568 rfl (ro_R w 93 _) ?_
            refine e_aload_n (pc := 569) dL_law_569 rfl rfl ?_
            refine e_iload_n (pc := 570) dL_law_570 rfl rfl ?_
            refine e_iconst (pc := 571) dL_law_571 ⟨by decide, by decide⟩ ?_
            have ob572 := H.1
            have H := H.2
            refine e_iadd (pc := 572) dL_law_572 ob572 ?_
            have ob573 := H.1
            have H := H.2
            refine e_rold (q := 93) (x := (ro w 93 (x3 + 3))) (pc := 573) dL_law_573 ⟨by decide, by decide⟩ ob573 rfl (ro_R w 93 _) ?_
            refine e_aload_n (pc := 574) dL_law_574 rfl rfl ?_
            refine e_iload_n (pc := 575) dL_law_575 rfl rfl ?_
            refine e_iconst (pc := 576) dL_law_576 ⟨by decide, by decide⟩ ?_
            have ob577 := H.1
            have H := H.2
            refine e_iadd (pc := 577) dL_law_577 ob577 ?_
            have ob578 := H.1
            have H := H.2
            refine e_rold (q := 93) (x := (ro w 93 (x3 + 4))) (pc := 578) dL_law_578 ⟨by decide, by decide⟩ ob578 rfl (ro_R w 93 _) ?_
            refine e_i2l (pc := 579) dL_law_579 ?_
            refine e_bipush (pc := 580) dL_law_580 ⟨by decide, by decide⟩ (by decide) ?_
            refine e_lshl (pc := 582) dL_law_582 ?_
            refine e_aload_n (pc := 583) dL_law_583 rfl rfl ?_
            refine e_iload_n (pc := 584) dL_law_584 rfl rfl ?_
            refine e_iconst (pc := 585) dL_law_585 ⟨by decide, by decide⟩ ?_
            have ob586 := H.1
            have H := H.2
            refine e_iadd (pc := 586) dL_law_586 ob586 ?_
            have ob587 := H.1
            have H := H.2
            refine e_rold (q := 93) (x := (ro w 93 (x3 + 5))) (pc := 587) dL_law_587 ⟨by decide, by decide⟩ ob587 rfl (ro_R w 93 _) ?_
            refine e_i2l (pc := 588) dL_law_588 ?_
            refine e_ldc2 (x := 4294967295) (pc := 589) dL_law_589 ul_6_120 ⟨by decide, by decide⟩ ?_
            refine e_land (pc := 592) dL_law_592 ?_
            refine e_lor (pc := 593) dL_law_593 ?_
            refine e_invV (pc := 594) (Y' := Y_X8_hear) (as := [vI (ro w 93 (x3 + 1)), vI (ro w 93 (x3 + 2)), vI (ro w 93 (x3 + 3)), vL (jor (jshl (ro w 93 (x3 + 4)) 32) (jand (ro w 93 (x3 + 5)) 4294967295))]) (st := []) (lv0 := [some (vR 0), some (vI (ro w 93 (x3 + 1))), some (vI (ro w 93 (x3 + 2))), some (vI (ro w 93 (x3 + 3))), some (vL (jor (jshl (ro w 93 (x3 + 4)) 32) (jand (ro w 93 (x3 + 5)) 4294967295))), none]) (q := 0) (ci := 8) (T := TX8) (N := 9) dL_law_594 m_X8_hear ul_3_37 ⟨ul_3_38, ul_3_39⟩ ⟨rfl, rfl⟩ rfl rfl rfl rfl rfl rfl rfl (c_X8_hear w (ro w 93 (x3 + 1)) (ro w 93 (x3 + 2)) (ro w 93 (x3 + 3)) (jor (jshl (ro w 93 (x3 + 4)) 32) (jand (ro w 93 (x3 + 5)) 4294967295)) g1 _ H) ?_
            rintro _ h44 ⟨r44, rfl, H⟩
            show Ev w Y_L_law 597 [some (vR 93), some (vR 0), some (vR 55), some (vI x3)] [vI r44] h44 (rI K)
            refine e_aload_n (pc := 597) dL_law_597 rfl rfl ?_
            refine e_aload_n (pc := 598) dL_law_598 rfl rfl ?_
            refine e_iload_n (pc := 599) dL_law_599 rfl rfl ?_
            refine e_iconst (pc := 600) dL_law_600 ⟨by decide, by decide⟩ ?_
            refine e_iadd (pc := 601) dL_law_601 ob562 ?_
            refine e_rold (q := 93) (x := (ro w 93 (x3 + 1))) (pc := 602) dL_law_602 ⟨by decide, by decide⟩ ob563 rfl (ro_R w 93 _) ?_
            refine e_aload_n (pc := 603) dL_law_603 rfl rfl ?_
            refine e_iload_n (pc := 604) dL_law_604 rfl rfl ?_
            refine e_iconst (pc := 605) dL_law_605 ⟨by decide, by decide⟩ ?_
            refine e_iadd (pc := 606) dL_law_606 ob567 ?_
            refine e_rold (q := 93) (x := (ro w 93 (x3 + 2))) (pc := 607) dL_law_607 ⟨by decide, by decide⟩ ob568 rfl (ro_R w 93 _) ?_
            refine e_aload_n (pc := 608) dL_law_608 rfl rfl ?_
            refine e_iload_n (pc := 609) dL_law_609 rfl rfl ?_
            refine e_iconst (pc := 610) dL_law_610 ⟨by decide, by decide⟩ ?_
            refine e_iadd (pc := 611) dL_law_611 ob572 ?_
            refine e_rold (q := 93) (x := (ro w 93 (x3 + 3))) (pc := 612) dL_law_612 ⟨by decide, by decide⟩ ob573 rfl (ro_R w 93 _) ?_
            refine e_aload_n (pc := 613) dL_law_613 rfl rfl ?_
            refine e_iload_n (pc := 614) dL_law_614 rfl rfl ?_
            refine e_iconst (pc := 615) dL_law_615 ⟨by decide, by decide⟩ ?_
            refine e_iadd (pc := 616) dL_law_616 ob577 ?_
            refine e_rold (q := 93) (x := (ro w 93 (x3 + 4))) (pc := 617) dL_law_617 ⟨by decide, by decide⟩ ob578 rfl (ro_R w 93 _) ?_
            refine e_i2l (pc := 618) dL_law_618 ?_
            refine e_bipush (pc := 619) dL_law_619 ⟨by decide, by decide⟩ (by decide) ?_
            refine e_lshl (pc := 621) dL_law_621 ?_
            refine e_aload_n (pc := 622) dL_law_622 rfl rfl ?_
            refine e_iload_n (pc := 623) dL_law_623 rfl rfl ?_
            refine e_iconst (pc := 624) dL_law_624 ⟨by decide, by decide⟩ ?_
            refine e_iadd (pc := 625) dL_law_625 ob586 ?_
            refine e_rold (q := 93) (x := (ro w 93 (x3 + 5))) (pc := 626) dL_law_626 ⟨by decide, by decide⟩ ob587 rfl (ro_R w 93 _) ?_
            refine e_i2l (pc := 627) dL_law_627 ?_
            refine e_ldc2 (x := 4294967295) (pc := 628) dL_law_628 ul_6_120 ⟨by decide, by decide⟩ ?_
            refine e_land (pc := 631) dL_law_631 ?_
            refine e_lor (pc := 632) dL_law_632 ?_
            refine e_invV (pc := 633) (Y' := Y_X9_hear) (as := [vI (ro w 93 (x3 + 1)), vI (ro w 93 (x3 + 2)), vI (ro w 93 (x3 + 3)), vL (jor (jshl (ro w 93 (x3 + 4)) 32) (jand (ro w 93 (x3 + 5)) 4294967295))]) (st := [vI r44]) (lv0 := [some (vR 55), some (vI (ro w 93 (x3 + 1))), some (vI (ro w 93 (x3 + 2))), some (vI (ro w 93 (x3 + 3))), some (vL (jor (jshl (ro w 93 (x3 + 4)) 32) (jand (ro w 93 (x3 + 5)) 4294967295))), none, none, none]) (q := 55) (ci := 9) (T := TX9) (N := 52) dL_law_633 m_X9_hear ul_5_194 ⟨ul_5_195, ul_5_196⟩ ⟨rfl, rfl⟩ rfl rfl rfl rfl rfl rfl rfl (c_X9_hear w (ro w 93 (x3 + 1)) (ro w 93 (x3 + 2)) (ro w 93 (x3 + 3)) (jor (jshl (ro w 93 (x3 + 4)) 32) (jand (ro w 93 (x3 + 5)) 4294967295)) h44 _ H) ?_
            rintro _ h45 ⟨r45, rfl, H⟩
            show Ev w Y_L_law 636 [some (vR 93), some (vR 0), some (vR 55), some (vI x3)] [vI r45, vI r44] h45 (rI K)
            have H := HPH n1 x3 g1 HI ob29 _ _ _ H
            refine e_icmp_eq (pc := 636) (tgt := 1075) dL_law_636 (by decide) (fun c17 => ?_) (fun c17 => ?_)
            · have H := H.1 c17
              have ob1075 := H.1
              have H := H.2
              refine e_iinc (lv' := [some (vR 93), some (vR 0), some (vR 55), some (vI (x3 + 6))]) (pc := 1075) dL_law_1075 rfl ob1075 rfl rfl ?_
              refine e_goto (pc := 1078) (tgt := 18) dL_law_1078 (by decide) ?_
              obtain ⟨m, hm, H⟩ := H
              exact ih1 m hm _ _ H
            · have H := H.2 c17
              refine e_iconst (pc := 639) dL_law_639 ⟨by decide, by decide⟩ ?_
              exact e_ret (pc := 640) (v := some (vI 0)) dL_law_640 rfl (Or.inl rfl) ⟨_, rfl, H⟩
          · have H := H.2.2.2.2.2.2.2.2.2.2.2.2.2.1 c2
            refine ⟨608, 641, by rw [c2]; rfl, by decide, ?_⟩
            refine e_aload_n (pc := 641) dL_law_641 rfl rfl ?_
            refine e_aload_n (pc := 642) dL_law_642 rfl rfl ?_
            refine e_iload_n (pc := 643) dL_law_643 rfl rfl ?_
            refine e_iconst (pc := 644) dL_law_644 ⟨by decide, by decide⟩ ?_
            have ob645 := H.1
            have H := H.2
            refine e_iadd (pc := 645) dL_law_645 ob645 ?_
            have ob646 := H.1
            have H := H.2
            refine e_rold (q := 93) (x := (ro w 93 (x3 + 1))) (pc := 646) dL_law_646 ⟨by decide, by decide⟩ ob646 rfl (ro_R w 93 _) ?_
            refine e_aload_n (pc := 647) dL_law_647 rfl rfl ?_
            refine e_iload_n (pc := 648) dL_law_648 rfl rfl ?_
            refine e_iconst (pc := 649) dL_law_649 ⟨by decide, by decide⟩ ?_
            have ob650 := H.1
            have H := H.2
            refine e_iadd (pc := 650) dL_law_650 ob650 ?_
            have ob651 := H.1
            have H := H.2
            refine e_rold (q := 93) (x := (ro w 93 (x3 + 2))) (pc := 651) dL_law_651 ⟨by decide, by decide⟩ ob651 rfl (ro_R w 93 _) ?_
            refine e_invV (pc := 652) (Y' := Y_X8_reading) (as := [vI (ro w 93 (x3 + 1)), vI (ro w 93 (x3 + 2))]) (st := []) (lv0 := [some (vR 0), some (vI (ro w 93 (x3 + 1))), some (vI (ro w 93 (x3 + 2)))]) (q := 0) (ci := 8) (T := TX8) (N := 9) dL_law_652 m_X8_reading ul_3_115 ⟨ul_3_116, ul_3_117⟩ ⟨rfl, rfl⟩ rfl rfl rfl rfl rfl rfl rfl (c_X8_reading w (ro w 93 (x3 + 1)) (ro w 93 (x3 + 2)) g1 _ H) ?_
            rintro _ h46 ⟨r46, rfl, H⟩
            show Ev w Y_L_law 655 [some (vR 93), some (vR 0), some (vR 55), some (vI x3)] [vI r46] h46 (rI K)
            refine e_aload_n (pc := 655) dL_law_655 rfl rfl ?_
            refine e_aload_n (pc := 656) dL_law_656 rfl rfl ?_
            refine e_iload_n (pc := 657) dL_law_657 rfl rfl ?_
            refine e_iconst (pc := 658) dL_law_658 ⟨by decide, by decide⟩ ?_
            refine e_iadd (pc := 659) dL_law_659 ob645 ?_
            refine e_rold (q := 93) (x := (ro w 93 (x3 + 1))) (pc := 660) dL_law_660 ⟨by decide, by decide⟩ ob646 rfl (ro_R w 93 _) ?_
            refine e_aload_n (pc := 661) dL_law_661 rfl rfl ?_
            refine e_iload_n (pc := 662) dL_law_662 rfl rfl ?_
            refine e_iconst (pc := 663) dL_law_663 ⟨by decide, by decide⟩ ?_
            refine e_iadd (pc := 664) dL_law_664 ob650 ?_
            refine e_rold (q := 93) (x := (ro w 93 (x3 + 2))) (pc := 665) dL_law_665 ⟨by decide, by decide⟩ ob651 rfl (ro_R w 93 _) ?_
            refine e_invV (pc := 666) (Y' := Y_X9_reading) (as := [vI (ro w 93 (x3 + 1)), vI (ro w 93 (x3 + 2))]) (st := [vI r46]) (lv0 := [some (vR 55), some (vI (ro w 93 (x3 + 1))), some (vI (ro w 93 (x3 + 2)))]) (q := 55) (ci := 9) (T := TX9) (N := 52) dL_law_666 m_X9_reading ul_5_227 ⟨ul_5_228, ul_5_229⟩ ⟨rfl, rfl⟩ rfl rfl rfl rfl rfl rfl rfl (c_X9_reading w (ro w 93 (x3 + 1)) (ro w 93 (x3 + 2)) h46 _ H) ?_
            rintro _ h47 ⟨r47, rfl, H⟩
            show Ev w Y_L_law 669 [some (vR 93), some (vR 0), some (vR 55), some (vI x3)] [vI r47, vI r46] h47 (rI K)
            have H := HPH n1 x3 g1 HI ob29 _ _ _ H
            refine e_icmp_eq (pc := 669) (tgt := 1075) dL_law_669 (by decide) (fun c18 => ?_) (fun c18 => ?_)
            · have H := H.1 c18
              have ob1075 := H.1
              have H := H.2
              refine e_iinc (lv' := [some (vR 93), some (vR 0), some (vR 55), some (vI (x3 + 6))]) (pc := 1075) dL_law_1075 rfl ob1075 rfl rfl ?_
              refine e_goto (pc := 1078) (tgt := 18) dL_law_1078 (by decide) ?_
              obtain ⟨m, hm, H⟩ := H
              exact ih1 m hm _ _ H
            · have H := H.2 c18
              refine e_iconst (pc := 672) dL_law_672 ⟨by decide, by decide⟩ ?_
              exact e_ret (pc := 673) (v := some (vI 0)) dL_law_673 rfl (Or.inl rfl) ⟨_, rfl, H⟩
          · have H := H.2.2.2.2.2.2.2.2.2.2.2.2.2.2.1 c2
            refine ⟨641, 674, by rw [c2]; rfl, by decide, ?_⟩
            refine e_aload_n (pc := 674) dL_law_674 rfl rfl ?_
            refine e_invV (pc := 675) (Y' := Y_X8_open) (as := []) (st := []) (lv0 := [some (vR 0)]) (q := 0) (ci := 8) (T := TX8) (N := 9) dL_law_675 m_X8_open ul_3_123 ⟨ul_3_124, ul_3_125⟩ ⟨rfl, rfl⟩ rfl rfl rfl rfl rfl rfl rfl (c_X8_open w g1 _ H) ?_
            rintro _ h48 ⟨r48, rfl, H⟩
            show Ev w Y_L_law 678 [some (vR 93), some (vR 0), some (vR 55), some (vI x3)] [vI r48] h48 (rI K)
            refine e_aload_n (pc := 678) dL_law_678 rfl rfl ?_
            refine e_invV (pc := 679) (Y' := Y_X9_open) (as := []) (st := [vI r48]) (lv0 := [some (vR 55)]) (q := 55) (ci := 9) (T := TX9) (N := 52) dL_law_679 m_X9_open ul_5_231 ⟨ul_5_232, ul_5_233⟩ ⟨rfl, rfl⟩ rfl rfl rfl rfl rfl rfl rfl (c_X9_open w h48 _ H) ?_
            rintro _ h49 ⟨r49, rfl, H⟩
            show Ev w Y_L_law 682 [some (vR 93), some (vR 0), some (vR 55), some (vI x3)] [vI r49, vI r48] h49 (rI K)
            have H := HPH n1 x3 g1 HI ob29 _ _ _ H
            refine e_icmp_eq (pc := 682) (tgt := 1075) dL_law_682 (by decide) (fun c19 => ?_) (fun c19 => ?_)
            · have H := H.1 c19
              have ob1075 := H.1
              have H := H.2
              refine e_iinc (lv' := [some (vR 93), some (vR 0), some (vR 55), some (vI (x3 + 6))]) (pc := 1075) dL_law_1075 rfl ob1075 rfl rfl ?_
              refine e_goto (pc := 1078) (tgt := 18) dL_law_1078 (by decide) ?_
              obtain ⟨m, hm, H⟩ := H
              exact ih1 m hm _ _ H
            · have H := H.2 c19
              refine e_iconst (pc := 685) dL_law_685 ⟨by decide, by decide⟩ ?_
              exact e_ret (pc := 686) (v := some (vI 0)) dL_law_686 rfl (Or.inl rfl) ⟨_, rfl, H⟩
          · have H := H.2.2.2.2.2.2.2.2.2.2.2.2.2.2.2.1 c2
            refine ⟨654, 687, by rw [c2]; rfl, by decide, ?_⟩
            refine e_aload_n (pc := 687) dL_law_687 rfl rfl ?_
            refine e_invV (pc := 688) (Y' := Y_X8_ask) (as := []) (st := []) (lv0 := [some (vR 0)]) (q := 0) (ci := 8) (T := TX8) (N := 9) dL_law_688 m_X8_ask ul_3_146 ⟨ul_3_147, ul_3_148⟩ ⟨rfl, rfl⟩ rfl rfl rfl rfl rfl rfl rfl (c_X8_ask w g1 _ H) ?_
            rintro _ h50 ⟨r50, rfl, H⟩
            show Ev w Y_L_law 691 [some (vR 93), some (vR 0), some (vR 55), some (vI x3)] [vI r50] h50 (rI K)
            refine e_aload_n (pc := 691) dL_law_691 rfl rfl ?_
            refine e_invV (pc := 692) (Y' := Y_X9_ask) (as := []) (st := [vI r50]) (lv0 := [some (vR 55), none, none, none, none, none, none, none]) (q := 55) (ci := 9) (T := TX9) (N := 52) dL_law_692 m_X9_ask ul_6_3 ⟨ul_6_4, ul_6_5⟩ ⟨rfl, rfl⟩ rfl rfl rfl rfl rfl rfl rfl (c_X9_ask w h50 H.1) ?_
            rintro _ hz ⟨_, rfl, rfl, hh⟩
            rw [hh]
            show Ev w Y_L_law 695 [some (vR 93), some (vR 0), some (vR 55), some (vI x3)] [vI (askM h50), vI r50] h50 (rI K)
            have H := H.2
            have H := HPH n1 x3 g1 HI ob29 _ _ _ H
            refine e_icmp_eq (pc := 695) (tgt := 1075) dL_law_695 (by decide) (fun c20 => ?_) (fun c20 => ?_)
            · have H := H.1 c20
              have ob1075 := H.1
              have H := H.2
              refine e_iinc (lv' := [some (vR 93), some (vR 0), some (vR 55), some (vI (x3 + 6))]) (pc := 1075) dL_law_1075 rfl ob1075 rfl rfl ?_
              refine e_goto (pc := 1078) (tgt := 18) dL_law_1078 (by decide) ?_
              obtain ⟨m, hm, H⟩ := H
              exact ih1 m hm _ _ H
            · have H := H.2 c20
              refine e_iconst (pc := 698) dL_law_698 ⟨by decide, by decide⟩ ?_
              exact e_ret (pc := 699) (v := some (vI 0)) dL_law_699 rfl (Or.inl rfl) ⟨_, rfl, H⟩
          · have H := H.2.2.2.2.2.2.2.2.2.2.2.2.2.2.2.2.1 c2
            refine ⟨667, 700, by rw [c2]; rfl, by decide, ?_⟩
            refine e_aload_n (pc := 700) dL_law_700 rfl rfl ?_
            refine e_aload_n (pc := 701) dL_law_701 rfl rfl ?_
            refine e_iload_n (pc := 702) dL_law_702 rfl rfl ?_
            refine e_iconst (pc := 703) dL_law_703 ⟨by decide, by decide⟩ ?_
            have ob704 := H.1
            have H := H.2
            refine e_iadd (pc := 704) dL_law_704 ob704 ?_
            have ob705 := H.1
            have H := H.2
            refine e_rold (q := 93) (x := (ro w 93 (x3 + 1))) (pc := 705) dL_law_705 ⟨by decide, by decide⟩ ob705 rfl (ro_R w 93 _) ?_
            refine e_aload_n (pc := 706) dL_law_706 rfl rfl ?_
            refine e_iload_n (pc := 707) dL_law_707 rfl rfl ?_
            refine e_iconst (pc := 708) dL_law_708 ⟨by decide, by decide⟩ ?_
            have ob709 := H.1
            have H := H.2
            refine e_iadd (pc := 709) dL_law_709 ob709 ?_
            have ob710 := H.1
            have H := H.2
            refine e_rold (q := 93) (x := (ro w 93 (x3 + 2))) (pc := 710) dL_law_710 ⟨by decide, by decide⟩ ob710 rfl (ro_R w 93 _) ?_
            refine e_invV (pc := 711) (Y' := Y_X8_answer) (as := [vI (ro w 93 (x3 + 1)), vI (ro w 93 (x3 + 2))]) (st := []) (lv0 := [some (vR 0), some (vI (ro w 93 (x3 + 1))), some (vI (ro w 93 (x3 + 2))), none]) (q := 0) (ci := 8) (T := TX8) (N := 9) dL_law_711 m_X8_answer ul_3_169 ⟨ul_3_170, ul_3_171⟩ ⟨rfl, rfl⟩ rfl rfl rfl rfl rfl rfl rfl (c_X8_answer w (ro w 93 (x3 + 1)) (ro w 93 (x3 + 2)) g1 _ H) ?_
            rintro _ h51 ⟨r51, rfl, H⟩
            show Ev w Y_L_law 714 [some (vR 93), some (vR 0), some (vR 55), some (vI x3)] [vI r51] h51 (rI K)
            refine e_aload_n (pc := 714) dL_law_714 rfl rfl ?_
            refine e_aload_n (pc := 715) dL_law_715 rfl rfl ?_
            refine e_iload_n (pc := 716) dL_law_716 rfl rfl ?_
            refine e_iconst (pc := 717) dL_law_717 ⟨by decide, by decide⟩ ?_
            refine e_iadd (pc := 718) dL_law_718 ob704 ?_
            refine e_rold (q := 93) (x := (ro w 93 (x3 + 1))) (pc := 719) dL_law_719 ⟨by decide, by decide⟩ ob705 rfl (ro_R w 93 _) ?_
            refine e_aload_n (pc := 720) dL_law_720 rfl rfl ?_
            refine e_iload_n (pc := 721) dL_law_721 rfl rfl ?_
            refine e_iconst (pc := 722) dL_law_722 ⟨by decide, by decide⟩ ?_
            refine e_iadd (pc := 723) dL_law_723 ob709 ?_
            refine e_rold (q := 93) (x := (ro w 93 (x3 + 2))) (pc := 724) dL_law_724 ⟨by decide, by decide⟩ ob710 rfl (ro_R w 93 _) ?_
            refine e_invV (pc := 725) (Y' := Y_X9_answer) (as := [vI (ro w 93 (x3 + 1)), vI (ro w 93 (x3 + 2))]) (st := [vI r51]) (lv0 := [some (vR 55), some (vI (ro w 93 (x3 + 1))), some (vI (ro w 93 (x3 + 2))), none, none, none]) (q := 55) (ci := 9) (T := TX9) (N := 52) dL_law_725 m_X9_answer ul_6_7 ⟨ul_6_8, ul_6_9⟩ ⟨rfl, rfl⟩ rfl rfl rfl rfl rfl rfl rfl (c_X9_answer w (ro w 93 (x3 + 1)) (ro w 93 (x3 + 2)) h51 _ H) ?_
            rintro _ h52 ⟨r52, rfl, H⟩
            show Ev w Y_L_law 728 [some (vR 93), some (vR 0), some (vR 55), some (vI x3)] [vI r52, vI r51] h52 (rI K)
            have H := HPH n1 x3 g1 HI ob29 _ _ _ H
            refine e_icmp_eq (pc := 728) (tgt := 1075) dL_law_728 (by decide) (fun c21 => ?_) (fun c21 => ?_)
            · have H := H.1 c21
              have ob1075 := H.1
              have H := H.2
              refine e_iinc (lv' := [some (vR 93), some (vR 0), some (vR 55), some (vI (x3 + 6))]) (pc := 1075) dL_law_1075 rfl ob1075 rfl rfl ?_
              refine e_goto (pc := 1078) (tgt := 18) dL_law_1078 (by decide) ?_
              obtain ⟨m, hm, H⟩ := H
              exact ih1 m hm _ _ H
            · have H := H.2 c21
              refine e_iconst (pc := 731) dL_law_731 ⟨by decide, by decide⟩ ?_
              exact e_ret (pc := 732) (v := some (vI 0)) dL_law_732 rfl (Or.inl rfl) ⟨_, rfl, H⟩
          · have H := H.2.2.2.2.2.2.2.2.2.2.2.2.2.2.2.2.2.1 c2
            refine ⟨700, 733, by rw [c2]; rfl, by decide, ?_⟩
            refine e_aload_n (pc := 733) dL_law_733 rfl rfl ?_
            refine e_invV (pc := 734) (Y' := Y_X8_done) (as := []) (st := []) (lv0 := [some (vR 0), none, none, none, none]) (q := 0) (ci := 8) (T := TX8) (N := 9) dL_law_734 m_X8_done ul_3_177 ⟨ul_3_178, ul_3_179⟩ ⟨rfl, rfl⟩ rfl rfl rfl rfl rfl rfl rfl (c_X8_done w g1 _ H) ?_
            rintro _ h53 ⟨r53, rfl, H⟩
            show Ev w Y_L_law 737 [some (vR 93), some (vR 0), some (vR 55), some (vI x3)] [vI r53] h53 (rI K)
            refine e_aload_n (pc := 737) dL_law_737 rfl rfl ?_
            refine e_invV (pc := 738) (Y' := Y_X9_done) (as := []) (st := [vI r53]) (lv0 := [some (vR 55), none, none, none, none, none, none]) (q := 55) (ci := 9) (T := TX9) (N := 52) dL_law_738 m_X9_done ul_6_11 ⟨ul_6_12, ul_6_13⟩ ⟨rfl, rfl⟩ rfl rfl rfl rfl rfl rfl rfl (c_X9_done w h53 _ H) ?_
            rintro _ h54 ⟨r54, rfl, H⟩
            show Ev w Y_L_law 741 [some (vR 93), some (vR 0), some (vR 55), some (vI x3)] [vI r54, vI r53] h54 (rI K)
            have H := HPH n1 x3 g1 HI ob29 _ _ _ H
            refine e_icmp_eq (pc := 741) (tgt := 1075) dL_law_741 (by decide) (fun c22 => ?_) (fun c22 => ?_)
            · have H := H.1 c22
              have ob1075 := H.1
              have H := H.2
              refine e_iinc (lv' := [some (vR 93), some (vR 0), some (vR 55), some (vI (x3 + 6))]) (pc := 1075) dL_law_1075 rfl ob1075 rfl rfl ?_
              refine e_goto (pc := 1078) (tgt := 18) dL_law_1078 (by decide) ?_
              obtain ⟨m, hm, H⟩ := H
              exact ih1 m hm _ _ H
            · have H := H.2 c22
              refine e_iconst (pc := 744) dL_law_744 ⟨by decide, by decide⟩ ?_
              exact e_ret (pc := 745) (v := some (vI 0)) dL_law_745 rfl (Or.inl rfl) ⟨_, rfl, H⟩
          · have H := H.2.2.2.2.2.2.2.2.2.2.2.2.2.2.2.2.2.2.1 c2
            refine ⟨713, 746, by rw [c2]; rfl, by decide, ?_⟩
            refine e_aload_n (pc := 746) dL_law_746 rfl rfl ?_
            refine e_invV (pc := 747) (Y' := Y_X8_undo) (as := []) (st := []) (lv0 := [some (vR 0), none]) (q := 0) (ci := 8) (T := TX8) (N := 9) dL_law_747 m_X8_undo ul_4_32 ⟨ul_4_33, ul_4_34⟩ ⟨rfl, rfl⟩ rfl rfl rfl rfl rfl rfl rfl (c_X8_undo w g1 _ H) ?_
            rintro _ h55 ⟨r55, rfl, H⟩
            show Ev w Y_L_law 750 [some (vR 93), some (vR 0), some (vR 55), some (vI x3)] [vI r55] h55 (rI K)
            refine e_aload_n (pc := 750) dL_law_750 rfl rfl ?_
            refine e_invV (pc := 751) (Y' := Y_X9_undo) (as := []) (st := [vI r55]) (lv0 := [some (vR 55), none, none, none]) (q := 55) (ci := 9) (T := TX9) (N := 52) dL_law_751 m_X9_undo ul_6_38 ⟨ul_6_39, ul_6_40⟩ ⟨rfl, rfl⟩ rfl rfl rfl rfl rfl rfl rfl (c_X9_undo w h55 _ H) ?_
            rintro _ h56 ⟨r56, rfl, H⟩
            show Ev w Y_L_law 754 [some (vR 93), some (vR 0), some (vR 55), some (vI x3)] [vI r56, vI r55] h56 (rI K)
            have H := HPH n1 x3 g1 HI ob29 _ _ _ H
            refine e_icmp_eq (pc := 754) (tgt := 1075) dL_law_754 (by decide) (fun c23 => ?_) (fun c23 => ?_)
            · have H := H.1 c23
              have ob1075 := H.1
              have H := H.2
              refine e_iinc (lv' := [some (vR 93), some (vR 0), some (vR 55), some (vI (x3 + 6))]) (pc := 1075) dL_law_1075 rfl ob1075 rfl rfl ?_
              refine e_goto (pc := 1078) (tgt := 18) dL_law_1078 (by decide) ?_
              obtain ⟨m, hm, H⟩ := H
              exact ih1 m hm _ _ H
            · have H := H.2 c23
              refine e_iconst (pc := 757) dL_law_757 ⟨by decide, by decide⟩ ?_
              exact e_ret (pc := 758) (v := some (vI 0)) dL_law_758 rfl (Or.inl rfl) ⟨_, rfl, H⟩
          · have H := H.2.2.2.2.2.2.2.2.2.2.2.2.2.2.2.2.2.2.2.1 c2
            refine ⟨726, 759, by rw [c2]; rfl, by decide, ?_⟩
            refine e_aload_n (pc := 759) dL_law_759 rfl rfl ?_
            refine e_aload_n (pc := 760) dL_law_760 rfl rfl ?_
            refine e_iload_n (pc := 761) dL_law_761 rfl rfl ?_
            refine e_iconst (pc := 762) dL_law_762 ⟨by decide, by decide⟩ ?_
            have ob763 := H.1
            have H := H.2
            refine e_iadd (pc := 763) dL_law_763 ob763 ?_
            have ob764 := H.1
            have H := H.2
            refine e_rold (q := 93) (x := (ro w 93 (x3 + 1))) (pc := 764) dL_law_764 ⟨by decide, by decide⟩ ob764 rfl (ro_R w 93 _) ?_
            refine e_aload_n (pc := 765) dL_law_765 rfl rfl ?_
            refine e_iload_n (pc := 766) dL_law_766 rfl rfl ?_
            refine e_iconst (pc := 767) dL_law_767 ⟨by decide, by decide⟩ ?_
            have ob768 := H.1
            have H := H.2
            refine e_iadd (pc := 768) dL_law_768 ob768 ?_
            have ob769 := H.1
            have H := H.2
            refine e_rold (q := 93) (x := (ro w 93 (x3 + 2))) (pc := 769) dL_law_769 ⟨by decide, by decide⟩ ob769 rfl (ro_R w 93 _) ?_
            refine e_aload_n (pc := 770) dL_law_770 rfl rfl ?_
            refine e_iload_n (pc := 771) dL_law_771 rfl rfl ?_
            refine e_iconst (pc := 772) dL_law_772 ⟨by decide, by decide⟩ ?_
            have ob773 := H.1
            have H := H.2
            refine e_iadd (pc := 773) dL_law_773 ob773 ?_
            have ob774 := H.1
            have H := H.2
            refine e_rold (q := 93) (x := (ro w 93 (x3 + 3))) (pc := 774) dL_law_774 ⟨by decide, by decide⟩ ob774 rfl (ro_R w 93 _) ?_
            refine e_aload_n (pc := 775) dL_law_775 rfl rfl ?_
            refine e_iload_n (pc := 776) dL_law_776 rfl rfl ?_
            refine e_iconst (pc := 777) dL_law_777 ⟨by decide, by decide⟩ ?_
            have ob778 := H.1
            have H := H.2
            refine e_iadd (pc := 778) dL_law_778 ob778 ?_
            have ob779 := H.1
            have H := H.2
            refine e_rold (q := 93) (x := (ro w 93 (x3 + 4))) (pc := 779) dL_law_779 ⟨by decide, by decide⟩ ob779 rfl (ro_R w 93 _) ?_
            refine e_invV (pc := 780) (Y' := Y_X8_when) (as := [vI (ro w 93 (x3 + 1)), vI (ro w 93 (x3 + 2)), vI (ro w 93 (x3 + 3)), vI (ro w 93 (x3 + 4))]) (st := []) (lv0 := [some (vR 0), some (vI (ro w 93 (x3 + 1))), some (vI (ro w 93 (x3 + 2))), some (vI (ro w 93 (x3 + 3))), some (vI (ro w 93 (x3 + 4)))]) (q := 0) (ci := 8) (T := TX8) (N := 9) dL_law_780 m_X8_when ul_4_44 ⟨ul_4_45, ul_4_46⟩ ⟨rfl, rfl⟩ rfl rfl rfl rfl rfl rfl rfl (c_X8_when w (ro w 93 (x3 + 1)) (ro w 93 (x3 + 2)) (ro w 93 (x3 + 3)) (ro w 93 (x3 + 4)) g1 _ H) ?_
            rintro _ h57 ⟨r57, rfl, H⟩
            show Ev w Y_L_law 783 [some (vR 93), some (vR 0), some (vR 55), some (vI x3)] [vI r57] h57 (rI K)
            refine e_aload_n (pc := 783) dL_law_783 rfl rfl ?_
            refine e_aload_n (pc := 784) dL_law_784 rfl rfl ?_
            refine e_iload_n (pc := 785) dL_law_785 rfl rfl ?_
            refine e_iconst (pc := 786) dL_law_786 ⟨by decide, by decide⟩ ?_
            refine e_iadd (pc := 787) dL_law_787 ob763 ?_
            refine e_rold (q := 93) (x := (ro w 93 (x3 + 1))) (pc := 788) dL_law_788 ⟨by decide, by decide⟩ ob764 rfl (ro_R w 93 _) ?_
            refine e_aload_n (pc := 789) dL_law_789 rfl rfl ?_
            refine e_iload_n (pc := 790) dL_law_790 rfl rfl ?_
            refine e_iconst (pc := 791) dL_law_791 ⟨by decide, by decide⟩ ?_
            refine e_iadd (pc := 792) dL_law_792 ob768 ?_
            refine e_rold (q := 93) (x := (ro w 93 (x3 + 2))) (pc := 793) dL_law_793 ⟨by decide, by decide⟩ ob769 rfl (ro_R w 93 _) ?_
            refine e_aload_n (pc := 794) dL_law_794 rfl rfl ?_
            refine e_iload_n (pc := 795) dL_law_795 rfl rfl ?_
            refine e_iconst (pc := 796) dL_law_796 ⟨by decide, by decide⟩ ?_
            refine e_iadd (pc := 797) dL_law_797 ob773 ?_
            refine e_rold (q := 93) (x := (ro w 93 (x3 + 3))) (pc := 798) dL_law_798 ⟨by decide, by decide⟩ ob774 rfl (ro_R w 93 _) ?_
            refine e_aload_n (pc := 799) dL_law_799 rfl rfl ?_
            refine e_iload_n (pc := 800) dL_law_800 rfl rfl ?_
            refine e_iconst (pc := 801) dL_law_801 ⟨by decide, by decide⟩ ?_
            refine e_iadd (pc := 802) dL_law_802 ob778 ?_
            refine e_rold (q := 93) (x := (ro w 93 (x3 + 4))) (pc := 803) dL_law_803 ⟨by decide, by decide⟩ ob779 rfl (ro_R w 93 _) ?_
            refine e_invV (pc := 804) (Y' := Y_X9_when) (as := [vI (ro w 93 (x3 + 1)), vI (ro w 93 (x3 + 2)), vI (ro w 93 (x3 + 3)), vI (ro w 93 (x3 + 4))]) (st := [vI r57]) (lv0 := [some (vR 55), some (vI (ro w 93 (x3 + 1))), some (vI (ro w 93 (x3 + 2))), some (vI (ro w 93 (x3 + 3))), some (vI (ro w 93 (x3 + 4)))]) (q := 55) (ci := 9) (T := TX9) (N := 52) dL_law_804 m_X9_when ul_6_42 ⟨ul_6_43, ul_6_44⟩ ⟨rfl, rfl⟩ rfl rfl rfl rfl rfl rfl rfl (c_X9_when w (ro w 93 (x3 + 1)) (ro w 93 (x3 + 2)) (ro w 93 (x3 + 3)) (ro w 93 (x3 + 4)) h57 _ H) ?_
            rintro _ h58 ⟨r58, rfl, H⟩
            show Ev w Y_L_law 807 [some (vR 93), some (vR 0), some (vR 55), some (vI x3)] [vI r58, vI r57] h58 (rI K)
            have H := HPH n1 x3 g1 HI ob29 _ _ _ H
            refine e_icmp_eq (pc := 807) (tgt := 1075) dL_law_807 (by decide) (fun c24 => ?_) (fun c24 => ?_)
            · have H := H.1 c24
              have ob1075 := H.1
              have H := H.2
              refine e_iinc (lv' := [some (vR 93), some (vR 0), some (vR 55), some (vI (x3 + 6))]) (pc := 1075) dL_law_1075 rfl ob1075 rfl rfl ?_
              refine e_goto (pc := 1078) (tgt := 18) dL_law_1078 (by decide) ?_
              obtain ⟨m, hm, H⟩ := H
              exact ih1 m hm _ _ H
            · have H := H.2 c24
              refine e_iconst (pc := 810) dL_law_810 ⟨by decide, by decide⟩ ?_
              exact e_ret (pc := 811) (v := some (vI 0)) dL_law_811 rfl (Or.inl rfl) ⟨_, rfl, H⟩
          · have H := H.2.2.2.2.2.2.2.2.2.2.2.2.2.2.2.2.2.2.2.2.1 c2
            refine ⟨779, 812, by rw [c2]; rfl, by decide, ?_⟩
            refine e_aload_n (pc := 812) dL_law_812 rfl rfl ?_
            refine e_aload_n (pc := 813) dL_law_813 rfl rfl ?_
            refine e_iload_n (pc := 814) dL_law_814 rfl rfl ?_
            refine e_iconst (pc := 815) dL_law_815 ⟨by decide, by decide⟩ ?_
            have ob816 := H.1
            have H := H.2
            refine e_iadd (pc := 816) dL_law_816 ob816 ?_
            have ob817 := H.1
            have H := H.2
            refine e_rold (q := 93) (x := (ro w 93 (x3 + 1))) (pc := 817) dL_law_817 ⟨by decide, by decide⟩ ob817 rfl (ro_R w 93 _) ?_
            refine e_aload_n (pc := 818) dL_law_818 rfl rfl ?_
            refine e_iload_n (pc := 819) dL_law_819 rfl rfl ?_
            refine e_iconst (pc := 820) dL_law_820 ⟨by decide, by decide⟩ ?_
            have ob821 := H.1
            have H := H.2
            refine e_iadd (pc := 821) dL_law_821 ob821 ?_
            have ob822 := H.1
            have H := H.2
            refine e_rold (q := 93) (x := (ro w 93 (x3 + 2))) (pc := 822) dL_law_822 ⟨by decide, by decide⟩ ob822 rfl (ro_R w 93 _) ?_
            refine e_aload_n (pc := 823) dL_law_823 rfl rfl ?_
            refine e_iload_n (pc := 824) dL_law_824 rfl rfl ?_
            refine e_iconst (pc := 825) dL_law_825 ⟨by decide, by decide⟩ ?_
            have ob826 := H.1
            have H := H.2
            refine e_iadd (pc := 826) dL_law_826 ob826 ?_
            have ob827 := H.1
            have H := H.2
            refine e_rold (q := 93) (x := (ro w 93 (x3 + 3))) (pc := 827) dL_law_827 ⟨by decide, by decide⟩ ob827 rfl (ro_R w 93 _) ?_
            refine e_invV (pc := 828) (Y' := Y_X8_at) (as := [vI (ro w 93 (x3 + 1)), vI (ro w 93 (x3 + 2)), vI (ro w 93 (x3 + 3))]) (st := []) (lv0 := [some (vR 0), some (vI (ro w 93 (x3 + 1))), some (vI (ro w 93 (x3 + 2))), some (vI (ro w 93 (x3 + 3)))]) (q := 0) (ci := 8) (T := TX8) (N := 9) dL_law_828 m_X8_at ul_4_53 ⟨ul_4_54, ul_4_55⟩ ⟨rfl, rfl⟩ rfl rfl rfl rfl rfl rfl rfl (c_X8_at w (ro w 93 (x3 + 1)) (ro w 93 (x3 + 2)) (ro w 93 (x3 + 3)) g1 _ H) ?_
            rintro _ h59 ⟨r59, rfl, H⟩
            show Ev w Y_L_law 831 [some (vR 93), some (vR 0), some (vR 55), some (vI x3)] [vI r59] h59 (rI K)
            refine e_aload_n (pc := 831) dL_law_831 rfl rfl ?_
            refine e_aload_n (pc := 832) dL_law_832 rfl rfl ?_
            refine e_iload_n (pc := 833) dL_law_833 rfl rfl ?_
            refine e_iconst (pc := 834) dL_law_834 ⟨by decide, by decide⟩ ?_
            refine e_iadd (pc := 835) dL_law_835 ob816 ?_
            refine e_rold (q := 93) (x := (ro w 93 (x3 + 1))) (pc := 836) dL_law_836 ⟨by decide, by decide⟩ ob817 rfl (ro_R w 93 _) ?_
            refine e_aload_n (pc := 837) dL_law_837 rfl rfl ?_
            refine e_iload_n (pc := 838) dL_law_838 rfl rfl ?_
            refine e_iconst (pc := 839) dL_law_839 ⟨by decide, by decide⟩ ?_
            refine e_iadd (pc := 840) dL_law_840 ob821 ?_
            refine e_rold (q := 93) (x := (ro w 93 (x3 + 2))) (pc := 841) dL_law_841 ⟨by decide, by decide⟩ ob822 rfl (ro_R w 93 _) ?_
            refine e_aload_n (pc := 842) dL_law_842 rfl rfl ?_
            refine e_iload_n (pc := 843) dL_law_843 rfl rfl ?_
            refine e_iconst (pc := 844) dL_law_844 ⟨by decide, by decide⟩ ?_
            refine e_iadd (pc := 845) dL_law_845 ob826 ?_
            refine e_rold (q := 93) (x := (ro w 93 (x3 + 3))) (pc := 846) dL_law_846 ⟨by decide, by decide⟩ ob827 rfl (ro_R w 93 _) ?_
            refine e_invV (pc := 847) (Y' := Y_X9_at) (as := [vI (ro w 93 (x3 + 1)), vI (ro w 93 (x3 + 2)), vI (ro w 93 (x3 + 3))]) (st := [vI r59]) (lv0 := [some (vR 55), some (vI (ro w 93 (x3 + 1))), some (vI (ro w 93 (x3 + 2))), some (vI (ro w 93 (x3 + 3)))]) (q := 55) (ci := 9) (T := TX9) (N := 52) dL_law_847 m_X9_at ul_6_54 ⟨ul_6_55, ul_6_56⟩ ⟨rfl, rfl⟩ rfl rfl rfl rfl rfl rfl rfl (c_X9_at w (ro w 93 (x3 + 1)) (ro w 93 (x3 + 2)) (ro w 93 (x3 + 3)) h59 _ H) ?_
            rintro _ h60 ⟨r60, rfl, H⟩
            show Ev w Y_L_law 850 [some (vR 93), some (vR 0), some (vR 55), some (vI x3)] [vI r60, vI r59] h60 (rI K)
            have H := HPH n1 x3 g1 HI ob29 _ _ _ H
            refine e_icmp_eq (pc := 850) (tgt := 1075) dL_law_850 (by decide) (fun c25 => ?_) (fun c25 => ?_)
            · have H := H.1 c25
              have ob1075 := H.1
              have H := H.2
              refine e_iinc (lv' := [some (vR 93), some (vR 0), some (vR 55), some (vI (x3 + 6))]) (pc := 1075) dL_law_1075 rfl ob1075 rfl rfl ?_
              refine e_goto (pc := 1078) (tgt := 18) dL_law_1078 (by decide) ?_
              obtain ⟨m, hm, H⟩ := H
              exact ih1 m hm _ _ H
            · have H := H.2 c25
              refine e_iconst (pc := 853) dL_law_853 ⟨by decide, by decide⟩ ?_
              exact e_ret (pc := 854) (v := some (vI 0)) dL_law_854 rfl (Or.inl rfl) ⟨_, rfl, H⟩
          · have H := H.2.2.2.2.2.2.2.2.2.2.2.2.2.2.2.2.2.2.2.2.2.1 c2
            refine ⟨822, 855, by rw [c2]; rfl, by decide, ?_⟩
            refine e_aload_n (pc := 855) dL_law_855 rfl rfl ?_
            refine e_aload_n (pc := 856) dL_law_856 rfl rfl ?_
            refine e_iload_n (pc := 857) dL_law_857 rfl rfl ?_
            refine e_iconst (pc := 858) dL_law_858 ⟨by decide, by decide⟩ ?_
            have ob859 := H.1
            have H := H.2
            refine e_iadd (pc := 859) dL_law_859 ob859 ?_
            have ob860 := H.1
            have H := H.2
            refine e_rold (q := 93) (x := (ro w 93 (x3 + 1))) (pc := 860) dL_law_860 ⟨by decide, by decide⟩ ob860 rfl (ro_R w 93 _) ?_
            refine e_invV (pc := 861) (Y' := Y_X8_ticks) (as := [vI (ro w 93 (x3 + 1))]) (st := []) (lv0 := [some (vR 0), some (vI (ro w 93 (x3 + 1))), none]) (q := 0) (ci := 8) (T := TX8) (N := 9) dL_law_861 m_X8_ticks ul_4_57 ⟨ul_4_58, ul_4_59⟩ ⟨rfl, rfl⟩ rfl rfl rfl rfl rfl rfl rfl (c_X8_ticks w (ro w 93 (x3 + 1)) g1 _ H) ?_
            rintro _ h61 ⟨r61, rfl, H⟩
            show Ev w Y_L_law 864 [some (vR 93), some (vR 0), some (vR 55), some (vI x3)] [vI r61] h61 (rI K)
            refine e_aload_n (pc := 864) dL_law_864 rfl rfl ?_
            refine e_aload_n (pc := 865) dL_law_865 rfl rfl ?_
            refine e_iload_n (pc := 866) dL_law_866 rfl rfl ?_
            refine e_iconst (pc := 867) dL_law_867 ⟨by decide, by decide⟩ ?_
            refine e_iadd (pc := 868) dL_law_868 ob859 ?_
            refine e_rold (q := 93) (x := (ro w 93 (x3 + 1))) (pc := 869) dL_law_869 ⟨by decide, by decide⟩ ob860 rfl (ro_R w 93 _) ?_
            refine e_invV (pc := 870) (Y' := Y_X9_ticks) (as := [vI (ro w 93 (x3 + 1))]) (st := [vI r61]) (lv0 := [some (vR 55), some (vI (ro w 93 (x3 + 1))), none, none]) (q := 55) (ci := 9) (T := TX9) (N := 52) dL_law_870 m_X9_ticks ul_6_58 ⟨ul_6_59, ul_6_60⟩ ⟨rfl, rfl⟩ rfl rfl rfl rfl rfl rfl rfl (c_X9_ticks w (ro w 93 (x3 + 1)) h61 _ H) ?_
            rintro _ h62 ⟨r62, rfl, H⟩
            show Ev w Y_L_law 873 [some (vR 93), some (vR 0), some (vR 55), some (vI x3)] [vI r62, vI r61] h62 (rI K)
            have H := HPH n1 x3 g1 HI ob29 _ _ _ H
            refine e_icmp_eq (pc := 873) (tgt := 1075) dL_law_873 (by decide) (fun c26 => ?_) (fun c26 => ?_)
            · have H := H.1 c26
              have ob1075 := H.1
              have H := H.2
              refine e_iinc (lv' := [some (vR 93), some (vR 0), some (vR 55), some (vI (x3 + 6))]) (pc := 1075) dL_law_1075 rfl ob1075 rfl rfl ?_
              refine e_goto (pc := 1078) (tgt := 18) dL_law_1078 (by decide) ?_
              obtain ⟨m, hm, H⟩ := H
              exact ih1 m hm _ _ H
            · have H := H.2 c26
              refine e_iconst (pc := 876) dL_law_876 ⟨by decide, by decide⟩ ?_
              exact e_ret (pc := 877) (v := some (vI 0)) dL_law_877 rfl (Or.inl rfl) ⟨_, rfl, H⟩
          · have H := H.2.2.2.2.2.2.2.2.2.2.2.2.2.2.2.2.2.2.2.2.2.2.1 c2
            refine ⟨845, 878, by rw [c2]; rfl, by decide, ?_⟩
            refine e_aload_n (pc := 878) dL_law_878 rfl rfl ?_
            refine e_invV (pc := 879) (Y' := Y_X8_quarrel) (as := []) (st := []) (lv0 := [some (vR 0)]) (q := 0) (ci := 8) (T := TX8) (N := 9) dL_law_879 m_X8_quarrel ul_4_71 ⟨ul_4_72, ul_4_73⟩ ⟨rfl, rfl⟩ rfl rfl rfl rfl rfl rfl rfl (c_X8_quarrel w g1 _ H) ?_
            rintro _ h63 ⟨r63, rfl, H⟩
            show Ev w Y_L_law 882 [some (vR 93), some (vR 0), some (vR 55), some (vI x3)] [vI r63] h63 (rI K)
            refine e_aload_n (pc := 882) dL_law_882 rfl rfl ?_
            refine e_invV (pc := 883) (Y' := Y_X9_quarrel) (as := []) (st := [vI r63]) (lv0 := [some (vR 55), none, none, none]) (q := 55) (ci := 9) (T := TX9) (N := 52) dL_law_883 m_X9_quarrel ul_6_62 ⟨ul_6_63, ul_6_64⟩ ⟨rfl, rfl⟩ rfl rfl rfl rfl rfl rfl rfl (c_X9_quarrel w h63 H.1) ?_
            rintro _ hz ⟨_, rfl, rfl, hh⟩
            rw [hh]
            show Ev w Y_L_law 886 [some (vR 93), some (vR 0), some (vR 55), some (vI x3)] [vI (qrl (fun a b => (h63 79 (5 * a) = h63 79 (5 * b) ∧ h63 79 (5 * a + 1) = h63 79 (5 * b + 1) ∧ h63 79 (5 * a + 2) = h63 79 (5 * b + 2)) ∧ h63 79 (5 * a + 3) = h63 79 (5 * b + 3) ∧ ¬ h63 79 (5 * a + 4) = h63 79 (5 * b + 4)) (h63 55 33).toNat), vI r63] h63 (rI K)
            have H := H.2
            have H := HPH n1 x3 g1 HI ob29 _ _ _ H
            refine e_icmp_eq (pc := 886) (tgt := 1075) dL_law_886 (by decide) (fun c27 => ?_) (fun c27 => ?_)
            · have H := H.1 c27
              have ob1075 := H.1
              have H := H.2
              refine e_iinc (lv' := [some (vR 93), some (vR 0), some (vR 55), some (vI (x3 + 6))]) (pc := 1075) dL_law_1075 rfl ob1075 rfl rfl ?_
              refine e_goto (pc := 1078) (tgt := 18) dL_law_1078 (by decide) ?_
              obtain ⟨m, hm, H⟩ := H
              exact ih1 m hm _ _ H
            · have H := H.2 c27
              refine e_iconst (pc := 889) dL_law_889 ⟨by decide, by decide⟩ ?_
              exact e_ret (pc := 890) (v := some (vI 0)) dL_law_890 rfl (Or.inl rfl) ⟨_, rfl, H⟩
          · have H := H.2.2.2.2.2.2.2.2.2.2.2.2.2.2.2.2.2.2.2.2.2.2.2.1 c2
            refine ⟨858, 891, by rw [c2]; rfl, by decide, ?_⟩
            refine e_aload_n (pc := 891) dL_law_891 rfl rfl ?_
            refine e_invV (pc := 892) (Y' := Y_X8_wake) (as := []) (st := []) (lv0 := [some (vR 0)]) (q := 0) (ci := 8) (T := TX8) (N := 9) dL_law_892 m_X8_wake ul_4_79 ⟨ul_4_80, ul_4_81⟩ ⟨rfl, rfl⟩ rfl rfl rfl rfl rfl rfl rfl (c_X8_wake w g1 _ H) ?_
            rintro _ h64 ⟨r64, rfl, H⟩
            show Ev w Y_L_law 895 [some (vR 93), some (vR 0), some (vR 55), some (vI x3)] [vI r64] h64 (rI K)
            refine e_aload_n (pc := 895) dL_law_895 rfl rfl ?_
            refine e_invV (pc := 896) (Y' := Y_X9_wake) (as := []) (st := [vI r64]) (lv0 := [some (vR 55), none, none, none, none]) (q := 55) (ci := 9) (T := TX9) (N := 52) dL_law_896 m_X9_wake ul_6_66 ⟨ul_6_67, ul_6_68⟩ ⟨rfl, rfl⟩ rfl rfl rfl rfl rfl rfl rfl (c_X9_wake w h64 H.1) ?_
            rintro _ hz ⟨_, rfl, rfl, hh⟩
            rw [hh]
            show Ev w Y_L_law 899 [some (vR 93), some (vR 0), some (vR 55), some (vI x3)] [vI (fs4 (selfW (wiM h64) (h64 55 33)) (h64 55 33).toNat), vI r64] h64 (rI K)
            have H := H.2
            have H := HPH n1 x3 g1 HI ob29 _ _ _ H
            refine e_icmp_eq (pc := 899) (tgt := 1075) dL_law_899 (by decide) (fun c28 => ?_) (fun c28 => ?_)
            · have H := H.1 c28
              have ob1075 := H.1
              have H := H.2
              refine e_iinc (lv' := [some (vR 93), some (vR 0), some (vR 55), some (vI (x3 + 6))]) (pc := 1075) dL_law_1075 rfl ob1075 rfl rfl ?_
              refine e_goto (pc := 1078) (tgt := 18) dL_law_1078 (by decide) ?_
              obtain ⟨m, hm, H⟩ := H
              exact ih1 m hm _ _ H
            · have H := H.2 c28
              refine e_iconst (pc := 902) dL_law_902 ⟨by decide, by decide⟩ ?_
              exact e_ret (pc := 903) (v := some (vI 0)) dL_law_903 rfl (Or.inl rfl) ⟨_, rfl, H⟩
          · have H := H.2.2.2.2.2.2.2.2.2.2.2.2.2.2.2.2.2.2.2.2.2.2.2.2.1 c2
            refine ⟨871, 904, by rw [c2]; rfl, by decide, ?_⟩
            refine e_aload_n (pc := 904) dL_law_904 rfl rfl ?_
            refine e_invV (pc := 905) (Y' := Y_X8_show) (as := []) (st := []) (lv0 := [some (vR 0)]) (q := 0) (ci := 8) (T := TX8) (N := 9) dL_law_905 m_X8_show ul_4_96 ⟨ul_4_97, ul_4_98⟩ ⟨rfl, rfl⟩ rfl rfl rfl rfl rfl rfl rfl (c_X8_show w g1 _ H) ?_
            rintro _ h65 ⟨r65, rfl, H⟩
            show Ev w Y_L_law 908 [some (vR 93), some (vR 0), some (vR 55), some (vI x3)] [vI r65] h65 (rI K)
            refine e_aload_n (pc := 908) dL_law_908 rfl rfl ?_
            refine e_invV (pc := 909) (Y' := Y_X9_show) (as := []) (st := [vI r65]) (lv0 := [some (vR 55), none, none]) (q := 55) (ci := 9) (T := TX9) (N := 52) dL_law_909 m_X9_show ul_6_74 ⟨ul_6_75, ul_6_76⟩ ⟨rfl, rfl⟩ rfl rfl rfl rfl rfl rfl rfl (c_X9_show w h65 _ H) ?_
            rintro _ h66 ⟨r66, rfl, H⟩
            show Ev w Y_L_law 912 [some (vR 93), some (vR 0), some (vR 55), some (vI x3)] [vI r66, vI r65] h66 (rI K)
            have H := HPH n1 x3 g1 HI ob29 _ _ _ H
            refine e_icmp_eq (pc := 912) (tgt := 1075) dL_law_912 (by decide) (fun c29 => ?_) (fun c29 => ?_)
            · have H := H.1 c29
              have ob1075 := H.1
              have H := H.2
              refine e_iinc (lv' := [some (vR 93), some (vR 0), some (vR 55), some (vI (x3 + 6))]) (pc := 1075) dL_law_1075 rfl ob1075 rfl rfl ?_
              refine e_goto (pc := 1078) (tgt := 18) dL_law_1078 (by decide) ?_
              obtain ⟨m, hm, H⟩ := H
              exact ih1 m hm _ _ H
            · have H := H.2 c29
              refine e_iconst (pc := 915) dL_law_915 ⟨by decide, by decide⟩ ?_
              exact e_ret (pc := 916) (v := some (vI 0)) dL_law_916 rfl (Or.inl rfl) ⟨_, rfl, H⟩
          · have H := H.2.2.2.2.2.2.2.2.2.2.2.2.2.2.2.2.2.2.2.2.2.2.2.2.2.1 c2
            refine ⟨884, 917, by rw [c2]; rfl, by decide, ?_⟩
            refine e_aload_n (pc := 917) dL_law_917 rfl rfl ?_
            refine e_aload_n (pc := 918) dL_law_918 rfl rfl ?_
            refine e_iload_n (pc := 919) dL_law_919 rfl rfl ?_
            refine e_iconst (pc := 920) dL_law_920 ⟨by decide, by decide⟩ ?_
            have ob921 := H.1
            have H := H.2
            refine e_iadd (pc := 921) dL_law_921 ob921 ?_
            have ob922 := H.1
            have H := H.2
            refine e_rold (q := 93) (x := (ro w 93 (x3 + 1))) (pc := 922) dL_law_922 ⟨by decide, by decide⟩ ob922 rfl (ro_R w 93 _) ?_
            refine e_aload_n (pc := 923) dL_law_923 rfl rfl ?_
            refine e_iload_n (pc := 924) dL_law_924 rfl rfl ?_
            refine e_iconst (pc := 925) dL_law_925 ⟨by decide, by decide⟩ ?_
            have ob926 := H.1
            have H := H.2
            refine e_iadd (pc := 926) dL_law_926 ob926 ?_
            have ob927 := H.1
            have H := H.2
            refine e_rold (q := 93) (x := (ro w 93 (x3 + 2))) (pc := 927) dL_law_927 ⟨by decide, by decide⟩ ob927 rfl (ro_R w 93 _) ?_
            refine e_aload_n (pc := 928) dL_law_928 rfl rfl ?_
            refine e_iload_n (pc := 929) dL_law_929 rfl rfl ?_
            refine e_iconst (pc := 930) dL_law_930 ⟨by decide, by decide⟩ ?_
            have ob931 := H.1
            have H := H.2
            refine e_iadd (pc := 931) dL_law_931 ob931 ?_
            have ob932 := H.1
            have H := H.2
            refine e_rold (q := 93) (x := (ro w 93 (x3 + 3))) (pc := 932) dL_law_932 ⟨by decide, by decide⟩ ob932 rfl (ro_R w 93 _) ?_
            refine e_invV (pc := 933) (Y' := Y_X8_habits) (as := [vI (ro w 93 (x3 + 1)), vI (ro w 93 (x3 + 2)), vI (ro w 93 (x3 + 3))]) (st := []) (lv0 := [some (vR 0), some (vI (ro w 93 (x3 + 1))), some (vI (ro w 93 (x3 + 2))), some (vI (ro w 93 (x3 + 3)))]) (q := 0) (ci := 8) (T := TX8) (N := 9) dL_law_933 m_X8_habits ul_4_127 ⟨ul_4_128, ul_4_129⟩ ⟨rfl, rfl⟩ rfl rfl rfl rfl rfl rfl rfl (c_X8_habits w (ro w 93 (x3 + 1)) (ro w 93 (x3 + 2)) (ro w 93 (x3 + 3)) g1 _ H) ?_
            rintro _ h67 ⟨r67, rfl, H⟩
            show Ev w Y_L_law 936 [some (vR 93), some (vR 0), some (vR 55), some (vI x3)] [vI r67] h67 (rI K)
            refine e_aload_n (pc := 936) dL_law_936 rfl rfl ?_
            refine e_aload_n (pc := 937) dL_law_937 rfl rfl ?_
            refine e_iload_n (pc := 938) dL_law_938 rfl rfl ?_
            refine e_iconst (pc := 939) dL_law_939 ⟨by decide, by decide⟩ ?_
            refine e_iadd (pc := 940) dL_law_940 ob921 ?_
            refine e_rold (q := 93) (x := (ro w 93 (x3 + 1))) (pc := 941) dL_law_941 ⟨by decide, by decide⟩ ob922 rfl (ro_R w 93 _) ?_
            refine e_aload_n (pc := 942) dL_law_942 rfl rfl ?_
            refine e_iload_n (pc := 943) dL_law_943 rfl rfl ?_
            refine e_iconst (pc := 944) dL_law_944 ⟨by decide, by decide⟩ ?_
            refine e_iadd (pc := 945) dL_law_945 ob926 ?_
            refine e_rold (q := 93) (x := (ro w 93 (x3 + 2))) (pc := 946) dL_law_946 ⟨by decide, by decide⟩ ob927 rfl (ro_R w 93 _) ?_
            refine e_aload_n (pc := 947) dL_law_947 rfl rfl ?_
            refine e_iload_n (pc := 948) dL_law_948 rfl rfl ?_
            refine e_iconst (pc := 949) dL_law_949 ⟨by decide, by decide⟩ ?_
            refine e_iadd (pc := 950) dL_law_950 ob931 ?_
            refine e_rold (q := 93) (x := (ro w 93 (x3 + 3))) (pc := 951) dL_law_951 ⟨by decide, by decide⟩ ob932 rfl (ro_R w 93 _) ?_
            refine e_invV (pc := 952) (Y' := Y_X9_habits) (as := [vI (ro w 93 (x3 + 1)), vI (ro w 93 (x3 + 2)), vI (ro w 93 (x3 + 3))]) (st := [vI r67]) (lv0 := [some (vR 55), some (vI (ro w 93 (x3 + 1))), some (vI (ro w 93 (x3 + 2))), some (vI (ro w 93 (x3 + 3))), none, none, none]) (q := 55) (ci := 9) (T := TX9) (N := 52) dL_law_952 m_X9_habits ul_6_90 ⟨ul_6_91, ul_6_92⟩ ⟨rfl, rfl⟩ rfl rfl rfl rfl rfl rfl rfl (c_X9_habits w (ro w 93 (x3 + 1)) (ro w 93 (x3 + 2)) (ro w 93 (x3 + 3)) h67 H.1) ?_
            rintro _ hz ⟨_, rfl, rfl, hh⟩
            rw [hh]
            show Ev w Y_L_law 955 [some (vR 93), some (vR 0), some (vR 55), some (vI x3)] [vI (hbM h67 (ro w 93 (x3 + 1)) (ro w 93 (x3 + 2)) (ro w 93 (x3 + 3))), vI r67] h67 (rI K)
            have H := H.2
            have H := HPH n1 x3 g1 HI ob29 _ _ _ H
            refine e_icmp_eq (pc := 955) (tgt := 1075) dL_law_955 (by decide) (fun c30 => ?_) (fun c30 => ?_)
            · have H := H.1 c30
              have ob1075 := H.1
              have H := H.2
              refine e_iinc (lv' := [some (vR 93), some (vR 0), some (vR 55), some (vI (x3 + 6))]) (pc := 1075) dL_law_1075 rfl ob1075 rfl rfl ?_
              refine e_goto (pc := 1078) (tgt := 18) dL_law_1078 (by decide) ?_
              obtain ⟨m, hm, H⟩ := H
              exact ih1 m hm _ _ H
            · have H := H.2 c30
              refine e_iconst (pc := 958) dL_law_958 ⟨by decide, by decide⟩ ?_
              exact e_ret (pc := 959) (v := some (vI 0)) dL_law_959 rfl (Or.inl rfl) ⟨_, rfl, H⟩
          · have H := H.2.2.2.2.2.2.2.2.2.2.2.2.2.2.2.2.2.2.2.2.2.2.2.2.2.2.1 c2
            refine ⟨927, 960, by rw [c2]; rfl, by decide, ?_⟩
            refine e_aload_n (pc := 960) dL_law_960 rfl rfl ?_
            refine e_aload_n (pc := 961) dL_law_961 rfl rfl ?_
            refine e_iload_n (pc := 962) dL_law_962 rfl rfl ?_
            refine e_iconst (pc := 963) dL_law_963 ⟨by decide, by decide⟩ ?_
            have ob964 := H.1
            have H := H.2
            refine e_iadd (pc := 964) dL_law_964 ob964 ?_
            have ob965 := H.1
            have H := H.2
            refine e_rold (q := 93) (x := (ro w 93 (x3 + 1))) (pc := 965) dL_law_965 ⟨by decide, by decide⟩ ob965 rfl (ro_R w 93 _) ?_
            refine e_invV (pc := 966) (Y' := Y_X8_keepHabit) (as := [vI (ro w 93 (x3 + 1))]) (st := []) (lv0 := [some (vR 0), some (vI (ro w 93 (x3 + 1))), none, none, none]) (q := 0) (ci := 8) (T := TX8) (N := 9) dL_law_966 m_X8_keepHabit ul_4_148 ⟨ul_4_149, ul_4_150⟩ ⟨rfl, rfl⟩ rfl rfl rfl rfl rfl rfl rfl (c_X8_keepHabit w (ro w 93 (x3 + 1)) g1 _ H) ?_
            rintro _ h68 ⟨r68, rfl, H⟩
            show Ev w Y_L_law 969 [some (vR 93), some (vR 0), some (vR 55), some (vI x3)] [vI r68] h68 (rI K)
            refine e_aload_n (pc := 969) dL_law_969 rfl rfl ?_
            refine e_aload_n (pc := 970) dL_law_970 rfl rfl ?_
            refine e_iload_n (pc := 971) dL_law_971 rfl rfl ?_
            refine e_iconst (pc := 972) dL_law_972 ⟨by decide, by decide⟩ ?_
            refine e_iadd (pc := 973) dL_law_973 ob964 ?_
            refine e_rold (q := 93) (x := (ro w 93 (x3 + 1))) (pc := 974) dL_law_974 ⟨by decide, by decide⟩ ob965 rfl (ro_R w 93 _) ?_
            refine e_invV (pc := 975) (Y' := Y_X9_keepHabit) (as := [vI (ro w 93 (x3 + 1))]) (st := [vI r68]) (lv0 := [some (vR 55), some (vI (ro w 93 (x3 + 1)))]) (q := 55) (ci := 9) (T := TX9) (N := 52) dL_law_975 m_X9_keepHabit ul_6_99 ⟨ul_6_100, ul_6_101⟩ ⟨rfl, rfl⟩ rfl rfl rfl rfl rfl rfl rfl (c_X9_keepHabit w (ro w 93 (x3 + 1)) h68 _ H) ?_
            rintro _ h69 ⟨r69, rfl, H⟩
            show Ev w Y_L_law 978 [some (vR 93), some (vR 0), some (vR 55), some (vI x3)] [vI r69, vI r68] h69 (rI K)
            have H := HPH n1 x3 g1 HI ob29 _ _ _ H
            refine e_icmp_eq (pc := 978) (tgt := 1075) dL_law_978 (by decide) (fun c31 => ?_) (fun c31 => ?_)
            · have H := H.1 c31
              have ob1075 := H.1
              have H := H.2
              refine e_iinc (lv' := [some (vR 93), some (vR 0), some (vR 55), some (vI (x3 + 6))]) (pc := 1075) dL_law_1075 rfl ob1075 rfl rfl ?_
              refine e_goto (pc := 1078) (tgt := 18) dL_law_1078 (by decide) ?_
              obtain ⟨m, hm, H⟩ := H
              exact ih1 m hm _ _ H
            · have H := H.2 c31
              refine e_iconst (pc := 981) dL_law_981 ⟨by decide, by decide⟩ ?_
              exact e_ret (pc := 982) (v := some (vI 0)) dL_law_982 rfl (Or.inl rfl) ⟨_, rfl, H⟩
          · have H := H.2.2.2.2.2.2.2.2.2.2.2.2.2.2.2.2.2.2.2.2.2.2.2.2.2.2.2.1 c2
            refine ⟨950, 983, by rw [c2]; rfl, by decide, ?_⟩
            refine e_aload_n (pc := 983) dL_law_983 rfl rfl ?_
            refine e_aload_n (pc := 984) dL_law_984 rfl rfl ?_
            refine e_iload_n (pc := 985) dL_law_985 rfl rfl ?_
            refine e_iconst (pc := 986) dL_law_986 ⟨by decide, by decide⟩ ?_
            have ob987 := H.1
            have H := H.2
            refine e_iadd (pc := 987) dL_law_987 ob987 ?_
            have ob988 := H.1
            have H := H.2
            refine e_rold (q := 93) (x := (ro w 93 (x3 + 1))) (pc := 988) dL_law_988 ⟨by decide, by decide⟩ ob988 rfl (ro_R w 93 _) ?_
            refine e_invV (pc := 989) (Y' := Y_X8_forget) (as := [vI (ro w 93 (x3 + 1))]) (st := []) (lv0 := [some (vR 0), some (vI (ro w 93 (x3 + 1)))]) (q := 0) (ci := 8) (T := TX8) (N := 9) dL_law_989 m_X8_forget ul_4_152 ⟨ul_4_153, ul_4_154⟩ ⟨rfl, rfl⟩ rfl rfl rfl rfl rfl rfl rfl (c_X8_forget w (ro w 93 (x3 + 1)) g1 _ H) ?_
            rintro _ h70 ⟨r70, rfl, H⟩
            show Ev w Y_L_law 992 [some (vR 93), some (vR 0), some (vR 55), some (vI x3)] [vI r70] h70 (rI K)
            refine e_aload_n (pc := 992) dL_law_992 rfl rfl ?_
            refine e_aload_n (pc := 993) dL_law_993 rfl rfl ?_
            refine e_iload_n (pc := 994) dL_law_994 rfl rfl ?_
            refine e_iconst (pc := 995) dL_law_995 ⟨by decide, by decide⟩ ?_
            refine e_iadd (pc := 996) dL_law_996 ob987 ?_
            refine e_rold (q := 93) (x := (ro w 93 (x3 + 1))) (pc := 997) dL_law_997 ⟨by decide, by decide⟩ ob988 rfl (ro_R w 93 _) ?_
            refine e_invV (pc := 998) (Y' := Y_X9_forget) (as := [vI (ro w 93 (x3 + 1))]) (st := [vI r70]) (lv0 := [some (vR 55), some (vI (ro w 93 (x3 + 1))), none, none, none, none]) (q := 55) (ci := 9) (T := TX9) (N := 52) dL_law_998 m_X9_forget ul_6_104 ⟨ul_6_105, ul_6_106⟩ ⟨rfl, rfl⟩ rfl rfl rfl rfl rfl rfl rfl (c_X9_forget w (ro w 93 (x3 + 1)) h70 _ H) ?_
            rintro _ h71 ⟨r71, rfl, H⟩
            show Ev w Y_L_law 1001 [some (vR 93), some (vR 0), some (vR 55), some (vI x3)] [vI r71, vI r70] h71 (rI K)
            have H := HPH n1 x3 g1 HI ob29 _ _ _ H
            refine e_icmp_eq (pc := 1001) (tgt := 1075) dL_law_1001 (by decide) (fun c32 => ?_) (fun c32 => ?_)
            · have H := H.1 c32
              have ob1075 := H.1
              have H := H.2
              refine e_iinc (lv' := [some (vR 93), some (vR 0), some (vR 55), some (vI (x3 + 6))]) (pc := 1075) dL_law_1075 rfl ob1075 rfl rfl ?_
              refine e_goto (pc := 1078) (tgt := 18) dL_law_1078 (by decide) ?_
              obtain ⟨m, hm, H⟩ := H
              exact ih1 m hm _ _ H
            · have H := H.2 c32
              refine e_iconst (pc := 1004) dL_law_1004 ⟨by decide, by decide⟩ ?_
              exact e_ret (pc := 1005) (v := some (vI 0)) dL_law_1005 rfl (Or.inl rfl) ⟨_, rfl, H⟩
          · have H := H.2.2.2.2.2.2.2.2.2.2.2.2.2.2.2.2.2.2.2.2.2.2.2.2.2.2.2.2.1 c2
            refine ⟨973, 1006, by rw [c2]; rfl, by decide, ?_⟩
            refine e_aload_n (pc := 1006) dL_law_1006 rfl rfl ?_
            refine e_aload_n (pc := 1007) dL_law_1007 rfl rfl ?_
            refine e_iload_n (pc := 1008) dL_law_1008 rfl rfl ?_
            refine e_iconst (pc := 1009) dL_law_1009 ⟨by decide, by decide⟩ ?_
            have ob1010 := H.1
            have H := H.2
            refine e_iadd (pc := 1010) dL_law_1010 ob1010 ?_
            have ob1011 := H.1
            have H := H.2
            refine e_rold (q := 93) (x := (ro w 93 (x3 + 1))) (pc := 1011) dL_law_1011 ⟨by decide, by decide⟩ ob1011 rfl (ro_R w 93 _) ?_
            refine e_invV (pc := 1012) (Y' := Y_X8_cost) (as := [vI (ro w 93 (x3 + 1))]) (st := []) (lv0 := [some (vR 0), some (vI (ro w 93 (x3 + 1)))]) (q := 0) (ci := 8) (T := TX8) (N := 9) dL_law_1012 m_X8_cost ul_4_160 ⟨ul_4_161, ul_4_162⟩ ⟨rfl, rfl⟩ rfl rfl rfl rfl rfl rfl rfl (c_X8_cost w (ro w 93 (x3 + 1)) g1 _ H) ?_
            rintro _ h72 ⟨r72, rfl, H⟩
            show Ev w Y_L_law 1015 [some (vR 93), some (vR 0), some (vR 55), some (vI x3)] [vI r72] h72 (rI K)
            refine e_aload_n (pc := 1015) dL_law_1015 rfl rfl ?_
            refine e_aload_n (pc := 1016) dL_law_1016 rfl rfl ?_
            refine e_iload_n (pc := 1017) dL_law_1017 rfl rfl ?_
            refine e_iconst (pc := 1018) dL_law_1018 ⟨by decide, by decide⟩ ?_
            refine e_iadd (pc := 1019) dL_law_1019 ob1010 ?_
            refine e_rold (q := 93) (x := (ro w 93 (x3 + 1))) (pc := 1020) dL_law_1020 ⟨by decide, by decide⟩ ob1011 rfl (ro_R w 93 _) ?_
            refine e_invV (pc := 1021) (Y' := Y_X9_cost) (as := [vI (ro w 93 (x3 + 1))]) (st := [vI r72]) (lv0 := [some (vR 55), some (vI (ro w 93 (x3 + 1))), none, none]) (q := 55) (ci := 9) (T := TX9) (N := 52) dL_law_1021 m_X9_cost ul_6_108 ⟨ul_6_109, ul_6_110⟩ ⟨rfl, rfl⟩ rfl rfl rfl rfl rfl rfl rfl (c_X9_cost w (ro w 93 (x3 + 1)) h72 H.1) ?_
            rintro _ hz ⟨_, rfl, rfl, hh⟩
            rw [hh]
            show Ev w Y_L_law 1024 [some (vR 93), some (vR 0), some (vR 55), some (vI x3)] [vI (coM h72 (ro w 93 (x3 + 1))), vI r72] h72 (rI K)
            have H := H.2
            have H := HPH n1 x3 g1 HI ob29 _ _ _ H
            refine e_icmp_eq (pc := 1024) (tgt := 1075) dL_law_1024 (by decide) (fun c33 => ?_) (fun c33 => ?_)
            · have H := H.1 c33
              have ob1075 := H.1
              have H := H.2
              refine e_iinc (lv' := [some (vR 93), some (vR 0), some (vR 55), some (vI (x3 + 6))]) (pc := 1075) dL_law_1075 rfl ob1075 rfl rfl ?_
              refine e_goto (pc := 1078) (tgt := 18) dL_law_1078 (by decide) ?_
              obtain ⟨m, hm, H⟩ := H
              exact ih1 m hm _ _ H
            · have H := H.2 c33
              refine e_iconst (pc := 1027) dL_law_1027 ⟨by decide, by decide⟩ ?_
              exact e_ret (pc := 1028) (v := some (vI 0)) dL_law_1028 rfl (Or.inl rfl) ⟨_, rfl, H⟩
          · have H := H.2.2.2.2.2.2.2.2.2.2.2.2.2.2.2.2.2.2.2.2.2.2.2.2.2.2.2.2.2.1 c2
            refine ⟨996, 1029, by rw [c2]; rfl, by decide, ?_⟩
            refine e_aload_n (pc := 1029) dL_law_1029 rfl rfl ?_
            refine e_aload_n (pc := 1030) dL_law_1030 rfl rfl ?_
            refine e_iload_n (pc := 1031) dL_law_1031 rfl rfl ?_
            refine e_iconst (pc := 1032) dL_law_1032 ⟨by decide, by decide⟩ ?_
            have ob1033 := H.1
            have H := H.2
            refine e_iadd (pc := 1033) dL_law_1033 ob1033 ?_
            have ob1034 := H.1
            have H := H.2
            refine e_rold (q := 93) (x := (ro w 93 (x3 + 1))) (pc := 1034) dL_law_1034 ⟨by decide, by decide⟩ ob1034 rfl (ro_R w 93 _) ?_
            refine e_invV (pc := 1035) (Y' := Y_X8_why) (as := [vI (ro w 93 (x3 + 1))]) (st := []) (lv0 := [some (vR 0), some (vI (ro w 93 (x3 + 1)))]) (q := 0) (ci := 8) (T := TX8) (N := 9) dL_law_1035 m_X8_why ul_4_168 ⟨ul_4_169, ul_4_170⟩ ⟨rfl, rfl⟩ rfl rfl rfl rfl rfl rfl rfl (c_X8_why w (ro w 93 (x3 + 1)) g1 _ H) ?_
            rintro _ h73 ⟨r73, rfl, H⟩
            show Ev w Y_L_law 1038 [some (vR 93), some (vR 0), some (vR 55), some (vI x3)] [vI r73] h73 (rI K)
            refine e_aload_n (pc := 1038) dL_law_1038 rfl rfl ?_
            refine e_aload_n (pc := 1039) dL_law_1039 rfl rfl ?_
            refine e_iload_n (pc := 1040) dL_law_1040 rfl rfl ?_
            refine e_iconst (pc := 1041) dL_law_1041 ⟨by decide, by decide⟩ ?_
            refine e_iadd (pc := 1042) dL_law_1042 ob1033 ?_
            refine e_rold (q := 93) (x := (ro w 93 (x3 + 1))) (pc := 1043) dL_law_1043 ⟨by decide, by decide⟩ ob1034 rfl (ro_R w 93 _) ?_
            refine e_invV (pc := 1044) (Y' := Y_X9_why) (as := [vI (ro w 93 (x3 + 1))]) (st := [vI r73]) (lv0 := [some (vR 55), some (vI (ro w 93 (x3 + 1)))]) (q := 55) (ci := 9) (T := TX9) (N := 52) dL_law_1044 m_X9_why ul_6_112 ⟨ul_6_113, ul_6_114⟩ ⟨rfl, rfl⟩ rfl rfl rfl rfl rfl rfl rfl (c_X9_why w (ro w 93 (x3 + 1)) h73 _ H) ?_
            rintro _ h74 ⟨r74, rfl, H⟩
            show Ev w Y_L_law 1047 [some (vR 93), some (vR 0), some (vR 55), some (vI x3)] [vI r74, vI r73] h74 (rI K)
            have H := HPH n1 x3 g1 HI ob29 _ _ _ H
            refine e_icmp_eq (pc := 1047) (tgt := 1075) dL_law_1047 (by decide) (fun c34 => ?_) (fun c34 => ?_)
            · have H := H.1 c34
              have ob1075 := H.1
              have H := H.2
              refine e_iinc (lv' := [some (vR 93), some (vR 0), some (vR 55), some (vI (x3 + 6))]) (pc := 1075) dL_law_1075 rfl ob1075 rfl rfl ?_
              refine e_goto (pc := 1078) (tgt := 18) dL_law_1078 (by decide) ?_
              obtain ⟨m, hm, H⟩ := H
              exact ih1 m hm _ _ H
            · have H := H.2 c34
              refine e_iconst (pc := 1050) dL_law_1050 ⟨by decide, by decide⟩ ?_
              exact e_ret (pc := 1051) (v := some (vI 0)) dL_law_1051 rfl (Or.inl rfl) ⟨_, rfl, H⟩
          · have H := H.2.2.2.2.2.2.2.2.2.2.2.2.2.2.2.2.2.2.2.2.2.2.2.2.2.2.2.2.2.2.1 c2
            refine ⟨1019, 1052, by rw [c2]; rfl, by decide, ?_⟩
            refine e_aload_n (pc := 1052) dL_law_1052 rfl rfl ?_
            refine e_aload_n (pc := 1053) dL_law_1053 rfl rfl ?_
            refine e_iload_n (pc := 1054) dL_law_1054 rfl rfl ?_
            refine e_iconst (pc := 1055) dL_law_1055 ⟨by decide, by decide⟩ ?_
            have ob1056 := H.1
            have H := H.2
            refine e_iadd (pc := 1056) dL_law_1056 ob1056 ?_
            have ob1057 := H.1
            have H := H.2
            refine e_rold (q := 93) (x := (ro w 93 (x3 + 1))) (pc := 1057) dL_law_1057 ⟨by decide, by decide⟩ ob1057 rfl (ro_R w 93 _) ?_
            refine e_invV (pc := 1058) (Y' := Y_X8_count) (as := [vI (ro w 93 (x3 + 1))]) (st := []) (lv0 := [some (vR 0), some (vI (ro w 93 (x3 + 1)))]) (q := 0) (ci := 8) (T := TX8) (N := 9) dL_law_1058 m_X8_count ul_4_172 ⟨ul_4_173, ul_4_174⟩ ⟨rfl, rfl⟩ rfl rfl rfl rfl rfl rfl rfl (c_X8_count w (ro w 93 (x3 + 1)) g1 _ H) ?_
            rintro _ h75 ⟨r75, rfl, H⟩
            show Ev w Y_L_law 1061 [some (vR 93), some (vR 0), some (vR 55), some (vI x3)] [vI r75] h75 (rI K)
            refine e_aload_n (pc := 1061) dL_law_1061 rfl rfl ?_
            refine e_aload_n (pc := 1062) dL_law_1062 rfl rfl ?_
            refine e_iload_n (pc := 1063) dL_law_1063 rfl rfl ?_
            refine e_iconst (pc := 1064) dL_law_1064 ⟨by decide, by decide⟩ ?_
            refine e_iadd (pc := 1065) dL_law_1065 ob1056 ?_
            refine e_rold (q := 93) (x := (ro w 93 (x3 + 1))) (pc := 1066) dL_law_1066 ⟨by decide, by decide⟩ ob1057 rfl (ro_R w 93 _) ?_
            refine e_invV (pc := 1067) (Y' := Y_X9_count) (as := [vI (ro w 93 (x3 + 1))]) (st := [vI r75]) (lv0 := [some (vR 55), some (vI (ro w 93 (x3 + 1)))]) (q := 55) (ci := 9) (T := TX9) (N := 52) dL_law_1067 m_X9_count ul_6_116 ⟨ul_6_117, ul_6_118⟩ ⟨rfl, rfl⟩ rfl rfl rfl rfl rfl rfl rfl (c_X9_count w (ro w 93 (x3 + 1)) h75 _ H) ?_
            rintro _ h76 ⟨r76, rfl, H⟩
            show Ev w Y_L_law 1070 [some (vR 93), some (vR 0), some (vR 55), some (vI x3)] [vI r76, vI r75] h76 (rI K)
            have H := HPH n1 x3 g1 HI ob29 _ _ _ H
            refine e_icmp_eq (pc := 1070) (tgt := 1075) dL_law_1070 (by decide) (fun c35 => ?_) (fun c35 => ?_)
            · have H := H.1 c35
              have ob1075 := H.1
              have H := H.2
              refine e_iinc (lv' := [some (vR 93), some (vR 0), some (vR 55), some (vI (x3 + 6))]) (pc := 1075) dL_law_1075 rfl ob1075 rfl rfl ?_
              refine e_goto (pc := 1078) (tgt := 18) dL_law_1078 (by decide) ?_
              obtain ⟨m, hm, H⟩ := H
              exact ih1 m hm _ _ H
            · have H := H.2 c35
              refine e_iconst (pc := 1073) dL_law_1073 ⟨by decide, by decide⟩ ?_
              exact e_ret (pc := 1074) (v := some (vI 0)) dL_law_1074 rfl (Or.inl rfl) ⟨_, rfl, H⟩
  obtain ⟨m, H⟩ := H
  exact L1 m _ _ H
theorem c_law (w : WD) (h : HP) (hL : w.2.2.2.2.1 ≤ 3072) (H : Rel 0 h h) : Ev w Y_L_law 18 [some (vR 93), some (vR 0), some (vR 55), some (vI 0)] [] h (rI (fun r _ => r = 1)) := by
  refine v_L_law w h _ (fun n1 x3 g => ∃ k : Nat, x3 = 6 * (k : Int) ∧ 6 * k ≤ w.2.2.2.2.1 + 5 ∧ n1 = 600 - k ∧ Rel k g g) (fun n1 x3 r r' h' => Fin (600 - n1) r r' h') ?_ ⟨600, 0, rfl, by omega, rfl, H⟩ ?_
  · rintro n1 x3 g ⟨k, rfl, hk, rfl, hR⟩ hx r r' h' ⟨e, hR'⟩
    rw [show 600 - (600 - k) = k by omega] at hR'
    exact ⟨fun _ => ⟨⟨by omega, by omega⟩, 600 - (k + 1), by omega, k + 1, by omega, by omega, rfl, hR'⟩, fun y => absurd e y⟩
  · rintro n1 x3 g ⟨k, rfl, hk, rfl, hR⟩
    have hn : k ≤ 600 := by omega
    rw [show 600 - (600 - k) = k by omega]
    exact ⟨⟨by omega, by omega⟩, ⟨by omega, by omega⟩, fun _ => rfl, fun z => ⟨by omega, fun _ => ⟨⟨by omega, by omega⟩, by omega, ⟨by omega, by omega⟩, by omega, ⟨by omega, by omega⟩, by omega, pr_thing _ _ _ hR⟩, fun _ => ⟨⟨by omega, by omega⟩, by omega, ⟨by omega, by omega⟩, by omega, pr_go _ _ hR⟩, fun _ => ⟨⟨by omega, by omega⟩, by omega, pr_state _ hR⟩, fun _ => ⟨⟨by omega, by omega⟩, by omega, ⟨by omega, by omega⟩, by omega, ⟨by omega, by omega⟩, by omega, pr_doubt _ _ _ hR⟩, fun _ => ⟨⟨by omega, by omega⟩, by omega, ⟨by omega, by omega⟩, by omega, ⟨by omega, by omega⟩, by omega, ⟨by omega, by omega⟩, by omega, pr_word _ _ _ _ hR⟩, fun _ => ⟨⟨by omega, by omega⟩, by omega, ⟨by omega, by omega⟩, by omega, pr_rule _ _ hR⟩, fun _ => ⟨⟨by omega, by omega⟩, by omega, ⟨by omega, by omega⟩, by omega, ⟨by omega, by omega⟩, by omega, pr_write _ _ hR⟩, fun _ => pr_wipe  hR, fun _ => pr_fault  hR, fun _ => pr_force  hR, fun _ => ⟨⟨by omega, by omega⟩, by omega, ⟨by omega, by omega⟩, by omega, ⟨by omega, by omega⟩, by omega, pr_may _ _ _ hR⟩, fun _ => pr_barred  hR, fun _ => ⟨⟨by omega, by omega⟩, by omega, ⟨by omega, by omega⟩, by omega, ⟨by omega, by omega⟩, by omega, ⟨by omega, by omega⟩, by omega, ⟨by omega, by omega⟩, by omega, pr_hear _ _ _ _ hR⟩, fun _ => ⟨⟨by omega, by omega⟩, by omega, ⟨by omega, by omega⟩, by omega, pr_reading _ _ hR⟩, fun _ => pr_open  hR, fun _ => pr_ask  hR, fun _ => ⟨⟨by omega, by omega⟩, by omega, ⟨by omega, by omega⟩, by omega, pr_answer _ _ hR⟩, fun _ => pr_done  hR hn, fun _ => pr_undo  hR, fun _ => ⟨⟨by omega, by omega⟩, by omega, ⟨by omega, by omega⟩, by omega, ⟨by omega, by omega⟩, by omega, ⟨by omega, by omega⟩, by omega, pr_when _ _ _ _ hR⟩, fun _ => ⟨⟨by omega, by omega⟩, by omega, ⟨by omega, by omega⟩, by omega, ⟨by omega, by omega⟩, by omega, pr_at _ _ _ hR⟩, fun _ => ⟨⟨by omega, by omega⟩, by omega, pr_ticks _ hR hn⟩, fun _ => pr_quarrel  hR, fun _ => pr_wake  hR, fun _ => pr_show  hR, fun _ => ⟨⟨by omega, by omega⟩, by omega, ⟨by omega, by omega⟩, by omega, ⟨by omega, by omega⟩, by omega, pr_habits _ _ _ hR hn⟩, fun _ => ⟨⟨by omega, by omega⟩, by omega, pr_keepHabit _ hR⟩, fun _ => ⟨⟨by omega, by omega⟩, by omega, pr_forget _ hR hn⟩, fun _ => ⟨⟨by omega, by omega⟩, by omega, pr_cost _ hR hn⟩, fun _ => ⟨⟨by omega, by omega⟩, by omega, pr_why _ hR⟩, fun _ => ⟨⟨by omega, by omega⟩, by omega, pr_count _ hR⟩, fun _ => ⟨⟨by omega, by omega⟩, 600 - (k + 1), by omega, k + 1, by omega, by omega, rfl, Rel_u hR⟩⟩⟩
