/-! the fixed world: classes, cells, fields -/
abbrev ev_cl : List vw_C := [(RX0, TX0, 5), (RX1, TX1, 8), (RX2, TX2, 8), (RX3, TX3, 16), (RX4, TX4, 10), (RX5, TX5, 7), (RX6, TX6, 10), (RX7, TX7, 8), (RX8, TX8, 9), (RX9, TX9, 52)]
def ev_lay : List (Nat ⊕ (Bool × Nat)) := [.inl 8, .inl 4, .inl 5, .inl 7, .inl 3, .inl 0, .inl 6, .inl 2, .inl 1, .inr (false, 10), .inr (false, 10), .inr (false, 10), .inr (false, 10), .inr (false, 10), .inr (false, 6), .inr (false, 5), .inr (false, 200), .inr (false, 5), .inr (false, 40), .inr (false, 200), .inr (false, 16), .inr (false, 16), .inr (false, 16), .inr (false, 64), .inr (false, 256), .inr (false, 8), .inr (false, 12), .inr (false, 12), .inr (false, 12), .inr (false, 12), .inr (false, 12), .inr (true, 12), .inr (false, 9), .inr (false, 9), .inr (false, 9), .inr (false, 9), .inr (false, 200), .inr (false, 200), .inr (true, 200), .inr (false, 8), .inr (false, 8), .inr (false, 8), .inr (false, 8), .inr (false, 256), .inr (false, 2048), .inr (false, 2048), .inr (false, 2048), .inr (false, 256), .inr (false, 60), .inr (false, 60), .inr (false, 60), .inr (false, 60), .inr (false, 60), .inr (false, 960), .inr (false, 3), .inl 9, .inr (false, 10), .inr (false, 10), .inr (false, 10), .inr (false, 10), .inr (false, 10), .inr (false, 10), .inr (false, 6), .inr (false, 256), .inr (false, 16), .inr (false, 16), .inr (false, 16), .inr (false, 64), .inr (false, 3), .inr (false, 200), .inr (false, 2), .inr (false, 480), .inr (false, 12), .inr (false, 36), .inr (false, 12), .inr (true, 12), .inr (false, 200), .inr (false, 200), .inr (true, 200), .inr (false, 40), .inr (false, 300), .inr (false, 5), .inr (true, 40), .inr (false, 12), .inr (false, 8), .inr (false, 9), .inr (false, 400), .inr (false, 8), .inr (false, 8), .inr (false, 80)]
def ev_fkd : List (List Nat) := [[2, 2, 2, 0, 0], [2, 2, 2, 2, 2, 2, 0, 0], [2, 2, 2, 2, 2, 2, 2, 0], [2, 2, 2, 2, 2, 2, 2, 2, 2, 2, 2, 2, 1, 0, 0, 0], [2, 2, 2, 2, 2, 2, 2, 0, 0, 0], [2, 2, 2, 2, 2, 0, 0], [2, 2, 2, 2, 2, 2, 2, 0, 0, 0], [2, 2, 2, 2, 2, 2, 0, 0], [2, 2, 2, 2, 2, 2, 2, 2, 2], [0, 2, 2, 2, 2, 2, 2, 2, 0, 2, 0, 2, 2, 2, 2, 2, 0, 2, 2, 2, 1, 0, 1, 0, 2, 2, 2, 2, 0, 0, 2, 2, 2, 0, 2, 0, 0, 2, 0, 0, 2, 2, 0, 2, 0, 2, 2, 0, 2, 2, 2, 2]]
def ev_tgt : List (List Nat) := [[1, 2, 3, 4, 5, 6, 7, 8, 54], [9, 10, 11, 12, 13, 14, 15, 0, 0, 0], [1, 16, 17, 18, 19, 0, 0], [20, 21, 22, 23, 24, 25, 0, 0], [1, 3, 26, 27, 28, 29, 30, 31, 32, 33, 34, 35, 0, 0, 0, 0], [36, 37, 38, 0, 0], [1, 2, 39, 40, 41, 42, 43, 0, 0, 0], [1, 2, 6, 44, 45, 46, 47, 0], [48, 49, 50, 51, 52, 53, 0, 0], [], [], [], [], [], [], [], [], [], [], [], [], [], [], [], [], [], [], [], [], [], [], [], [], [], [], [], [], [], [], [], [], [], [], [], [], [], [], [], [], [], [], [], [], [], [], [0, 56, 57, 58, 59, 60, 61, 62, 0, 63, 0, 64, 65, 66, 67, 68, 0, 69, 70, 71, 0, 0, 0, 0, 72, 73, 74, 75, 0, 0, 76, 77, 78, 0, 79, 0, 0, 80, 0, 0, 81, 82, 0, 83, 0, 84, 85, 0, 86, 87, 88, 89], [], [], [], [], [], [], [], [], [], [], [], [], [], [], [], [], [], [], [], [], [], [], [], [], [], [], [], [], [], [], [], [], [], []]
def ev_nl : List Cond := [Cond.methodLinkNest RX8 43 yX0_init "HeededWishes", Cond.methodLinkNest RX8 68 yX1_init "HeededWishes", Cond.methodLinkNest RX5 70 yX8_within "HeededWishes", Cond.methodLinkNest RX5 89 yX8_stateIn "HeededWishes", Cond.methodLinkNest RX4 57 yX8_isIn "HeededWishes", Cond.fieldLinkNest RX4 47 "HeededWishes" "TOP_OF_SORT" "[I" "HeededWishes", Cond.methodLinkNest RX3 123 yX8_withAll "HeededWishes", Cond.methodLinkNest RX4 61 yX8_stateIn "HeededWishes", Cond.methodLinkNest RX4 53 yX8_with "HeededWishes", Cond.methodLinkNest RX6 61 yX8_with "HeededWishes", Cond.methodLinkNest RX6 82 yX8_isIn "HeededWishes", Cond.methodLinkNest RX6 88 yX8_stateIn "HeededWishes", Cond.methodLinkNest RX2 83 yX8_isIn "HeededWishes"]
theorem nl_0 : Cond.methodLinkNest RX8 43 yX0_init "HeededWishes" ∈ ev_nl := List.mem_of_getElem? (i := 0) rfl
theorem nl_1 : Cond.methodLinkNest RX8 68 yX1_init "HeededWishes" ∈ ev_nl := List.mem_of_getElem? (i := 1) rfl
theorem nl_2 : Cond.methodLinkNest RX5 70 yX8_within "HeededWishes" ∈ ev_nl := List.mem_of_getElem? (i := 2) rfl
theorem nl_3 : Cond.methodLinkNest RX5 89 yX8_stateIn "HeededWishes" ∈ ev_nl := List.mem_of_getElem? (i := 3) rfl
theorem nl_4 : Cond.methodLinkNest RX4 57 yX8_isIn "HeededWishes" ∈ ev_nl := List.mem_of_getElem? (i := 4) rfl
theorem nl_5 : Cond.fieldLinkNest RX4 47 "HeededWishes" "TOP_OF_SORT" "[I" "HeededWishes" ∈ ev_nl := List.mem_of_getElem? (i := 5) rfl
theorem nl_6 : Cond.methodLinkNest RX3 123 yX8_withAll "HeededWishes" ∈ ev_nl := List.mem_of_getElem? (i := 6) rfl
theorem nl_7 : Cond.methodLinkNest RX4 61 yX8_stateIn "HeededWishes" ∈ ev_nl := List.mem_of_getElem? (i := 7) rfl
theorem nl_8 : Cond.methodLinkNest RX4 53 yX8_with "HeededWishes" ∈ ev_nl := List.mem_of_getElem? (i := 8) rfl
theorem nl_9 : Cond.methodLinkNest RX6 61 yX8_with "HeededWishes" ∈ ev_nl := List.mem_of_getElem? (i := 9) rfl
theorem nl_10 : Cond.methodLinkNest RX6 82 yX8_isIn "HeededWishes" ∈ ev_nl := List.mem_of_getElem? (i := 10) rfl
theorem nl_11 : Cond.methodLinkNest RX6 88 yX8_stateIn "HeededWishes" ∈ ev_nl := List.mem_of_getElem? (i := 11) rfl
theorem nl_12 : Cond.methodLinkNest RX2 83 yX8_isIn "HeededWishes" ∈ ev_nl := List.mem_of_getElem? (i := 12) rfl
theorem ev_nlin : ∀ w ∈ ev_nl, w ∈ lw_tbl := by
  intro w hw
  have e : ev_nl = [209, 307, 473, 510, 581, 589, 619, 693, 725, 744, 815, 838, 839].filterMap (fun i => tables_1[i]?) := by decide +kernel
  rw [e] at hw
  obtain ⟨i, -, hi⟩ := List.mem_filterMap.mp hw
  exact List.mem_append_right _ (List.mem_of_getElem? hi)
theorem ev_in0 : ∀ w ∈ u_ws RX0 TX0 5, w ∈ UL := by
  intro w hw
  have g : (u_ws RX0 TX0 5).all goodWord = true := by decide +kernel
  have e : u_ws RX0 TX0 5 = [223, 225, 227, 229, 231].filterMap (fun i => tables_1[i]?) := by decide +kernel
  have g1 := List.all_eq_true.mp g w hw
  rw [e] at hw
  obtain ⟨i, -, hi⟩ := List.mem_filterMap.mp hw
  exact ul_t (List.mem_of_getElem? hi) g1
theorem ev_in1 : ∀ w ∈ u_ws RX1 TX1 8, w ∈ UL := by
  intro w hw
  have g : (u_ws RX1 TX1 8).all goodWord = true := by decide +kernel
  have e : u_ws RX1 TX1 8 = [321, 323, 325, 327, 329, 331, 333, 335].filterMap (fun i => tables_1[i]?) := by decide +kernel
  have g1 := List.all_eq_true.mp g w hw
  rw [e] at hw
  obtain ⟨i, -, hi⟩ := List.mem_filterMap.mp hw
  exact ul_t (List.mem_of_getElem? hi) g1
theorem ev_in2 : ∀ w ∈ u_ws RX2 TX2 8, w ∈ UL := by
  intro w hw
  have g : (u_ws RX2 TX2 8).all goodWord = true := by decide +kernel
  have e : u_ws RX2 TX2 8 = [288, 290, 292, 294, 296, 298, 300, 302].filterMap (fun i => tables_1[i]?) := by decide +kernel
  have g1 := List.all_eq_true.mp g w hw
  rw [e] at hw
  obtain ⟨i, -, hi⟩ := List.mem_filterMap.mp hw
  exact ul_t (List.mem_of_getElem? hi) g1
theorem ev_in3 : ∀ w ∈ u_ws RX3 TX3 16, w ∈ UL := by
  intro w hw
  have g : (u_ws RX3 TX3 16).all goodWord = true := by decide +kernel
  have e : u_ws RX3 TX3 16 = [173, 175, 177, 179, 181, 183, 185, 187, 189, 191, 193, 195, 197, 199, 201, 203].filterMap (fun i => tables_1[i]?) := by decide +kernel
  have g1 := List.all_eq_true.mp g w hw
  rw [e] at hw
  obtain ⟨i, -, hi⟩ := List.mem_filterMap.mp hw
  exact ul_t (List.mem_of_getElem? hi) g1
theorem ev_in4 : ∀ w ∈ u_ws RX4 TX4 10, w ∈ UL := by
  intro w hw
  have g : (u_ws RX4 TX4 10).all goodWord = true := by decide +kernel
  have e : u_ws RX4 TX4 10 = [56, 58, 60, 62, 64, 66, 68, 70, 72, 74].filterMap (fun i => tables_1[i]?) := by decide +kernel
  have g1 := List.all_eq_true.mp g w hw
  rw [e] at hw
  obtain ⟨i, -, hi⟩ := List.mem_filterMap.mp hw
  exact ul_t (List.mem_of_getElem? hi) g1
theorem ev_in5 : ∀ w ∈ u_ws RX5 TX5 7, w ∈ UL := by
  intro w hw
  have g : (u_ws RX5 TX5 7).all goodWord = true := by decide +kernel
  have e : u_ws RX5 TX5 7 = [94, 96, 98, 100, 102, 104, 106].filterMap (fun i => tables_1[i]?) := by decide +kernel
  have g1 := List.all_eq_true.mp g w hw
  rw [e] at hw
  obtain ⟨i, -, hi⟩ := List.mem_filterMap.mp hw
  exact ul_t (List.mem_of_getElem? hi) g1
theorem ev_in6 : ∀ w ∈ u_ws RX6 TX6 10, w ∈ UL := by
  intro w hw
  have g : (u_ws RX6 TX6 10).all goodWord = true := by decide +kernel
  have e : u_ws RX6 TX6 10 = [253, 255, 257, 259, 261, 263, 265, 267, 269, 271].filterMap (fun i => tables_1[i]?) := by decide +kernel
  have g1 := List.all_eq_true.mp g w hw
  rw [e] at hw
  obtain ⟨i, -, hi⟩ := List.mem_filterMap.mp hw
  exact ul_t (List.mem_of_getElem? hi) g1
theorem ev_in7 : ∀ w ∈ u_ws RX7 TX7 8, w ∈ UL := by
  intro w hw
  have g : (u_ws RX7 TX7 8).all goodWord = true := by decide +kernel
  have e : u_ws RX7 TX7 8 = [128, 130, 132, 134, 136, 138, 140, 142].filterMap (fun i => tables_1[i]?) := by decide +kernel
  have g1 := List.all_eq_true.mp g w hw
  rw [e] at hw
  obtain ⟨i, -, hi⟩ := List.mem_filterMap.mp hw
  exact ul_t (List.mem_of_getElem? hi) g1
theorem ev_in8 : ∀ w ∈ u_ws RX8 TX8 9, w ∈ UL := by
  intro w hw
  have g : (u_ws RX8 TX8 9).all goodWord = true := by decide +kernel
  have e : u_ws RX8 TX8 9 = [347, 349, 351, 353, 355, 357, 359, 361, 363].filterMap (fun i => tables_1[i]?) := by decide +kernel
  have g1 := List.all_eq_true.mp g w hw
  rw [e] at hw
  obtain ⟨i, -, hi⟩ := List.mem_filterMap.mp hw
  exact ul_t (List.mem_of_getElem? hi) g1
theorem ev_in9 : ∀ w ∈ u_ws RX9 TX9 52, w ∈ UL := by
  intro w hw
  have g : (u_ws RX9 TX9 52).all goodWord = true := by decide +kernel
  have e : u_ws RX9 TX9 52 = [954, 956, 958, 960, 962, 964, 966, 968, 970, 972, 974, 976, 978, 980, 982, 984, 986, 988, 990, 992, 994, 996, 998, 1000, 1002, 1004, 1006, 1008, 1010, 1012, 1014, 1016, 1018, 1020, 1022, 1024, 1026, 1028, 1030, 1032, 1034, 1036, 1038, 1040, 1042, 1044, 1046, 1048, 1050, 1052, 1054, 1056].filterMap (fun i => tables_1[i]?) := by decide +kernel
  have g1 := List.all_eq_true.mp g w hw
  rw [e] at hw
  obtain ⟨i, -, hi⟩ := List.mem_filterMap.mp hw
  exact ul_t (List.mem_of_getElem? hi) g1
