/-! what firings come to: rows of firings, with and without idle ones -/
abbrev SP : Type := Int × (Int → Prop) × (Int → Int) × (Int → Int) × (Int → Int → Int) × Int
def pHr (P : SP) (s : Int) : Prop := (0 ≤ s ∧ s < P.1) ∧ P.2.1 s
def elg (P : SP) (F S s : Int) : Prop := pHr P s ∧ ¬ mem F s ∧ ¬ dgt S (P.2.2.1 s) = P.2.2.2.1 s
def stb (F s : Int) : Int := ior F (ishl 1 s)
def rch (P : SP) : Nat → Int → Int → Prop
  | 0, F, S => F = 0 ∧ S = P.2.2.2.2.2
  | n + 1, F, S => ∃ F0 S1 s : Int, rch P n F0 S1 ∧ elg P F0 S1 s ∧ P.2.2.2.2.1 s S1 = S ∧ 0 ≤ S ∧ F = stb F0 s
def Brr (P : SP) (n : Nat) : Prop := ∃ F S s : Int, rch P n F S ∧ elg P F S s ∧ P.2.2.2.2.1 s S < 0
def shR (P : SP) (r : Int) : Prop := (r = -4 ∧ ∀ n, ¬ Brr P n) ∨ ∃ n : Nat, r = (n : Int) + 1 ∧ Brr P n ∧ ∀ m, m < n → ¬ Brr P m
def rcl (P : SP) : Nat → List Int → Int → Prop
  | 0, l, S => l = [] ∧ S = P.2.2.2.2.2
  | n + 1, l, S => ∃ (l0 : List Int) (S1 s : Int), rcl P n l0 S1 ∧ (pHr P s ∧ s ∉ l0) ∧ P.2.2.2.2.1 s S1 = S ∧ 0 ≤ S ∧ l = s :: l0
def Brl (P : SP) (n : Nat) : Prop := ∃ (l : List Int) (S s : Int), rcl P n l S ∧ (pHr P s ∧ s ∉ l) ∧ P.2.2.2.2.1 s S < 0
def shL (P : SP) (r : Int) : Prop := (r = -4 ∧ ∀ n, ¬ Brl P n) ∨ ∃ n : Nat, r = (n : Int) + 1 ∧ Brl P n ∧ ∀ m, m < n → ¬ Brl P m
def pOK (P : SP) : Prop := (0 ≤ P.1 ∧ P.1 ≤ 8) ∧ (∀ s : Int, 0 ≤ s → s < P.1 → (0 ≤ P.2.2.1 s ∧ P.2.2.1 s < 10) ∧ (0 ≤ P.2.2.2.1 s ∧ P.2.2.2.1 s ≤ 3)) ∧ inS P.2.2.2.2.2 ∧ (∀ s S : Int, 0 ≤ s → s < P.1 → inS S → (P.2.2.2.2.1 s S = -1 ∨ inS (P.2.2.2.2.1 s S)) ∧ (dgt S (P.2.2.1 s) = P.2.2.2.1 s → P.2.2.2.2.1 s S = S) ∧ (¬ dgt S (P.2.2.1 s) = P.2.2.2.1 s → 0 ≤ P.2.2.2.2.1 s S → ∀ t : Int, 0 ≤ t → t < 10 → dgt (P.2.2.2.2.1 s S) t = (if t = P.2.2.1 s then P.2.2.2.1 s else dgt S t) ∨ ∃ x : Int, (0 ≤ x ∧ x < P.1) ∧ ¬ P.2.1 x ∧ P.2.2.1 x = t ∧ P.2.2.2.1 x = dgt (P.2.2.2.2.1 s S) t))
theorem stb_b {F s : Int} (hF : 0 ≤ F ∧ F < 256) (hs : 0 ≤ s ∧ s < 8) : (0 ≤ stb F s ∧ stb F s < 256) ∧ ∀ u : Int, 0 ≤ u → (mem (stb F s) u ↔ mem F u ∨ u = s) := by
  refine ⟨?_, fun u hu => (mem_or ⟨hF.1, by omega⟩ (by omega)).2 u hu⟩
  unfold stb
  refine ior_256 hF ?_
  obtain ⟨k, rfl⟩ : ∃ k : Nat, s = (k : Int) := ⟨s.toNat, by omega⟩
  have h1 : 2 ^ k ≤ 2 ^ 7 := Nat.pow_le_pow_right (by decide) (by omega)
  have := ishl_n (a := 1) (k := k) (by decide) (by omega) (by omega)
  rw [show ((1 : Nat) : Int) = 1 from rfl] at this
  rw [this]
  omega
theorem cnt_add {p q : Int → Prop} {s : Int} : ∀ {n : Nat}, (∀ i : Int, 0 ≤ i → i < (n : Int) → (q i ↔ p i ∨ i = s)) → ¬ p s → 0 ≤ s → cnt q n = cnt p n + b2i (s < (n : Int))
  | 0, _, _, h0 => by rw [b2i_f (by omega)]; rfl
  | n + 1, h, hp, h0 => by
    have ih := cnt_add (p := p) (q := q) (s := s) (n := n) (fun i a b => h i a (by omega)) hp h0
    have hn := h (n : Int) (by omega) (by omega)
    simp only [cnt]
    rw [ih]
    by_cases e : (n : Int) = s
    · rw [b2i_f (show ¬ s < (n : Int) by omega), b2i_t (show s < ((n + 1 : Nat) : Int) by omega), b2i_t (hn.mpr (Or.inr e)), b2i_f (by rw [e]; exact hp)]
    · rw [b2i_c (show q (n : Int) ↔ p (n : Int) from ⟨fun y => (hn.mp y).resolve_right e, fun y => hn.mpr (Or.inl y)⟩), b2i_c (show s < (n : Int) ↔ s < ((n + 1 : Nat) : Int) by omega)]
      omega
theorem mem_z (u : Int) : ¬ mem 0 u := by unfold mem; simp
theorem rch_b {P : SP} (hP : pOK P) : ∀ (n : Nat) (F S : Int), rch P n F S → (0 ≤ F ∧ F < 256) ∧ inS S ∧ cnt (mem F) 8 = (n : Int) ∧ ∀ s : Int, 0 ≤ s → mem F s → pHr P s
  | 0, F, S, h => by
    obtain ⟨rfl, rfl⟩ := h
    refine ⟨by omega, hP.2.2.1, ?_, fun s _ m => absurd m (mem_z s)⟩
    have : cnt (mem 0) 8 = cnt (fun _ => False) 8 := cnt_c (fun i _ _ => ⟨fun y => mem_z i y, fun y => y.elim⟩)
    rw [this]
    simp only [cnt]
    rw [b2i_f (fun y => y)]
    rfl
  | n + 1, F, S, h => by
    obtain ⟨F0, S1, s, h1, h2, h3, h4, rfl⟩ := h
    obtain ⟨a, b, c, d⟩ := rch_b hP n F0 S1 h1
    have hs := h2.1.1
    have hb := stb_b a (s := s) (by have := hP.1; omega)
    have hf := (hP.2.2.2 s S1 hs.1 hs.2 b).1
    rw [h3] at hf
    refine ⟨hb.1, hf.resolve_left (by omega), ?_, fun u u0 m => ?_⟩
    · rw [cnt_add (p := mem F0) (s := s) (fun i i0 _ => hb.2 i i0) h2.2.1 hs.1, b2i_t (by have := hP.1; omega), c]
      omega
    · rcases (hb.2 u u0).mp m with m | m
      · exact d u u0 m
      · rw [m]; exact h2.1
theorem rch_rcl {P : SP} (hP : pOK P) : ∀ (n : Nat) (F S : Int), rch P n F S → ∃ l : List Int, rcl P n l S ∧ ∀ s : Int, 0 ≤ s → (mem F s ↔ s ∈ l)
  | 0, F, S, h => by
    obtain ⟨rfl, rfl⟩ := h
    exact ⟨[], ⟨rfl, rfl⟩, fun s _ => ⟨fun y => absurd y (mem_z s), fun y => absurd y (by simp)⟩⟩
  | n + 1, F, S, h => by
    obtain ⟨F0, S1, s, h1, h2, h3, h4, rfl⟩ := h
    obtain ⟨l, hl, hm⟩ := rch_rcl hP n F0 S1 h1
    have hs := h2.1.1
    have hb := stb_b (rch_b hP n F0 S1 h1).1 (s := s) (by have := hP.1; omega)
    refine ⟨s :: l, ⟨l, S1, s, hl, ⟨h2.1, fun y => h2.2.1 ((hm s hs.1).mpr y)⟩, h3, h4, rfl⟩, fun u u0 => ?_⟩
    rw [hb.2 u u0, hm u u0, List.mem_cons]
    exact Or.comm
theorem rcl_in {P : SP} (hP : pOK P) : ∀ (n : Nat) (l : List Int) (S : Int), rcl P n l S → inS S ∧ l.length = n ∧ l.Nodup ∧ ∀ s : Int, s ∈ l → pHr P s
  | 0, l, S, h => by
    obtain ⟨rfl, rfl⟩ := h
    exact ⟨hP.2.2.1, rfl, List.nodup_nil, fun s hs => absurd hs (by simp)⟩
  | n + 1, l, S, h => by
    obtain ⟨l0, S1, s, h1, h2, h3, h4, rfl⟩ := h
    obtain ⟨a, b, c, d⟩ := rcl_in hP n l0 S1 h1
    have hf := (hP.2.2.2 s S1 h2.1.1.1 h2.1.1.2 a).1
    rw [h3] at hf
    refine ⟨hf.resolve_left (by omega), by rw [List.length_cons, b], List.nodup_cons.mpr ⟨h2.2, c⟩, fun u hu => ?_⟩
    rcases List.mem_cons.mp hu with e | e
    · rw [e]; exact h2.1
    · exact d u e
theorem rcl_rch {P : SP} (hP : pOK P) : ∀ (n : Nat) (l : List Int) (S : Int), rcl P n l S → ∃ (m : Nat) (F : Int), m ≤ n ∧ rch P m F S ∧ ∀ s : Int, 0 ≤ s → mem F s → s ∈ l
  | 0, l, S, h => by
    obtain ⟨rfl, rfl⟩ := h
    exact ⟨0, 0, Nat.le_refl _, ⟨rfl, rfl⟩, fun s _ m => absurd m (mem_z s)⟩
  | n + 1, l, S, h => by
    obtain ⟨l0, S1, s, h1, h2, h3, h4, rfl⟩ := h
    obtain ⟨m, F, hm, hr, hF⟩ := rcl_rch hP n l0 S1 h1
    have hin := (rcl_in hP n l0 S1 h1).1
    have hf := hP.2.2.2 s S1 h2.1.1.1 h2.1.1.2 hin
    have hs := h2.1.1
    by_cases z : dgt S1 (P.2.2.1 s) = P.2.2.2.1 s
    · have e := hf.2.1 z
      rw [h3] at e
      subst e
      exact ⟨m, F, by omega, hr, fun u u0 y => List.mem_cons_of_mem _ (hF u u0 y)⟩
    · have hb := stb_b (rch_b hP m F S1 hr).1 (s := s) (by have := hP.1; omega)
      refine ⟨m + 1, stb F s, by omega, ⟨F, S1, s, hr, ⟨h2.1, fun y => h2.2 (hF s hs.1 y), z⟩, h3, h4, rfl⟩, fun u u0 y => ?_⟩
      rcases (hb.2 u u0).mp y with y | y
      · exact List.mem_cons_of_mem _ (hF u u0 y)
      · rw [y]; exact List.mem_cons_self
theorem Brr_l {P : SP} (hP : pOK P) {n : Nat} (h : Brr P n) : Brl P n := by
  obtain ⟨F, S, s, h1, h2, h3⟩ := h
  obtain ⟨l, hl, hm⟩ := rch_rcl hP n F S h1
  exact ⟨l, S, s, hl, ⟨h2.1, fun y => h2.2.1 ((hm s h2.1.1.1).mpr y)⟩, h3⟩
theorem Brl_r {P : SP} (hP : pOK P) {n : Nat} (h : Brl P n) : ∃ m, m ≤ n ∧ Brr P m := by
  obtain ⟨l, S, s, h1, h2, h3⟩ := h
  obtain ⟨m, F, hm, hr, hF⟩ := rcl_rch hP n l S h1
  have hin := (rcl_in hP n l S h1).1
  refine ⟨m, hm, F, S, s, hr, ⟨h2.1, fun y => h2.2 (hF s h2.1.1.1 y), fun z => ?_⟩, h3⟩
  have e := (hP.2.2.2 s S h2.1.1.1 h2.1.1.2 hin).2.1 z
  have := hin.1
  omega
theorem sh_eq {P : SP} (hP : pOK P) {r r' : Int} (h : shR P r) (h' : shL P r') : r = r' := by
  rcases h with ⟨e, h⟩ | ⟨n, e, h1, h2⟩
  · rcases h' with ⟨e', h'⟩ | ⟨n', e', h1', h2'⟩
    · omega
    · obtain ⟨m, _, hm⟩ := Brl_r hP h1'
      exact absurd hm (h m)
  · rcases h' with ⟨e', h'⟩ | ⟨n', e', h1', h2'⟩
    · exact absurd (Brr_l hP h1) (h' n)
    · obtain ⟨m, hm, hr⟩ := Brl_r hP h1'
      have a1 : ¬ m < n := fun y => h2 m y hr
      have a2 : ¬ n < n' := fun y => h2' n y (Brr_l hP h1)
      omega
/-! the search in depth -/
def dfP (P : SP) (HL : List Int) : Nat → Int → List Int → Int → Prop
  | 0, _, _, _ => False
  | c + 1, S, l, k => ∃ o : Nat, k ≤ (o : Int) ∧ o < HL.length ∧ HL.getD o 0 ∉ l ∧ (P.2.2.2.2.1 (HL.getD o 0) S < 0 ∨ (0 ≤ P.2.2.2.2.1 (HL.getD o 0) S ∧ dfP P HL c (P.2.2.2.2.1 (HL.getD o 0) S) (HL.getD o 0 :: l) 0))
theorem dfP_l {P : SP} {HL : List Int} (hH : ∀ s : Int, s ∈ HL → pHr P s) : ∀ (c n : Nat) (l : List Int) (S k : Int), rcl P n l S → dfP P HL c S l k → ∃ m, m < n + c ∧ Brl P m
  | 0, n, l, S, k, _, h => h.elim
  | c + 1, n, l, S, k, hr, h => by
    obtain ⟨o, h1, h2, h3, h4⟩ := h
    have hp := hH _ (getD_mem h2)
    rcases h4 with h4 | h4
    · exact ⟨n, by omega, l, S, _, hr, ⟨hp, h3⟩, h4⟩
    · obtain ⟨m, a, b⟩ := dfP_l hH c (n + 1) (HL.getD o 0 :: l) _ 0 ⟨l, S, _, hr, ⟨hp, h3⟩, rfl, h4.1, rfl⟩ h4.2
      exact ⟨m, by omega, b⟩
theorem mem_getD {L : List Int} {s : Int} (h : s ∈ L) : ∃ o : Nat, o < L.length ∧ L.getD o 0 = s := by
  obtain ⟨o, h1, h2⟩ := List.getElem_of_mem h
  exact ⟨o, h1, by rw [List.getD_eq_getElem?_getD, List.getElem?_eq_getElem h1]; exact h2⟩
theorem l_dfP {P : SP} {HL : List Int} (hH : ∀ s : Int, pHr P s → s ∈ HL) : ∀ (n c : Nat) (l : List Int) (S : Int), rcl P n l S → dfP P HL c S l 0 → dfP P HL (n + c) P.2.2.2.2.2 [] 0
  | 0, c, l, S, hr, h => by
    obtain ⟨rfl, rfl⟩ := hr
    rw [Nat.zero_add]; exact h
  | n + 1, c, l, S, hr, h => by
    obtain ⟨l0, S1, s, h1, h2, h3, h4, rfl⟩ := hr
    obtain ⟨o, ho, hs⟩ := mem_getD (hH s h2.1)
    rw [show n + 1 + c = n + (c + 1) by omega]
    refine l_dfP hH n (c + 1) l0 S1 h1 ⟨o, by omega, ho, by rw [hs]; exact h2.2, Or.inr ?_⟩
    rw [hs, h3]
    exact ⟨h4, h⟩
theorem dfP_iff {P : SP} {HL : List Int} (hH : ∀ s : Int, s ∈ HL ↔ pHr P s) (c : Nat) : dfP P HL c P.2.2.2.2.2 [] 0 ↔ ∃ m, m < c ∧ Brl P m := by
  constructor
  · intro h
    obtain ⟨m, a, b⟩ := dfP_l (fun s hs => (hH s).mp hs) c 0 [] _ 0 ⟨rfl, rfl⟩ h
    exact ⟨m, by omega, b⟩
  · rintro ⟨m, hm, l, S, s, h1, h2, h3⟩
    obtain ⟨o, ho, hs⟩ := mem_getD ((hH s).mpr h2.1)
    obtain ⟨d, rfl⟩ : ∃ d, c = m + (d + 1) := ⟨c - m - 1, by omega⟩
    exact l_dfP (fun s hs => (hH s).mpr hs) m (d + 1) l S h1 ⟨o, by omega, ho, by rw [hs]; exact h2.2, Or.inl (by rw [hs]; exact h3)⟩
theorem nd_len {α : Type} [DecidableEq α] : ∀ (l m : List α), l.Nodup → (∀ x, x ∈ l → x ∈ m) → l.length ≤ m.length
  | [], m, _, _ => Nat.zero_le _
  | a :: l, m, hn, hs => by
    have h1 := List.nodup_cons.mp hn
    have ha : a ∈ m := hs a List.mem_cons_self
    have ih := nd_len l (m.erase a) h1.2 (fun x hx => (List.mem_erase_of_ne (a := x) (b := a) (fun e => h1.1 (by rw [← e]; exact hx))).mpr (hs x (List.mem_cons_of_mem _ hx)))
    rw [List.length_erase_of_mem ha] at ih
    have : 0 < m.length := List.length_pos_of_mem ha
    rw [List.length_cons]
    omega
theorem Brl_b {P : SP} (hP : pOK P) {HL : List Int} (hH : ∀ s : Int, s ∈ HL ↔ pHr P s) {n : Nat} (h : Brl P n) : n < HL.length := by
  obtain ⟨l, S, s, h1, h2, _⟩ := h
  obtain ⟨_, b, c, d⟩ := rcl_in hP n l S h1
  have := nd_len (s :: l) HL (List.nodup_cons.mpr ⟨h2.2, c⟩) (fun x hx => by
    rcases List.mem_cons.mp hx with e | e
    · rw [e]; exact (hH s).mpr h2.1
    · exact (hH x).mpr (d x e))
  rw [List.length_cons, b] at this
  omega
