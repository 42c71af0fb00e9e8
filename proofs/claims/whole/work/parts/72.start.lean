/-! the start: what the constructors leave, as a heap -/
def hz : HP := fun q j => if q = 13 then -4 else if q = 14 ∨ q = 62 then -1 else if q = 24 ∨ q = 63 then (if j / 16 = j % 16 then 0 else 9) else if q = 54 ∨ q = 68 then (if j = 0 then 20 else if j = 1 then 3 else if j = 2 then 60 else 0) else 0
theorem hz_ok : okh hz := by
  intro q j
  unfold hz
  (repeat' split) <;> exact ⟨by decide, by decide⟩
theorem hz_c : ∀ n : Nat, ∀ r : Int, 0 ≤ r → cnt (fun f => hz 14 f = r) n = 0
  | 0, r, h => rfl
  | n + 1, r, h => by
    have h1 := hz_c n r h
    have h2 : ¬ hz 14 (n : Int) = r := by
      have : hz 14 (n : Int) = -1 := rfl
      omega
    unfold cnt
    first | (rw [h1, b2i_f h2]; rfl) | (rw [h1, if_neg h2])
theorem hz_24 (j : Int) : 0 ≤ hz 24 j ∧ hz 24 j ≤ 9 := by
  show 0 ≤ (if j / 16 = j % 16 then (0 : Int) else 9) ∧ (if j / 16 = j % 16 then (0 : Int) else 9) ≤ 9
  split <;> omega
theorem hz_d (t : Int) (h : 0 ≤ t) : dgt 0 t = 0 := by
  unfold dgt
  simp
theorem hz_HOK : HOK hz := by
  refine ⟨⟨by simp [hz], by simp [hz]⟩, fun t _ _ => ⟨⟨by simp [hz], by simp [hz]⟩, ⟨by simp [hz], by simp [hz]⟩, ⟨by simp [hz], by simp [hz]⟩⟩, by unfold inS; simp [hz], fun t h1 _ => ?_, fun f _ _ => ⟨by simp [hz], by simp [hz]⟩, fun r h1 _ => (hz_c 6 r h1).symm⟩
  exact hz_d t h1
theorem hz_rel : Rel 0 hz hz := by
  refine ⟨⟨hz_HOK, ?_, rfl, rfl, rfl, rfl, rfl, fun t h1 _ => (hz_d t h1).symm, fun t h1 h2 => ?_, fun t _ _ => rfl⟩, ?_, ?_, ?_, ?_, ?_, ?_, ?_, ?_⟩
  · exact ⟨⟨by simp [hz], by simp [hz]⟩, fun t _ _ => ⟨⟨by simp [hz], by simp [hz]⟩, ⟨by simp [hz], by simp [hz]⟩, ⟨by simp [hz], by simp [hz]⟩, ⟨by simp [hz], by simp [hz]⟩⟩, fun t _ _ => rfl, fun f _ _ => ⟨by simp [hz], by simp [hz]⟩⟩
  · have : hz 1 7 = 0 := rfl
    omega
  · have e : hz 2 5 = 0 := rfl
    have e2 : hz 55 16 = 0 := rfl
    exact ⟨⟨by simp [hz], by simp [hz], fun j h1 h2 => by omega⟩, ⟨by simp [hz], by simp [hz], fun j h1 h2 => by omega⟩, rfl, rfl⟩
  · have e : hz 2 6 = 0 := rfl
    have e2 : hz 70 1 = 0 := rfl
    exact ⟨⟨⟨by simp [hz], by simp [hz]⟩, fun k h1 h2 => by omega⟩, ⟨⟨by simp [hz], by simp [hz]⟩, fun k h1 h2 => by omega⟩, rfl, fun k h1 h2 => by omega⟩
  · have e : hz 3 6 = 0 := rfl
    have e2 : hz 55 10 = 0 := rfl
    exact ⟨⟨⟨by simp [hz], by simp [hz]⟩, fun k h1 h2 => by omega, fun i _ _ => ⟨by simp [hz], by simp [hz]⟩, fun i _ _ => hz_24 i⟩, ⟨⟨by simp [hz], by simp [hz]⟩, fun k h1 h2 => by omega, fun i _ _ => ⟨by simp [hz], by simp [hz]⟩, fun i _ _ => hz_24 i⟩, rfl, rfl, rfl, rfl, rfl, rfl, rfl, ⟨⟨by simp [hz], by simp [hz]⟩, ⟨by simp [hz], by simp [hz]⟩, ⟨by simp [hz], by simp [hz]⟩⟩, fun j _ _ => ⟨⟨by simp [hz], by simp [hz]⟩, rfl⟩⟩
  · have e : hz 4 15 = 0 := rfl
    have e2 : hz 55 23 = 0 := rfl
    have e3 : hz 4 12 = 0 := rfl
    exact ⟨⟨⟨by simp [hz], by simp [hz]⟩, ⟨by simp [hz], by simp [hz]⟩, fun i _ _ => ⟨⟨by simp [hz], by simp [hz]⟩, Or.inl rfl⟩, fun i h1 h2 => by omega⟩, ⟨⟨by simp [hz], by simp [hz]⟩, ⟨by simp [hz], by simp [hz]⟩, fun i _ _ => ⟨⟨by simp [hz], by simp [hz]⟩, Or.inl rfl⟩, fun i h1 h2 => by omega⟩, Or.inl rfl, rfl, fun h => by omega⟩
  · have e : hz 5 3 = 0 := rfl
    exact ⟨⟨by simp [hz], by simp [hz]⟩, rfl, rfl, rfl, rfl, fun i h1 h2 => by omega, fun i _ => rfl, rfl, ⟨by simp [hz], by simp [hz]⟩⟩
  · have e : hz 6 7 = 0 := rfl
    have e2 : hz 55 33 = 0 := rfl
    exact ⟨⟨⟨by simp [hz], by simp [hz]⟩, fun s h1 h2 => by omega⟩, ⟨⟨by simp [hz], by simp [hz]⟩, fun s h1 h2 => by omega⟩, rfl, fun s h1 h2 => by omega⟩
  · exact ⟨[], ⟨rfl, by decide, fun i h => absurd h (Nat.not_lt_zero i)⟩, ⟨rfl, by decide, fun i h => absurd h (Nat.not_lt_zero i)⟩, fun e h => by cases h⟩
  · exact ⟨rfl, rfl, rfl, fun t _ _ => ⟨rfl, by show (0 : Int) ≤ 0; decide, by show (0 : Int) ≤ _; omega⟩, ⟨by simp [hz], by simp [hz]⟩, ⟨by simp [hz], by simp [hz]⟩, ⟨by simp [hz], by simp [hz]⟩⟩
