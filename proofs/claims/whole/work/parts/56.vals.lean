theorem bnd_I {x : Int32} (h : bnd x) : -9999 ≤ x.toInt ∧ x.toInt ≤ 9999 := by
  obtain ⟨h1, h2⟩ := h
  rw [Int32.le_iff_toInt_le] at h1 h2
  have e1 : (-9999 : Int32).toInt = -9999 := by decide
  have e2 : (nI 9999).toInt = 9999 := by decide
  rw [e1] at h1
  rw [e2] at h2
  exact ⟨h1, h2⟩
theorem ngW {x : Int32} (h : -9999 ≤ x.toInt ∧ x.toInt ≤ 9999) : (-x).toInt64 = -x.toInt64 := by
  rw [← Int64.toInt_inj, Int32.toInt_toInt64, Int32.toInt_neg, Int64.toInt_neg, Int32.toInt_toInt64]
  rw [Int.bmod_eq_of_le (by omega) (by omega), Int.bmod_eq_of_le (by omega) (by omega)]
theorem bnd_d {a : Nat} (h : a < 18) : -9999 ≤ (nI (a - 8)).toInt ∧ (nI (a - 8)).toInt ≤ 9999 := by
  rw [nI_toInt (by omega)]
  omega
theorem ov_eq {F G : xFm} {r o b k : Nat} {p : Int32} {tv tw : Nat → Int32} (hop : ∀ j, j < k → OpR p j (F 22 r 0 (o * 3 + j)) (F 21 r 0 (o * 3 + j)) (G 39 0 0 (b + j)) (G 40 0 0 (b + j))) (htv : ∀ c, c < 8 → usP p (nI c) → tv c = tw c ∧ bnd (tv c)) : ∀ j, j ≤ k → ovL (F 21 r 0) (cO F r) tv (o * 3) j = ovM (G 40 0 0) (oN G) tw b j
  | 0, _ => rfl
  | j + 1, hj => by
    have ih := ov_eq hop htv j (by omega)
    obtain ⟨a, h1, h2, h3, h4, h5⟩ := hop j (by omega)
    have ea : cO F r (o * 3 + j) = a := by unfold cO; rw [h1, nI_clamp (by omega)]
    have eb : oN G (b + j) = a := by unfold oN; rw [h2, nI_clamp (by omega)]
    have ex : ovX tv a = ovX tw a ∧ (-9999 ≤ (ovX tw a).toInt ∧ (ovX tw a).toInt ≤ 9999) := by
      unfold ovX
      by_cases e : a < 8
      · obtain ⟨h6, h7⟩ := htv a e (h4 e)
        rw [if_pos e, if_pos e, ← h6]
        exact ⟨rfl, bnd_I h7⟩
      · rw [if_neg e, if_neg e]
        exact ⟨rfl, bnd_d h3⟩
    unfold ovL ovM
    rw [ih, ea, eb, ex.1]
    rcases h5 with ⟨rfl, hs⟩ | ⟨h0, hs, h6⟩
    · rw [hs, if_neg (by decide), if_neg (by decide), if_pos rfl]
      show ovM _ _ _ _ 0 + _ = _
      unfold ovM
      rw [Int64.zero_add]
    · rw [if_neg (show ¬ j = 0 by omega), ← hs]
      rcases h6 with h6 | h6 | h6
      · rw [h6, if_neg (by decide), if_neg (by decide), if_pos rfl]
      · rw [h6, if_neg (by decide), if_pos rfl, if_neg (by decide), if_pos rfl, ngW ex.2, Int64.sub_eq_add_neg]
      · rw [h6, if_pos rfl, if_neg (by decide), if_neg (by decide)]
theorem bnd_v {x : Int64} : bnd (ovC x) := by
  have key : ∀ y : Int64, -9999 ≤ y.toInt → y.toInt ≤ 9999 → bnd y.toInt32 := by
    intro y h1 h2
    have e : y.toInt32.toInt = y.toInt := by
      rw [Int64.toInt_toInt32]
      exact Int.bmod_eq_of_le (by omega) (by omega)
    constructor
    · rw [Int32.le_iff_toInt_le, e]
      exact h1
    · rw [Int32.le_iff_toInt_le, e]
      exact h2
  unfold ovC
  have e1 : (9999 : Int64).toInt = 9999 := by decide
  have e2 : (-9999 : Int64).toInt = -9999 := by decide
  by_cases h : x < 9999
  · rw [if_pos h]
    by_cases h2 : x < -9999
    · rw [if_pos h2]
      exact key _ (by rw [e2]; omega) (by rw [e2]; omega)
    · rw [if_neg h2]
      rw [Int64.lt_iff_toInt_lt, e1] at h
      rw [Int64.lt_iff_toInt_lt, e2] at h2
      exact key _ (by omega) (by omega)
  · rw [if_neg h, if_neg (by decide)]
    exact key _ (by rw [e1]; omega) (by rw [e1]; omega)