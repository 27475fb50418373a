theorem coS_fix {F : xFm} {r g o k i j : Nat} (h10 : k ≠ 10) (h11 : k ≠ 11) (h : ¬ (13 ≤ k ∧ k ≤ 16 ∧ i = 0)) : coS F r g o k i j = F k i j := by
  unfold coS
  split
  · unfold xPut
    rw [fr_n (by omega), fr_n (by omega), fr_n (by omega), fr_n (by omega)]
  · exact xSt_o h10 h11
theorem coN_fix {F : xFm} {r g k i j : Nat} (h10 : k ≠ 10) (h11 : k ≠ 11) (h : ¬ (13 ≤ k ∧ k ≤ 16 ∧ i = 0)) : ∀ o, coN r g o F k i j = F k i j
  | 0 => rfl
  | o + 1 => (coS_fix h10 h11 h).trans (coN_fix h10 h11 h o)
theorem coS_p {F : xFm} {r g o t n : Nat} {v : Int32} (h0 : F 19 r 0 o = 0) (ht : F 18 r 0 o = nI t) (ht8 : t < 8) (hn : F 13 0 t 3 = nI n) (hn8 : n ≤ 8) (hv : cV F r o = v) : coS F r g o = xPut F 0 t n v (F 7 0 0 3) (-1) := by
  have e1 : cT F r o = t := by unfold cT; rw [ht, nI_clamp (by omega)]
  have e2 : cL F r o = n := by unfold cL; rw [e1, hn, nI_clamp (by omega)]
  unfold coS
  rw [if_pos h0, e1, e2, hv]
theorem coS_r {F : xFm} {r g o t : Nat} {v : Int32} (h0 : F 19 r 0 o = nI 1) (ht : F 18 r 0 o = nI t) (ht8 : t < 8) (hv : cV F r o = v) : coS F r g o = xSt F 0 g (F 6 0 0 t) (nI 1) v := by
  have e1 : cT F r o = t := by unfold cT; rw [ht, nI_clamp (by omega)]
  unfold coS
  rw [if_neg (by rw [h0]; decide), e1, hv]
theorem moS_p {G : xFm} {i g o t n : Nat} {v : Int32} (ht : G 37 0 0 (4 * i + o) = nI t) (ht8 : t < 8) (hn : G 44 0 0 t = nI n) (hn8 : n ≤ 8) (hv : oV G i o = v) : moS G i g o = mPut G t n v (-1) := by
  have e1 : oT G i o = t := by unfold oT; rw [ht, nI_clamp (by omega)]
  have e2 : oL G t = n := by unfold oL; rw [hn, nI_clamp (by omega)]
  unfold moS
  rw [e1, if_pos ht8, e2, hv]
theorem moS_r {G : xFm} {i g o t : Nat} {v : Int32} (ht : G 37 0 0 (4 * i + o) = nI (8 + t)) (ht8 : t < 8) (hv : oV G i o = v) : moS G i g o = mSe G g (G 68 0 0 t) (nI 1) v := by
  have e1 : oT G i o = 8 + t := by unfold oT; rw [ht, nI_clamp (by omega)]
  unfold moS
  rw [e1, if_neg (by omega), Nat.add_sub_cancel_left, hv]
theorem xPut_13 {F : xFm} {t n : Nat} {v s k : Int32} : xPut F 0 t n v s k 13 0 t = upd (F 13 0 t) 3 (nI (n + 1)) := by
  unfold xPut
  simp [fr]
theorem xPut_14 {F : xFm} {t n : Nat} {v s k : Int32} : xPut F 0 t n v s k 14 0 t = upd (F 14 0 t) n v ∧ xPut F 0 t n v s k 15 0 t = upd (F 15 0 t) n s ∧ xPut F 0 t n v s k 16 0 t = upd (F 16 0 t) n k := by
  unfold xPut
  simp [fr]
theorem xPut_o {F : xFm} {t n d k' : Nat} {v s k : Int32} (h : d ≠ t) : xPut F 0 t n v s k k' 0 d = F k' 0 d := by
  unfold xPut
  rw [fr_n (by omega), fr_n (by omega), fr_n (by omega), fr_n (by omega)]
theorem put_q {F : xFm} {W : xWm} {G : xFm} {B : xWm} {q : Nat → Nat} (hQ : QcR F W G B q) {t : Nat} (ht : t < 8) (hq : q t < 8) {v : Int32} (hb : bnd v) (hs : F 7 0 0 3 = G 30 0 0 18) (k : Int32) : QcR (xPut F 0 t (q t) v (F 7 0 0 3) k) W (mPut G t (q t) v k) B (va_up q t (q t + 1)) := by
  have m44 : mPut G t (q t) v k 44 0 0 = upd (G 44 0 0) t (nI (q t + 1)) := rfl
  have m45 : mPut G t (q t) v k 45 0 0 = upd (G 45 0 0) (8 * t + q t) v := rfl
  have m46 : mPut G t (q t) v k 46 0 0 = upd (G 46 0 0) (8 * t + q t) (G 30 0 0 18) := rfl
  have m47 : mPut G t (q t) v k 47 0 0 = upd (G 47 0 0) (8 * t + q t) k := rfl
  have m52 : mPut G t (q t) v k 52 0 0 = G 52 0 0 := rfl
  intro d hd
  rw [m44, m45, m46, m47, m52]
  obtain ⟨h1, h2, h3, h4, h5, h6⟩ := hQ d hd
  by_cases e : d = t
  · subst e
    rw [xPut_13, xPut_14.1, xPut_14.2.1, xPut_14.2.2, upd_s, upd_s, upd_n (by omega), va_up_s]
    refine ⟨rfl, by omega, rfl, h4, h5, ?_⟩
    intro j hj
    by_cases e2 : j = q d
    · rw [e2, upd_s, upd_s, upd_s, upd_s, upd_s, upd_s]
      exact ⟨rfl, hs, rfl, hb⟩
    · rw [upd_n e2, upd_n e2, upd_n e2, upd_n (by omega), upd_n (by omega), upd_n (by omega)]
      exact h6 j (by omega)
  · rw [xPut_o e, xPut_o e, xPut_o e, xPut_o e, upd_n e, va_up_n e]
    refine ⟨h1, h2, h3, h4, h5, ?_⟩
    intro j hj
    rw [upd_n (by omega), upd_n (by omega), upd_n (by omega)]
    exact h6 j hj
theorem snN_step {a b : Nat → Int32} {c : Int32} {n : Nat} : snN a b c (n + 1) = if a n = 0 ∧ b n = c then snN a b c n + 1 else snN a b c n := rfl
theorem snN_mono {a b : Nat → Int32} {c : Int32} {n : Nat} : ∀ {m : Nat}, n ≤ m → snN a b c n ≤ snN a b c m
  | 0, h => by
    have : n = 0 := by omega
    rw [this]
    exact Nat.le_refl _
  | m + 1, h => by
    by_cases e : n = m + 1
    · rw [e]
      exact Nat.le_refl _
    · have := snN_mono (a := a) (b := b) (c := c) (n := n) (m := m) (by omega)
      rw [snN_step]
      split <;> omega