section
variable {F F' : xFm} {W W' : xWm} {pm : Nat → Nat} {G G' : xFm} {B B' : xWm} {q : Nat → Nat} {g N rn po bl sv : Nat}
/-- a rule at another place of the reference's rows -/
theorem RuR.idx {r i i' : Nat} (h : RuR F r G i) (hF : ∀ k, 17 ≤ k → k ≤ 22 → F' k r 0 = F k r 0) (h34 : G' 34 0 0 i' = G 34 0 0 i) (h35 : ∀ t, t < 3 → G' 35 0 0 (3 * i' + t) = G 35 0 0 (3 * i + t)) (h36 : G' 36 0 0 i' = G 36 0 0 i) (h37 : ∀ t, t < 4 → G' 37 0 0 (4 * i' + t) = G 37 0 0 (4 * i + t)) (h38 : ∀ t, t < 4 → G' 38 0 0 (4 * i' + t) = G 38 0 0 (4 * i + t)) (h39 : ∀ t, t < 12 → G' 39 0 0 (12 * i' + t) = G 39 0 0 (12 * i + t)) (h40 : ∀ t, t < 12 → G' 40 0 0 (12 * i' + t) = G 40 0 0 (12 * i + t)) : RuR F' r G' i' := by
  obtain ⟨a1, ⟨m, m1, m2, m3, m4, m5⟩, a3⟩ := h
  have e35 := h35 0 (by omega)
  rw [Nat.add_zero, Nat.add_zero] at e35
  unfold RuR
  rw [hF 17 (by omega) (by omega), hF 18 (by omega) (by omega), hF 19 (by omega) (by omega), hF 20 (by omega) (by omega), hF 21 (by omega) (by omega), hF 22 (by omega) (by omega), h34, h36, e35, h35 1 (by omega), h35 2 (by omega)]
  refine ⟨a1, ⟨m, m1, m2, m3, fun o ho => ?_, m5⟩, a3⟩
  obtain ⟨b1, k, k1, k2, k3, k4, k5⟩ := m4 o ho
  rw [h37 o (by omega), h38 o (by omega)]
  refine ⟨b1, k, k1, k2, k3, k4, fun j hj => ?_⟩
  have e1 : 3 * (4 * i' + o) + j = 12 * i' + (3 * o + j) := by omega
  have e2 : 3 * (4 * i + o) + j = 12 * i + (3 * o + j) := by omega
  have h9 := k5 j hj
  rw [e2] at h9
  rw [e1, h39 _ (by omega), h40 _ (by omega)]
  exact h9
/-- scalars and the buffer set anew -/
theorem AllR.sc {po' bl' : Nat} (h : AllR F W pm G B q g N rn po bl sv) (hF : ∀ k i j, k ≠ 0 → k ≠ 1 → F' k i j = F k i j) (hG : ∀ k i j, k ≠ 30 → k ≠ 32 → G' k i j = G k i j) (hn : ∀ n, n ≠ 0 → n ≠ 1 → n ≠ 13 → G' 30 0 0 n = G 30 0 0 n) (f8 : F' 0 0 0 8 = F 0 0 0 8) (f4 : F' 0 0 0 4 = F 0 0 0 4) (hpo : F' 0 0 0 5 = nI po' ∧ G' 30 0 0 13 = nI po' ∧ po' ≤ 2) (hbl : F' 0 0 0 1 = nI bl' ∧ G' 30 0 0 1 = nI bl' ∧ bl' ≤ 40) (hb : ∀ i, i < bl' → F' 1 0 0 i = G' 32 0 0 i ∧ ∃ cd, F' 1 0 0 i = nI cd ∧ cd < 1000) : AllR F' W pm G' B q g N rn po' bl' sv := by
  obtain ⟨a1, a2, a3, a4, a5, a6, a7, a8, a9⟩ := h
  refine ⟨?_, fun hs => ?_, ?_, ?_, fun i hi => ?_, a6, hpo, hbl, hb⟩
  · exact StR.row a1 (hF _ _ _ (by omega) (by omega)) (hF _ _ _ (by omega) (by omega)) (hF _ _ _ (by omega) (by omega)) (hF _ _ _ (by omega) (by omega)) (hF _ _ _ (by omega) (by omega)) (fun k c h1 h2 h3 => hF _ _ _ (by omega) (by omega)) (fun _ _ => rfl) (hG _ _ _ (by omega) (by omega)) (hG _ _ _ (by omega) (by omega)) (hG _ _ _ (by omega) (by omega)) (hG _ _ _ (by omega) (by omega)) (hG _ _ _ (by omega) (by omega)) (hG _ _ _ (by omega) (by omega)) (hG _ _ _ (by omega) (by omega)) (hG _ _ _ (by omega) (by omega)) rfl (hn _ (by omega) (by omega) (by omega)) (hn _ (by omega) (by omega) (by omega)) (hn _ (by omega) (by omega) (by omega))
  · obtain ⟨q', g', a⟩ := a2 hs
    exact ⟨q', g', StR.row a (hF _ _ _ (by omega) (by omega)) (hF _ _ _ (by omega) (by omega)) (hF _ _ _ (by omega) (by omega)) (hF _ _ _ (by omega) (by omega)) (hF _ _ _ (by omega) (by omega)) (fun k c h1 h2 h3 => hF _ _ _ (by omega) (by omega)) (fun _ _ => rfl) (hG _ _ _ (by omega) (by omega)) (hG _ _ _ (by omega) (by omega)) (hG _ _ _ (by omega) (by omega)) (hG _ _ _ (by omega) (by omega)) (hG _ _ _ (by omega) (by omega)) (hG _ _ _ (by omega) (by omega)) (hG _ _ _ (by omega) (by omega)) (hG _ _ _ (by omega) (by omega)) rfl (hn _ (by omega) (by omega) (by omega)) (hn _ (by omega) (by omega) (by omega)) (hn _ (by omega) (by omega) (by omega))⟩
  · rw [f8, hn 39 (by omega) (by omega) (by omega)]
    exact a3
  · rw [f4, hn 3 (by omega) (by omega) (by omega)]
    exact a4
  · exact RuR.row (a5 i hi) (fun k h1 h2 => hF _ _ _ (by omega) (by omega)) (fun k h1 h2 => hG _ _ _ (by omega) (by omega))
theorem AllR.append (h : AllR F W pm G B q g N rn po bl sv) (hb : bl < 40) {cd : Nat} (hcd : cd < 1000) : AllR (fr (fr F 1 0 0 (upd (F 1 0 0) bl (nI cd))) 0 0 0 (upd (F 0 0 0) 1 (nI (bl + 1)))) W pm (fr (fr (tS G (nI 0)) 32 0 0 (upd (G 32 0 0) bl (nI cd))) 30 0 0 (upd (upd (G 30 0 0) 0 (nI 0)) 1 (nI (bl + 1)))) B q g N rn po (bl + 1) sv := by
  refine h.sc (fun k i j h1 h2 => by rw [fr_k h1, fr_k h2]) (fun k i j h1 h2 => by rw [fr_k h1, fr_k h2]; exact fr_k h1) (fun n h1 h2 h3 => by rw [fr_s, upd_n h2, upd_n h1]) (by rw [fr_s, upd_n (by omega)]) (by rw [fr_s, upd_n (by omega)]) ?_ ?_ ?_
  · rw [fr_s, fr_s, upd_n (by omega), upd_n (by omega), upd_n (by omega)]
    exact h.2.2.2.2.2.2.1
  · rw [fr_s, fr_s, upd_s, upd_s]
    exact ⟨rfl, rfl, by omega⟩
  · intro i hi
    rw [fr_k (by omega), fr_s, fr_k (by omega), fr_s]
    by_cases e : i = bl
    · rw [e, upd_s, upd_s]
      exact ⟨rfl, cd, rfl, hcd⟩
    · rw [upd_n e, upd_n e]
      exact h.2.2.2.2.2.2.2.2 i (by omega)
theorem AllR.clear (h : AllR F W pm G B q g N rn po bl sv) : AllR (fr F 0 0 0 (upd (F 0 0 0) 1 (nI 0))) W pm (fr (tS G (nI 0)) 30 0 0 (upd (upd (G 30 0 0) 0 (nI 0)) 1 (nI 0))) B q g N rn po 0 sv := by
  refine h.sc (fun k i j h1 h2 => fr_k h1) (fun k i j h1 h2 => by rw [fr_k h1]; exact fr_k h1) (fun n h1 h2 h3 => by rw [fr_s, upd_n h2, upd_n h1]) (by rw [fr_s, upd_n (by omega)]) (by rw [fr_s, upd_n (by omega)]) ?_ ?_ ?_
  · rw [fr_s, fr_s, upd_n (by omega), upd_n (by omega), upd_n (by omega)]
    exact h.2.2.2.2.2.2.1
  · rw [fr_s, fr_s, upd_s, upd_s]
    exact ⟨rfl, rfl, by omega⟩
  · intro i hi
    exact absurd hi (by omega)
theorem AllR.policy (h : AllR F W pm G B q g N rn po bl sv) {p : Nat} (hp : p ≤ 2) : AllR (fr F 0 0 0 (upd (F 0 0 0) 5 (nI p))) W pm (fr (tS G (nI 0)) 30 0 0 (upd (upd (G 30 0 0) 0 (nI 0)) 13 (nI p))) B q g N rn p bl sv := by
  refine h.sc (fun k i j h1 h2 => fr_k h1) (fun k i j h1 h2 => by rw [fr_k h1]; exact fr_k h1) (fun n h1 h2 h3 => by rw [fr_s, upd_n h3, upd_n h1]) (by rw [fr_s, upd_n (by omega)]) (by rw [fr_s, upd_n (by omega)]) ?_ ?_ ?_
  · rw [fr_s, fr_s, upd_s, upd_s]
    exact ⟨rfl, rfl, hp⟩
  · rw [fr_s, fr_s, upd_n (by omega), upd_n (by omega), upd_n (by omega)]
    exact h.2.2.2.2.2.2.2.1
  · intro i hi
    rw [fr_k (by omega), fr_k (by omega)]
    exact h.2.2.2.2.2.2.2.2 i hi
theorem pm_of {σ pm' : Nat → Nat} (h : (∀ i, i < 9 → pm i < 9) ∧ ∀ i j, i < 9 → j < 9 → pm i = pm j → i = j) (e : ∀ i, i < 9 → pm' i = pm (σ i)) (s9 : ∀ i, i < 9 → σ i < 9) (si : ∀ i j, i < 9 → j < 9 → σ i = σ j → i = j) : (∀ i, i < 9 → pm' i < 9) ∧ ∀ i j, i < 9 → j < 9 → pm' i = pm' j → i = j := by
  refine ⟨fun i hi => by rw [e i hi]; exact h.1 _ (s9 i hi), fun i j hi hj z => si i j hi hj (h.2 _ _ (s9 i hi) (s9 j hj) ?_)⟩
  rw [← e i hi, ← e j hj]
  exact z
/-- a rule added -/
theorem AllR.add (h : AllR F W pm G B q g N rn po bl sv) (hrn : rn < 8) (hP : PsR F (pm 8) G) {m : Nat} (hc : pC F = 5 ∨ pC F = 10) (hw : woE G = some m) : AllR (fr (fr F 12 0 0 (upd (F 12 0 0) rn (nI 0))) 0 0 0 (upd (upd (upd (F 0 0 0) 4 (nI (rn + 1))) 1 (nI 0)) 8 (nI 0))) W (va_up (va_up pm 8 (pm rn)) rn (pm 8)) (maR G rn m) B q g N (rn + 1) po 0 0 := by
  obtain ⟨a1, a2, a3, a4, a5, a6, a7, a8, a9⟩ := h
  have hF : ∀ k i j, k ≠ 0 → k ≠ 12 → fr (fr F 12 0 0 (upd (F 12 0 0) rn (nI 0))) 0 0 0 (upd (upd (upd (F 0 0 0) 4 (nI (rn + 1))) 1 (nI 0)) 8 (nI 0)) k i j = F k i j := fun k i j h1 h2 => by rw [fr_k h1, fr_k h2]
  have hG : ∀ k i j, k ≠ 30 → (k < 34 ∨ 41 < k) → maR G rn m k i j = G k i j := fun k i j h1 h2 => by
    unfold maR maV maU maT maS tS
    rw [fr_k h1, fr_k (by omega), fr_k (by omega), fr_k (by omega), fr_k (by omega), fr_k (by omega), fr_k (by omega), fr_k (by omega), fr_k (by omega), fr_k h1]
  have g30 : maR G rn m 30 0 0 = upd (upd (upd (upd (G 30 0 0) 0 (nI 0)) 3 (nI (rn + 1))) 1 (nI 0)) 39 (nI 0) := fr_s
  have g34 : maR G rn m 34 0 0 = upd (G 34 0 0) rn (G 30 0 0 25) := rfl
  have g35 : maR G rn m 35 0 0 = cpO (G 58 0 0) (G 35 0 0) (3 * rn) 3 := rfl
  have g36 : maR G rn m 36 0 0 = upd (G 36 0 0) rn (nI m) := rfl
  have g37 : maR G rn m 37 0 0 = cpO (G 62 0 0) (G 37 0 0) (4 * rn) 4 := rfl
  have g38 : maR G rn m 38 0 0 = cpO (G 63 0 0) (G 38 0 0) (4 * rn) 4 := rfl
  have g39 : maR G rn m 39 0 0 = cpO (G 64 0 0) (G 39 0 0) (12 * rn) 12 := rfl
  have g40 : maR G rn m 40 0 0 = cpO (G 65 0 0) (G 40 0 0) (12 * rn) 12 := rfl
  have g41 : maR G rn m 41 0 0 = upd (G 41 0 0) rn (nI 0) := rfl
  refine ⟨?_, fun z => absurd z (by omega), ?_, ?_, fun i hi => ?_, ?_, ?_, ?_, fun i hi => absurd hi (by omega)⟩
  · obtain ⟨b1, b2, b3, b4, b5, b6, b7, b8, b9⟩ := a1
    refine ⟨fun c hc => ?_, ?_, ?_, ?_, b5, fun i hi => ?_, ?_, ?_, ?_⟩
    · rw [hF 13 _ _ (by omega) (by omega), hF 14 _ _ (by omega) (by omega), hF 15 _ _ (by omega) (by omega), hF 16 _ _ (by omega) (by omega), hG 44 _ _ (by omega) (by omega), hG 45 _ _ (by omega) (by omega), hG 46 _ _ (by omega) (by omega), hG 47 _ _ (by omega) (by omega), hG 52 _ _ (by omega) (by omega)]
      exact b1 c hc
    · rw [hF 10 _ _ (by omega) (by omega), hF 11 _ _ (by omega) (by omega), hG 50 _ _ (by omega) (by omega), hG 51 _ _ (by omega) (by omega)]
      exact b2
    · rw [hF 9 _ _ (by omega) (by omega)]
      exact b3
    · rw [g30, upd_n (by omega), upd_n (by omega), upd_n (by omega), upd_n (by omega)]
      exact b4
    · rw [fr_k (by omega), fr_s, g41]
      by_cases e : i = rn
      · rw [e, upd_s, upd_s]
      · rw [upd_n e, upd_n e]
        exact b6 i hi
    · rw [hF 7 _ _ (by omega) (by omega), g30, upd_n (by omega), upd_n (by omega), upd_n (by omega), upd_n (by omega)]
      exact b7
    · rw [hF 7 _ _ (by omega) (by omega), g30, upd_n (by omega), upd_n (by omega), upd_n (by omega), upd_n (by omega)]
      exact b8
    · rw [g30, upd_n (by omega), upd_n (by omega), upd_n (by omega), upd_n (by omega)]
      exact b9
  · rw [fr_s, g30, upd_s, upd_s]
    exact ⟨rfl, rfl, by omega⟩
  · rw [fr_s, g30, upd_n (by omega), upd_n (by omega), upd_s, upd_n (by omega), upd_n (by omega), upd_s]
    exact ⟨rfl, rfl, by omega⟩
  · by_cases e : i = rn
    · subst e
      rw [va_up_self]
      rcases hP.ps with ⟨-, m', m4, w1, w2, w3, w4, w5, w6⟩ | ⟨z, -⟩
      · have em : m' = m := by
          rw [hw] at w1
          exact (Option.some.inj w1).symm
        subst em
        unfold RuR
        rw [hF 17 _ _ (by omega) (by omega), hF 18 _ _ (by omega) (by omega), hF 19 _ _ (by omega) (by omega), hF 20 _ _ (by omega) (by omega), hF 21 _ _ (by omega) (by omega), hF 22 _ _ (by omega) (by omega), g34, g35, g36, g37, g38, g39, g40, upd_s, upd_s]
        refine ⟨w2, ⟨m', m4, w3, rfl, fun o ho => ?_, w5⟩, ?_⟩
        · obtain ⟨k, k1, c1, c2, c3, c4, c5⟩ := w4 o ho
          have x1 : ∀ a d : Nat → Int32, cpO a d (4 * i) 4 (4 * i + o) = a o := fun a d => by
            unfold cpO
            rw [if_pos (by omega), Nat.add_sub_cancel_left]
          rw [x1, x1]
          refine ⟨c1, k, k1, c4, c2, c3, fun j hj => ?_⟩
          have x2 : ∀ a d : Nat → Int32, cpO a d (12 * i) 12 (3 * (4 * i + o) + j) = a (3 * o + j) := fun a d => by
            unfold cpO
            rw [if_pos (by omega)]
            congr 1
            omega
          rw [x2, x2]
          exact c5 j hj
        · have x1 : ∀ (a d : Nat → Int32) (t : Nat), t < 3 → cpO a d (3 * i) 3 (3 * i + t) = a t := fun a d t ht => by
            unfold cpO
            rw [if_pos (by omega), Nat.add_sub_cancel_left]
          have x0 := x1 (G 58 0 0) (G 35 0 0) 0 (by omega)
          rw [Nat.add_zero] at x0
          rw [x0, x1 _ _ 1 (by omega), x1 _ _ 2 (by omega)]
          exact w6
      · exact absurd hc z
    · have hi' : i < rn := by omega
      rw [va_up_ne _ _ e, va_up_ne _ _ (by omega)]
      exact (a5 i hi').idx (fun k h1 h2 => hF _ _ _ (by omega) (by omega)) (by rw [g34, upd_n e]) (fun t ht => by rw [g35]; unfold cpO; rw [if_neg (by omega)]) (by rw [g36, upd_n e]) (fun t ht => by rw [g37]; unfold cpO; rw [if_neg (by omega)]) (fun t ht => by rw [g38]; unfold cpO; rw [if_neg (by omega)]) (fun t ht => by rw [g39]; unfold cpO; rw [if_neg (by omega)]) (fun t ht => by rw [g40]; unfold cpO; rw [if_neg (by omega)])
  · refine pm_of (σ := fun i => if i = rn then 8 else if i = 8 then rn else i) a6 (fun i hi => ?_) (fun i hi => ?_) (fun i j hi hj => ?_)
    · by_cases e : i = rn
      · rw [e, va_up_self, if_pos rfl]
      · rw [va_up_ne _ _ e, if_neg e]
        by_cases e8 : i = 8
        · rw [e8, va_up_self, if_pos rfl]
        · rw [va_up_ne _ _ e8, if_neg e8]
    · split
      · omega
      · split <;> omega
    · split <;> split <;> (try split) <;> (try split) <;> omega
  · rw [fr_s, g30, upd_n (by omega), upd_n (by omega), upd_n (by omega), upd_n (by omega), upd_n (by omega), upd_n (by omega), upd_n (by omega)]
    exact a7
  · rw [fr_s, g30, upd_n (by omega), upd_s, upd_n (by omega), upd_s]
    exact ⟨rfl, rfl, by omega⟩
end
