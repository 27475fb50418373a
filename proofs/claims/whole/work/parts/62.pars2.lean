section
variable {F F' G G' : xFm} {r ro m k cd : Nat}
theorem BsR.gup (h : BsR F r G ro m k) (hF : ∀ k i j, k ≠ 2 → F' k i j = F k i j) (g25 : G' 30 0 0 25 = G 30 0 0 25) (g29 : G' 30 0 0 29 = G 30 0 0 29) (g30 : G' 30 0 0 30 = G 30 0 0 30) (g62 : ∀ o, o < m → G' 62 0 0 o = G 62 0 0 o) (g63 : ∀ o, o < m → G' 63 0 0 o = G 63 0 0 o) (g64 : ∀ n, (n < 3 * ro ∨ (m = ro + 1 ∧ n < 3 * ro + k)) → G' 64 0 0 n = G 64 0 0 n) (g65 : ∀ n, (n < 3 * ro ∨ (m = ro + 1 ∧ n < 3 * ro + k)) → G' 65 0 0 n = G 65 0 0 n) : BsR F' r G' ro m k := by
  obtain ⟨a1, a2, a3, a4, a5, a6, a7, a8⟩ := h
  have f17 := hF 17 r 0 (by omega)
  have f18 := hF 18 r 0 (by omega)
  have f19 := hF 19 r 0 (by omega)
  have f20 := hF 20 r 0 (by omega)
  have f21 := hF 21 r 0 (by omega)
  have f22 := hF 22 r 0 (by omega)
  refine ⟨by rw [g29]; exact a1, a2, by rw [f17, g25]; exact a3, by rw [f17, g30]; exact a4, by rw [f17]; exact a5, fun o ho => ?_, ?_, ?_⟩
  · obtain ⟨k', b1, b2⟩ := a6 o ho
    have hk3 := b2.2.2.2.1
    exact ⟨k', b1, b2.row (by rw [f17]) (by rw [f17]) (by rw [f18]) (by rw [f19]) (by rw [f20]) (fun j _ => by rw [f21]) (fun j _ => by rw [f22]) (g62 o (by omega)) (g63 o (by omega)) (fun j _ => g64 _ (by omega)) (fun j _ => g65 _ (by omega))⟩
  · rcases a7 with a7 | ⟨a7, a9⟩
    · exact Or.inl a7
    · exact Or.inr ⟨a7, a9.row (by rw [f17]) (by rw [f17]) (by rw [f18]) (by rw [f19]) (by rw [f20]) (fun j _ => by rw [f21]) (fun j _ => by rw [f22]) (g62 _ (by omega)) (g63 _ (by omega)) (fun j _ => g64 _ (by omega)) (fun j _ => g65 _ (by omega))⟩
  · rw [f17, f19, f18]
    exact a8
theorem acc_0 (hp : F 2 0 0 1 = nI 0) (hs : G 30 0 0 24 = nI 0) (hB : BsR F r G 0 0 k) (g31 : G 30 0 0 31 = 0) (hd : F 17 r 0 1 = nI 8 ∧ F 17 r 0 2 = nI 61 ∧ F 17 r 0 3 = nI 8 ∧ G 58 0 0 1 = 0) {P : Nat} (hP : P < 256) (e0 : F 17 r 0 0 = nI P) (e27 : G 30 0 0 27 = laP P) (e26 : G 30 0 0 26 = nI (cnP P)) : AcR r (apP F r cd) (mtP G (cnP P) cd) := by
  have pc := pat_c ⟨P, hP⟩
  dsimp only at pc
  unfold apP mtP
  by_cases hl : 97 ≤ cd ∧ cd < 105
  · have pa := pat_a ⟨P, hP⟩ ⟨cd - 97, by omega⟩
    have pb := pat_b ⟨P, hP⟩ ⟨cd - 97, by omega⟩
    dsimp only at pa pb
    rw [if_pos hl, e0, e27]
    by_cases h1 : nI P >>> (nI (cd - 97) &&& 31) = 0 ∧ bcI (nI P) < nI 4
    · have h2 : ¬ nI (cd - 97) ≤ laP P ∧ cnP P < 4 := by
        rw [decide_eq_true h1.1, decide_eq_true h1.2] at pa
        simpa using pa.symm
      obtain ⟨b1, b2, b3, b4⟩ := pb h1.1
      rw [if_pos h1.1, if_pos h1.2, if_pos ⟨⟨hl.1, by omega⟩, h2.1, h2.2⟩]
      refine Or.inr ⟨_, _, rfl, rfl, 0, 0, 0, 0, k, by simp [xGo, ao1, ao3, ao9, xSg, xAo, xAr, xAp, sS, rS, fr, upd]; exact hp, by simp [xGo, ao1, ao3, ao9, xSg, xAo, xAr, xAp, sS, rS, fr, upd]; exact hs, ?_, Or.inl ⟨rfl, rfl, rfl, rfl, by simp [xGo, ao1, ao3, ao9, xSg, xAo, xAr, xAp, sS, rS, fr, upd]; exact g31, ⟨by simp [xGo, ao1, ao3, ao9, xSg, xAo, xAr, xAp, sS, rS, fr, upd]; exact hd.1, by simp [xGo, ao1, ao3, ao9, xSg, xAo, xAr, xAp, sS, rS, fr, upd]; exact hd.2.1, by simp [xGo, ao1, ao3, ao9, xSg, xAo, xAr, xAp, sS, rS, fr, upd]; exact hd.2.2.1, by simp [xGo, ao1, ao3, ao9, xSg, xAo, xAr, xAp, sS, rS, fr, upd]; exact hd.2.2.2⟩, P + 2 ^ (cd - 97), b2, by rw [fr_s, upd_s]; exact b1, by rw [sS_n (by omega), sS_s]; exact b3.symm, by rw [sS_s, b4]⟩⟩
      obtain ⟨a1, a2, a3, a4, a5, a6, a7, a8⟩ := hB
      refine ⟨by simp [xGo, ao1, ao3, ao9, xSg, xAo, xAr, xAp, sS, rS, fr, upd]; exact a1, a2, by rw [fr_s, upd_s, sS_n (by omega), sS_n (by omega), sS_s, ← a3, e0], by simp [xGo, ao1, ao3, ao9, xSg, xAo, xAr, xAp, sS, rS, fr, upd]; exact a4, by simp [xGo, ao1, ao3, ao9, xSg, xAo, xAr, xAp, sS, rS, fr, upd]; exact a5, fun o ho => absurd ho (by omega), Or.inl rfl, fun c hc hu => ?_⟩
      rw [fr_s, upd_n (by omega)] at hu
      obtain ⟨z, hz, _⟩ := a8 c hc hu
      exact absurd hz (by omega)
    · have h2 : ¬ (¬ nI (cd - 97) ≤ laP P ∧ cnP P < 4) := by
        intro z
        have e : (!decide (nI (cd - 97) ≤ laP P) && decide (cnP P < 4)) = true := by simp [z.1, z.2]
        rw [e, Bool.and_eq_true, decide_eq_true_iff, decide_eq_true_iff] at pa
        exact h1 pa
      left
      constructor
      · by_cases h3 : nI P >>> (nI (cd - 97) &&& 31) = 0
        · rw [if_pos h3, if_neg (fun z => h1 ⟨h3, z⟩)]
        · rw [if_neg h3]
      · rw [if_neg (fun z => h2 z.2), if_neg (by omega)]
  · have hx : ¬ ((97 ≤ cd ∧ cd ≤ 104) ∧ ¬ nI (cd - 97) ≤ G 30 0 0 27 ∧ cnP P < 4) := fun z => hl ⟨z.1.1, by have := z.1.2; omega⟩
    rw [if_neg hl, if_neg hx, e0]
    by_cases h0 : nI P = 0
    · rw [if_pos h0, if_neg (fun z => by have := pc.1.mp h0; omega)]
      exact Or.inl ⟨rfl, rfl⟩
    · have hn : 0 < cnP P := Nat.pos_of_ne_zero (fun z => h0 (pc.1.mpr z))
      rw [if_neg h0]
      by_cases h1 : cd = 63
      · rw [if_pos h1, if_pos ⟨hn, Or.inl h1⟩, if_pos h1]
        exact Or.inr ⟨_, _, rfl, rfl, 1, 1, 0, 0, k, by simp [xGo, ao1, ao3, ao9, xSg, xAo, xAr, xAp, sS, rS, fr, upd], by simp [xGo, ao1, ao3, ao9, xSg, xAo, xAr, xAp, sS, rS, fr, upd], hB.go (fun k i j h => by simp [xGo, ao1, fr, h]) (fun k i j h h2 => by simp [sS, rS, fr, h, h2]) (by simp [xGo, ao1, ao3, ao9, xSg, xAo, xAr, xAp, sS, rS, fr, upd]) (by simp [xGo, ao1, ao3, ao9, xSg, xAo, xAr, xAp, sS, rS, fr, upd]) (by simp [xGo, ao1, ao3, ao9, xSg, xAo, xAr, xAp, sS, rS, fr, upd]), Or.inr (Or.inl ⟨rfl, rfl, rfl, rfl, by simp [xGo, ao1, ao3, ao9, xSg, xAo, xAr, xAp, sS, rS, fr, upd]; exact g31⟩)⟩
      · rw [if_neg h1]
        by_cases h2 : cd = 58
        · rw [if_pos h2, if_pos ⟨hn, Or.inr h2⟩, if_neg h1]
          refine Or.inr ⟨_, _, rfl, rfl, 5, 5, 0, 0, k, by simp [xGo, ao1, ao3, ao9, xSg, xAo, xAr, xAp, sS, rS, fr, upd], by simp [xGo, ao1, ao3, ao9, xSg, xAo, xAr, xAp, sS, rS, fr, upd], hB.go (fun k i j h => by simp [xGo, ao1, fr, h]) (fun k i j h h2 => by simp [sS, rS, fr, h, h2]) (by simp [xGo, ao1, ao3, ao9, xSg, xAo, xAr, xAp, sS, rS, fr, upd]) (by simp [xGo, ao1, ao3, ao9, xSg, xAo, xAr, xAp, sS, rS, fr, upd]) (by simp [xGo, ao1, ao3, ao9, xSg, xAo, xAr, xAp, sS, rS, fr, upd]), Or.inr (Or.inr (Or.inr (Or.inr (Or.inr (Or.inl (⟨rfl, rfl, rfl, rfl, by simp [xGo, ao1, ao3, ao9, xSg, xAo, xAr, xAp, sS, rS, fr, upd]; exact g31, ?_⟩))))))⟩
          exact guD.go (F := F) (G := G) (Or.inl ⟨hd.2.2.2, hd.1, hd.2.1, hd.2.2.1⟩) (fun k i j h => by simp [xGo, ao1, fr, h]) (by simp [xGo, ao1, ao3, ao9, xSg, xAo, xAr, xAp, sS, rS, fr, upd])
        · rw [if_neg h2, if_neg (fun z => z.2.elim h1 h2)]
          exact Or.inl ⟨rfl, rfl⟩
theorem acc_1 (hcd : cd < 1000) (hB : BsR F r G 0 0 k) (g31 : G 30 0 0 31 = 0) : AcR r ((opN (F 17 r 0 0) cd).map (fun a => ao1 F a)) (mtG G 0 cd) := by
  unfold mtG
  rw [← hB.2.2.1]
  rcases op_eq (p := F 17 r 0 0) hcd with ⟨h1, h2⟩ | ⟨a, h1, h2, h3, h4, h5⟩
  · rw [h1, if_neg h2]
    exact Or.inl ⟨rfl, rfl⟩
  · rw [h1, if_pos h2, h3]
    exact Or.inr ⟨_, _, rfl, rfl, 2, 2, 0, 0, k, by simp [xGo, ao1, ao3, ao9, xSg, xAo, xAr, xAp, sS, rS, fr, upd], by simp [xGo, ao1, ao3, ao9, xSg, xAo, xAr, xAp, sS, rS, fr, upd], hB.go (fun k i j h => by simp [xGo, ao1, fr, h]) (fun k i j h h2 => by simp [sS, rS, fr, h, h2]) (by simp [xGo, ao1, ao3, ao9, xSg, xAo, xAr, xAp, sS, rS, fr, upd]) (by simp [xGo, ao1, ao3, ao9, xSg, xAo, xAr, xAp, sS, rS, fr, upd]) (by simp [xGo, ao1, ao3, ao9, xSg, xAo, xAr, xAp, sS, rS, fr, upd]), Or.inr (Or.inr (Or.inl (⟨rfl, rfl, rfl, rfl, by simp [xGo, ao1, ao3, ao9, xSg, xAo, xAr, xAp, sS, rS, fr, upd]; exact g31, a, h4, by simpa [xGo, ao1, fr, upd] using h5, by simp [xGo, ao1, ao3, ao9, xSg, xAo, xAr, xAp, sS, rS, fr, upd], by simp [xGo, ao1, ao3, ao9, xSg, xAo, xAr, xAp, sS, rS, fr, upd]⟩)))⟩
theorem acc_2 (hB : BsR F r G 0 0 k) (g31 : G 30 0 0 31 = 0) (ha : ∃ a, a < 18 ∧ (a < 8 → usP (F 17 r 0 0) (nI a)) ∧ F 2 0 0 2 = nI a ∧ G 58 0 0 0 = nI a) : AcR r (agP F cd) (mtH G cd) := by
  obtain ⟨a, h4, h5, h6, h7⟩ := ha
  unfold agP mtH
  by_cases h : cd = 60 ∨ cd = 61 ∨ cd = 62
  · rw [if_pos h, if_pos h]
    refine Or.inr ⟨_, _, rfl, rfl, 3, 3, 0, 0, k, by simp [xGo, ao1, ao3, ao9, xSg, xAo, xAr, xAp, sS, rS, fr, upd], by simp [xGo, ao1, ao3, ao9, xSg, xAo, xAr, xAp, sS, rS, fr, upd], hB.go (fun k i j h => by simp [xGo, ao1, fr, h]) (fun k i j h h2 => by simp [sS, rS, fr, h, h2]) (by simp [xGo, ao1, ao3, ao9, xSg, xAo, xAr, xAp, sS, rS, fr, upd]) (by simp [xGo, ao1, ao3, ao9, xSg, xAo, xAr, xAp, sS, rS, fr, upd]) (by simp [xGo, ao1, ao3, ao9, xSg, xAo, xAr, xAp, sS, rS, fr, upd]), Or.inr (Or.inr (Or.inr (Or.inl (⟨rfl, rfl, rfl, rfl, by simp [xGo, ao1, ao3, ao9, xSg, xAo, xAr, xAp, sS, rS, fr, upd]; exact g31, ⟨a, h4, by simpa [xGo, fr, upd] using h5, by simp [xGo, ao1, ao3, ao9, xSg, xAo, xAr, xAp, sS, rS, fr, upd]; exact h6, by simp [xGo, ao1, ao3, ao9, xSg, xAo, xAr, xAp, sS, rS, fr, upd]; exact h7⟩, by simp [xGo, ao1, ao3, ao9, xSg, xAo, xAr, xAp, sS, rS, fr, upd], ?_⟩))))⟩
    rw [rS_s, upd_s]
    rcases h with h | h | h
    · exact Or.inl (by rw [h])
    · exact Or.inr (Or.inl (by rw [h]))
    · exact Or.inr (Or.inr (by rw [h]))
  · rw [if_neg h, if_neg h]
    exact Or.inl ⟨rfl, rfl⟩
theorem acc_3 (hcd : cd < 1000) (hB : BsR F r G 0 0 k) (g31 : G 30 0 0 31 = 0) (ha : ∃ a, a < 18 ∧ (a < 8 → usP (F 17 r 0 0) (nI a)) ∧ F 2 0 0 2 = nI a ∧ G 58 0 0 0 = nI a) (h8 : F 2 0 0 3 = G 58 0 0 1) (h9 : G 58 0 0 1 = nI 60 ∨ G 58 0 0 1 = nI 61 ∨ G 58 0 0 1 = nI 62) : AcR r ((opN (F 17 r 0 0) cd).map (fun a => ao3 F r a)) (mtG G 2 cd) := by
  obtain ⟨a, h4, h5, h6, h7⟩ := ha
  unfold mtG
  rw [← hB.2.2.1]
  rcases op_eq (p := F 17 r 0 0) hcd with ⟨h1, h2⟩ | ⟨b, h1, h2, h3, b4, b5⟩
  · rw [h1, if_neg h2]
    exact Or.inl ⟨rfl, rfl⟩
  · rw [h1, if_pos h2, h3]
    refine Or.inr ⟨ao3 F r b, _, rfl, rfl, 4, 4, 0, 0, k, by simp [xGo, ao1, ao3, ao9, xSg, xAo, xAr, xAp, sS, rS, fr, upd], by simp [xGo, ao1, ao3, ao9, xSg, xAo, xAr, xAp, sS, rS, fr, upd], hB.row (by simp [xGo, ao1, ao3, ao9, xSg, xAo, xAr, xAp, sS, rS, fr, upd]) (by simp [xGo, ao1, ao3, ao9, xSg, xAo, xAr, xAp, sS, rS, fr, upd]) (by simp [xGo, ao1, ao3, ao9, xSg, xAo, xAr, xAp, sS, rS, fr, upd]) (fun k h1 h2 => by simp [ao3, xGo, xSg, fr, (show k ≠ 2 by omega), (show k ≠ 17 by omega)]) (by simp [xGo, ao1, ao3, ao9, xSg, xAo, xAr, xAp, sS, rS, fr, upd]) (by simp [xGo, ao1, ao3, ao9, xSg, xAo, xAr, xAp, sS, rS, fr, upd]) (by simp [xGo, ao1, ao3, ao9, xSg, xAo, xAr, xAp, sS, rS, fr, upd]) (fun k h1 h2 => by simp [rS, sS, fr, (show k ≠ 58 by omega), (show k ≠ 30 by omega)]), Or.inr (Or.inr (Or.inr (Or.inr (Or.inl (⟨rfl, rfl, rfl, rfl, by simp [xGo, ao1, ao3, ao9, xSg, xAo, xAr, xAp, sS, rS, fr, upd]; exact g31, ?_⟩)))))⟩
    have f17 : ao3 F r b 17 r 0 = upd (upd (upd (F 17 r 0) 1 (if nI b < nI a then nI b else nI a)) 3 (if nI b < nI a then nI a else nI b)) 2 (if nI b < nI a then mirS (G 58 0 0 1) else G 58 0 0 1) := by
      unfold ao3
      rw [xGo_k (by omega), h6, h8]
      exact fr_s
    have g58 : rS (sS G 24 (nI (2 + 2))) 58 2 (nI b) 58 0 0 = upd (G 58 0 0) 2 (nI b) := by rw [rS_s, sS_k (by omega)]
    unfold guD
    rw [f17, g58, upd_n (by omega), upd_n (by omega), upd_n (by omega), upd_n (by omega), upd_n (by omega), upd_s, upd_s, upd_n (by omega), upd_s, upd_n (by omega), upd_n (by omega), upd_s]
    refine Or.inr ⟨a, b, h9, h7, h4, rfl, b4, h5, b5, ?_⟩
    by_cases hl : b < a
    · rw [if_pos ((nI_ltI (by omega) (by omega)).mpr hl), if_pos ((nI_ltI (by omega) (by omega)).mpr hl), if_pos ((nI_ltI (by omega) (by omega)).mpr hl)]
      exact Or.inr ⟨hl, rfl, rfl, rfl⟩
    · rw [if_neg (fun z => hl ((nI_ltI (by omega) (by omega)).mp z)), if_neg (fun z => hl ((nI_ltI (by omega) (by omega)).mp z)), if_neg (fun z => hl ((nI_ltI (by omega) (by omega)).mp z))]
      exact Or.inl ⟨by omega, rfl, rfl, rfl⟩
theorem acc_4 (hB : BsR F r G 0 0 k) (g31 : G 30 0 0 31 = 0) (hg : guD F r G) : AcR r (acP F cd) (mt4 G cd) := by
  unfold acP mt4
  by_cases h : cd = 58
  · rw [if_pos h, if_pos h]
    exact Or.inr ⟨_, _, rfl, rfl, 5, 5, 0, 0, k, by simp [xGo, ao1, ao3, ao9, xSg, xAo, xAr, xAp, sS, rS, fr, upd], by simp [xGo, ao1, ao3, ao9, xSg, xAo, xAr, xAp, sS, rS, fr, upd], hB.go (fun k i j h => by simp [xGo, ao1, fr, h]) (fun k i j h h2 => by simp [sS, rS, fr, h, h2]) (by simp [xGo, ao1, ao3, ao9, xSg, xAo, xAr, xAp, sS, rS, fr, upd]) (by simp [xGo, ao1, ao3, ao9, xSg, xAo, xAr, xAp, sS, rS, fr, upd]) (by simp [xGo, ao1, ao3, ao9, xSg, xAo, xAr, xAp, sS, rS, fr, upd]), Or.inr (Or.inr (Or.inr (Or.inr (Or.inr (Or.inl (⟨rfl, rfl, rfl, rfl, by simp [xGo, ao1, ao3, ao9, xSg, xAo, xAr, xAp, sS, rS, fr, upd]; exact g31, hg.go (fun k i j h => by simp [xGo, ao1, fr, h]) (by simp [xGo, ao1, ao3, ao9, xSg, xAo, xAr, xAp, sS, rS, fr, upd])⟩))))))⟩
  · rw [if_neg h, if_neg h]
    exact Or.inl ⟨rfl, rfl⟩
theorem acc_5 (hB : BsR F r G ro ro k) (hg : guD F r G) : AcR r (atP F r ro cd) (mtO G ro cd) := by
  unfold atP mtO
  by_cases h : cd = 33
  · rw [if_pos h, if_pos h]
    exact Or.inr ⟨_, _, rfl, rfl, 7, 6, ro, ro, k, by simp [xGo, ao1, ao3, ao9, xSg, xAo, xAr, xAp, sS, rS, fr, upd], by simp [xGo, ao1, ao3, ao9, xSg, xAo, xAr, xAp, sS, rS, fr, upd], hB.gup (fun k i j h => by simp [xGo, ao1, fr, h]) (by simp [xGo, ao1, ao3, ao9, xSg, xAo, xAr, xAp, sS, rS, fr, upd]) (by simp [xGo, ao1, ao3, ao9, xSg, xAo, xAr, xAp, sS, rS, fr, upd]) (by simp [xGo, ao1, ao3, ao9, xSg, xAo, xAr, xAp, sS, rS, fr, upd]) (fun o _ => by simp [xGo, ao1, ao3, ao9, xSg, xAo, xAr, xAp, sS, rS, fr, upd]) (fun o ho => by simp [sS, rS, fr, upd, (show o ≠ ro by omega)]) (fun n _ => by simp [xGo, ao1, ao3, ao9, xSg, xAo, xAr, xAp, sS, rS, fr, upd]) (fun n _ => by simp [xGo, ao1, ao3, ao9, xSg, xAo, xAr, xAp, sS, rS, fr, upd]), Or.inr (Or.inr (Or.inr (Or.inr (Or.inr (Or.inr (Or.inr (Or.inl (⟨rfl, rfl, rfl, by simp [xGo, ao1, ao3, ao9, xSg, xAo, xAr, xAp, sS, rS, fr, upd], hg.go (fun k i j h => by simp [xGo, ao1, fr, h]) (by simp [xGo, ao1, ao3, ao9, xSg, xAo, xAr, xAp, sS, rS, fr, upd])⟩))))))))⟩
  · rw [if_neg h, if_neg h]
    by_cases hl : 97 ≤ cd ∧ cd < 105
    · rw [if_pos hl, if_pos ⟨hl.1, by omega⟩]
      refine Or.inr ⟨_, _, rfl, rfl, 8, 7, ro, ro + 1, 0, by simp [xGo, ao1, ao3, ao9, xSg, xAo, xAr, xAp, sS, rS, fr, upd], by simp [xGo, ao1, ao3, ao9, xSg, xAo, xAr, xAp, sS, rS, fr, upd], ?_, Or.inr (Or.inr (Or.inr (Or.inr (Or.inr (Or.inr (Or.inr (Or.inr (Or.inl (⟨rfl, rfl, rfl, rfl, hg.row (by simp [xGo, ao1, ao3, ao9, xSg, xAo, xAr, xAp, sS, rS, fr, upd]) (by simp [xGo, ao1, ao3, ao9, xSg, xAo, xAr, xAp, sS, rS, fr, upd]) (by simp [xGo, ao1, ao3, ao9, xSg, xAo, xAr, xAp, sS, rS, fr, upd]) (by simp [xGo, ao1, ao3, ao9, xSg, xAo, xAr, xAp, sS, rS, fr, upd]) (by simp [xGo, ao1, ao3, ao9, xSg, xAo, xAr, xAp, sS, rS, fr, upd])⟩)))))))))⟩
      obtain ⟨a1, a2, a3, a4, a5, a6, a7, a8⟩ := hB
      refine ⟨by simp [xGo, ao1, ao3, ao9, xSg, xAo, xAr, xAp, sS, rS, fr, upd]; exact a1, a2, by simp [xGo, ao1, ao3, ao9, xSg, xAo, xAr, xAp, sS, rS, fr, upd]; exact a3, by simp [xGo, ao1, ao3, ao9, xSg, xAo, xAr, xAp, sS, rS, fr, upd]; exact a4, by simp [xGo, ao1, ao3, ao9, xSg, xAo, xAr, xAp, sS, rS, fr, upd], fun o ho => ?_, Or.inr ⟨rfl, ⟨cd - 97, by omega, by simp [xGo, ao1, ao3, ao9, xSg, xAo, xAr, xAp, sS, rS, fr, upd], Or.inl ⟨by simp [xGo, ao1, ao3, ao9, xSg, xAo, xAr, xAp, sS, rS, fr, upd]; exact nI_0, by simp [xGo, ao1, ao3, ao9, xSg, xAo, xAr, xAp, sS, rS, fr, upd]⟩⟩, by simp [xGo, ao1, ao3, ao9, xSg, xAo, xAr, xAp, sS, rS, fr, upd], by simp [xGo, ao1, ao3, ao9, xSg, xAo, xAr, xAp, sS, rS, fr, upd], by omega, fun j hj => absurd hj (by omega)⟩, fun c hc hu => ?_⟩
      · obtain ⟨k', b1, b2⟩ := a6 o ho
        have ne : o ≠ ro := by omega
        exact ⟨k', b1, b2.row (by simp [xGo, ao1, ao3, ao9, xSg, xAo, xAr, xAp, sS, rS, fr, upd]) (by simp [xGo, ao1, ao3, ao9, xSg, xAo, xAr, xAp, sS, rS, fr, upd]) (by simp [xGo, xAo, fr, upd, ne]) (by simp [xGo, xAo, fr, upd, ne]) (by simp [xGo, xAo, fr, upd, ne]) (fun j _ => by simp [xGo, ao1, ao3, ao9, xSg, xAo, xAr, xAp, sS, rS, fr, upd]) (fun j _ => by simp [xGo, ao1, ao3, ao9, xSg, xAo, xAr, xAp, sS, rS, fr, upd]) (by simp [sS, rS, fr, upd, ne]) (by simp [sS, rS, fr, upd, ne]) (fun j _ => by simp [xGo, ao1, ao3, ao9, xSg, xAo, xAr, xAp, sS, rS, fr, upd]) (fun j _ => by simp [xGo, ao1, ao3, ao9, xSg, xAo, xAr, xAp, sS, rS, fr, upd])⟩
      · have hu' : usP (F 17 r 0 4) (nI c) := by simpa [xGo, xAo, fr, upd] using hu
        obtain ⟨o, o1, o2, o3⟩ := a8 c hc hu'
        have ne : o ≠ ro := by omega
        exact ⟨o, by omega, by simp [xGo, xAo, fr, upd, ne]; exact o2, by simp [xGo, xAo, fr, upd, ne]; exact o3⟩
    · rw [if_neg hl, if_neg (fun z => hl ⟨z.1, by omega⟩)]
      exact Or.inl ⟨rfl, rfl⟩
theorem acc_7 (hB : BsR F r G ro ro k) (h63 : G 63 0 0 ro = nI 0) (hg : guD F r G) : AcR r (arP F r ro cd) (mtr G ro cd) := by
  unfold arP mtr ofP
  rw [← hB.2.2.1, ← hB.2.2.2.1]
  by_cases h : (97 ≤ cd ∧ cd < 105) ∧ cd - 97 < 4 ∧ usP (F 17 r 0 0) (nI (cd - 97)) ∧ ¬ usP (F 17 r 0 4) (nI (cd - 97))
  · rw [if_pos h, if_pos ⟨by omega, ⟨by omega, h.2.2.1⟩, h.2.2.2⟩]
    refine Or.inr ⟨_, _, rfl, rfl, 8, 7, ro, ro + 1, 0, by simp [xGo, ao1, ao3, ao9, xSg, xAo, xAr, xAp, sS, rS, fr, upd], by simp [xGo, ao1, ao3, ao9, xSg, xAo, xAr, xAp, sS, rS, fr, upd], ?_, Or.inr (Or.inr (Or.inr (Or.inr (Or.inr (Or.inr (Or.inr (Or.inr (Or.inl (⟨rfl, rfl, rfl, rfl, hg.row (by simp [xGo, ao1, ao3, ao9, xSg, xAo, xAr, xAp, sS, rS, fr, upd]) (by simp [xGo, ao1, ao3, ao9, xSg, xAo, xAr, xAp, sS, rS, fr, upd]) (by simp [xGo, ao1, ao3, ao9, xSg, xAo, xAr, xAp, sS, rS, fr, upd]) (by simp [xGo, ao1, ao3, ao9, xSg, xAo, xAr, xAp, sS, rS, fr, upd]) (by simp [xGo, ao1, ao3, ao9, xSg, xAo, xAr, xAp, sS, rS, fr, upd])⟩)))))))))⟩
    obtain ⟨a1, a2, a3, a4, a5, a6, a7, a8⟩ := hB
    have e4 : xGo (xAr F r ro (nI (cd - 97)) (nI 1)) (nI 8) 17 r 0 4 = F 17 r 0 4 ||| nI 1 <<< (nI (cd - 97) &&& 31) := by simp [xGo, ao1, ao3, ao9, xSg, xAo, xAr, xAp, sS, rS, fr, upd]
    have e0 : xGo (xAr F r ro (nI (cd - 97)) (nI 1)) (nI 8) 17 r 0 0 = F 17 r 0 0 := by simp [xGo, ao1, ao3, ao9, xSg, xAo, xAr, xAp, sS, rS, fr, upd]
    refine ⟨by simp [xGo, ao1, ao3, ao9, xSg, xAo, xAr, xAp, sS, rS, fr, upd]; exact a1, a2, by simp [xGo, ao1, ao3, ao9, xSg, xAo, xAr, xAp, sS, rS, fr, upd]; exact a3, by rw [e4, sS_s], by simp [xGo, ao1, ao3, ao9, xSg, xAo, xAr, xAp, sS, rS, fr, upd], fun o ho => ?_, Or.inr ⟨rfl, ⟨cd - 97, by omega, by simp [xGo, ao1, ao3, ao9, xSg, xAo, xAr, xAp, sS, rS, fr, upd], Or.inr ⟨by simp [xGo, ao1, ao3, ao9, xSg, xAo, xAr, xAp, sS, rS, fr, upd], ?_, by rw [e0]; exact h.2.2.1, by rw [e4]; exact (us_or (by omega) (by omega)).mpr (Or.inr rfl)⟩⟩, by simp [xGo, ao1, ao3, ao9, xSg, xAo, xAr, xAp, sS, rS, fr, upd], by simp [xGo, ao1, ao3, ao9, xSg, xAo, xAr, xAp, sS, rS, fr, upd]; exact h63, by omega, fun j hj => absurd hj (by omega)⟩, fun c hc hu => ?_⟩
    · obtain ⟨k', b1, ⟨t, t1, t2, t3⟩, b3, b4, b5, b6⟩ := a6 o ho
      have ne : o ≠ ro := by omega
      refine ⟨k', b1, ⟨t, t1, by simp [xGo, xAr, fr, upd, ne]; exact t2, ?_⟩, by simp [xGo, xAr, fr, upd, ne]; exact b3, by simp [sS, rS, fr, upd, ne]; exact b4, b5, fun j hj => ?_⟩
      · rcases t3 with ⟨t3, t4⟩ | ⟨t3, t4, t5, t6⟩
        · exact Or.inl ⟨by simp [xGo, xAr, fr, upd, ne]; exact t3, by simp [sS, rS, fr, upd, ne]; exact t4⟩
        · exact Or.inr ⟨by simp [xGo, xAr, fr, upd, ne]; exact t3, by simp [sS, rS, fr, upd, ne]; exact t4, by rw [e0]; exact t5, by rw [e4]; exact (us_or (by omega) (by omega)).mpr (Or.inl t6)⟩
      · have e21 : xGo (xAr F r ro (nI (cd - 97)) (nI 1)) (nI 8) 21 r 0 = F 21 r 0 := by simp [xGo, ao1, ao3, ao9, xSg, xAo, xAr, xAp, sS, rS, fr, upd]
        have e22 : xGo (xAr F r ro (nI (cd - 97)) (nI 1)) (nI 8) 22 r 0 = F 22 r 0 := by simp [xGo, ao1, ao3, ao9, xSg, xAo, xAr, xAp, sS, rS, fr, upd]
        rw [e0, e21, e22, sS_k (by omega), rS_k (by omega), sS_k (by omega), sS_k (by omega), rS_k (by omega), sS_k (by omega)]
        exact b6 j hj
    · rw [sS_k (by omega), rS_s, upd_s]
      congr 1
      omega
    · rw [e4] at hu
      rcases (us_or (by omega) (by omega)).mp hu with hu | hu
      · obtain ⟨o, o1, o2, o3⟩ := a8 c hc hu
        have ne : o ≠ ro := by omega
        exact ⟨o, by omega, by simp [xGo, xAr, fr, upd, ne]; exact o2, by simp [xGo, xAr, fr, upd, ne]; exact o3⟩
      · exact ⟨ro, by omega, by simp [xGo, ao1, ao3, ao9, xSg, xAo, xAr, xAp, sS, rS, fr, upd], by rw [hu]; simp [xGo, ao1, ao3, ao9, xSg, xAo, xAr, xAp, sS, rS, fr, upd]⟩
  · rw [if_neg h, if_neg (fun z => h ⟨by omega, by omega, z.2.1.2, z.2.2⟩)]
    exact Or.inl ⟨rfl, rfl⟩
theorem acc_8 (hB : BsR F r G ro (ro + 1) 0) (hg : guD F r G) : AcR r (aeP F cd) (mt7 G cd) := by
  unfold aeP mt7
  by_cases h : cd = 61
  · rw [if_pos h, if_pos h]
    exact Or.inr ⟨_, _, rfl, rfl, 9, 8, ro, ro + 1, 0, by simp [xGo, ao1, ao3, ao9, xSg, xAo, xAr, xAp, sS, rS, fr, upd], by simp [xGo, ao1, ao3, ao9, xSg, xAo, xAr, xAp, sS, rS, fr, upd], hB.go (fun k i j h => by simp [xGo, ao1, fr, h]) (fun k i j h h2 => by simp [sS, rS, fr, h, h2]) (by simp [xGo, ao1, ao3, ao9, xSg, xAo, xAr, xAp, sS, rS, fr, upd]) (by simp [xGo, ao1, ao3, ao9, xSg, xAo, xAr, xAp, sS, rS, fr, upd]) (by simp [xGo, ao1, ao3, ao9, xSg, xAo, xAr, xAp, sS, rS, fr, upd]), Or.inr (Or.inr (Or.inr (Or.inr (Or.inr (Or.inr (Or.inr (Or.inr (Or.inr (Or.inl (⟨rfl, rfl, rfl, by omega, hg.go (fun k i j h => by simp [xGo, ao1, fr, h]) (by simp [xGo, ao1, ao3, ao9, xSg, xAo, xAr, xAp, sS, rS, fr, upd]), Or.inl ⟨rfl, by simp [xGo, ao1, ao3, ao9, xSg, xAo, xAr, xAp, sS, rS, fr, upd]⟩⟩))))))))))⟩
  · rw [if_neg h, if_neg h]
    exact Or.inl ⟨rfl, rfl⟩
theorem acc_9 (hcd : cd < 1000) (hB : BsR F r G ro (ro + 1) k) (hk : k < 3) (hg : guD F r G) (hsg : (k = 0 ∧ F 2 0 0 3 = nI 43) ∨ (0 < k ∧ F 2 0 0 3 = G 65 0 0 (3 * ro + k) ∧ (F 2 0 0 3 = nI 43 ∨ F 2 0 0 3 = nI 45 ∨ F 2 0 0 3 = nI 42))) : AcR r ((opN (F 17 r 0 0) cd).map (fun a => ao9 F r (ro + 1) k a)) (mtp G ro k cd) := by
  unfold mtp
  rw [← hB.2.2.1]
  rcases op_eq (p := F 17 r 0 0) hcd with ⟨h1, h2⟩ | ⟨a, h1, h2, h3, b4, b5⟩
  · rw [h1, if_neg h2]
    exact Or.inl ⟨rfl, rfl⟩
  · rw [h1, if_pos h2, h3]
    refine Or.inr ⟨ao9 F r (ro + 1) k a, _, rfl, rfl, 10, 9, ro, ro + 1, k + 1, by simp [xGo, ao1, ao3, ao9, xSg, xAo, xAr, xAp, sS, rS, fr, upd], by simp [xGo, ao1, ao3, ao9, xSg, xAo, xAr, xAp, sS, rS, fr, upd], ?_, Or.inr (Or.inr (Or.inr (Or.inr (Or.inr (Or.inr (Or.inr (Or.inr (Or.inr (Or.inr ⟨rfl, rfl, rfl, by omega, hg.row (by simp [xGo, ao1, ao3, ao9, xSg, xAo, xAr, xAp, sS, rS, fr, upd]) (by simp [xGo, ao1, ao3, ao9, xSg, xAo, xAr, xAp, sS, rS, fr, upd]) (by simp [xGo, ao1, ao3, ao9, xSg, xAo, xAr, xAp, sS, rS, fr, upd]) (by simp [xGo, ao1, ao3, ao9, xSg, xAo, xAr, xAp, sS, rS, fr, upd]) (by simp [xGo, ao1, ao3, ao9, xSg, xAo, xAr, xAp, sS, rS, fr, upd])⟩)))))))))⟩
    obtain ⟨a1, a2, a3, a4, a5, a6, a7, a8⟩ := hB
    obtain ⟨c1, c2, c3, c4, c5⟩ : OtR F r G ro k := by
      rcases a7 with a7 | ⟨-, a7⟩
      · exact absurd a7 (by omega)
      · exact a7
    refine ⟨by simp [xGo, ao1, ao3, ao9, xSg, xAo, xAr, xAp, sS, rS, fr, upd]; exact a1, a2, by simp [xGo, ao1, ao3, ao9, xSg, xAo, xAr, xAp, sS, rS, fr, upd]; exact a3, by simp [xGo, ao1, ao3, ao9, xSg, xAo, xAr, xAp, sS, rS, fr, upd]; exact a4, by simp [xGo, ao1, ao3, ao9, xSg, xAo, xAr, xAp, sS, rS, fr, upd]; exact a5, fun o ho => ?_, Or.inr ⟨rfl, by simpa [xGo, ao9, xAp, sS, rS, fr, upd] using c1, by simp [xGo, ao1, ao3, ao9, xSg, xAo, xAr, xAp, sS, rS, fr, upd], by simp [xGo, ao1, ao3, ao9, xSg, xAo, xAr, xAp, sS, rS, fr, upd], by omega, fun j hj => ?_⟩, fun c hc hu => ?_⟩
    · obtain ⟨k', b1, b2⟩ := a6 o ho
      have hk3 := b2.2.2.2.1
      have ne : o ≠ ro := by omega
      exact ⟨k', b1, b2.row (by simp [xGo, ao1, ao3, ao9, xSg, xAo, xAr, xAp, sS, rS, fr, upd]) (by simp [xGo, ao1, ao3, ao9, xSg, xAo, xAr, xAp, sS, rS, fr, upd]) (by simp [xGo, ao1, ao3, ao9, xSg, xAo, xAr, xAp, sS, rS, fr, upd]) (by simp [xGo, ao1, ao3, ao9, xSg, xAo, xAr, xAp, sS, rS, fr, upd]) (by simp [xGo, ao9, xAp, fr, upd, ne]) (fun j hj => by simp [xGo, ao9, xAp, fr, upd, (show o * 3 + j ≠ ro * 3 + k by omega)]) (fun j hj => by simp [xGo, ao9, xAp, fr, upd, (show o * 3 + j ≠ ro * 3 + k by omega)]) (by simp [xGo, ao1, ao3, ao9, xSg, xAo, xAr, xAp, sS, rS, fr, upd]) (by simp [sS, rS, fr, upd, ne]) (fun j hj => by simp [sS, rS, fr, upd, (show 3 * o + j ≠ 3 * ro + k by omega)]) (fun j hj => by simp [xGo, ao1, ao3, ao9, xSg, xAo, xAr, xAp, sS, rS, fr, upd])⟩
    · by_cases e : j = k
      · subst e
        refine ⟨a, by simp [xGo, ao1, ao3, ao9, xSg, xAo, xAr, xAp, sS, rS, fr, upd], by simp [xGo, ao1, ao3, ao9, xSg, xAo, xAr, xAp, sS, rS, fr, upd], b4, fun z => by simpa [xGo, ao9, xAp, fr, upd] using b5 z, ?_⟩
        rcases hsg with ⟨s1, s2⟩ | ⟨s1, s2, s3⟩
        · exact Or.inl ⟨s1, by simp [xGo, ao1, ao3, ao9, xSg, xAo, xAr, xAp, sS, rS, fr, upd]; exact s2⟩
        · exact Or.inr ⟨s1, by simp [xGo, ao1, ao3, ao9, xSg, xAo, xAr, xAp, sS, rS, fr, upd]; exact s2, by simpa [xGo, ao9, xAp, fr, upd] using s3⟩
      · have h9 := c5 j (by omega)
        have n1 : ro * 3 + j ≠ ro * 3 + k := by omega
        have n2 : 3 * ro + j ≠ 3 * ro + k := by omega
        have x1 : ao9 F r (ro + 1) k a 22 r 0 (ro * 3 + j) = F 22 r 0 (ro * 3 + j) := by simp [xGo, ao9, xAp, fr, upd, e]
        have x2 : ao9 F r (ro + 1) k a 21 r 0 (ro * 3 + j) = F 21 r 0 (ro * 3 + j) := by simp [xGo, ao9, xAp, fr, upd, e]
        have x3 : ao9 F r (ro + 1) k a 17 r 0 0 = F 17 r 0 0 := by simp [xGo, ao1, ao3, ao9, xSg, xAo, xAr, xAp, sS, rS, fr, upd]
        rw [x1, x2, x3, rS_k (by omega), rS_s, upd_n n2, sS_k (by omega), rS_k (by omega), rS_k (by omega), sS_k (by omega)]
        exact h9
    · have hu' : usP (F 17 r 0 4) (nI c) := by simpa [xGo, ao9, xAp, fr, upd] using hu
      obtain ⟨o, o1, o2, o3⟩ := a8 c hc hu'
      exact ⟨o, o1, by simp [xGo, ao1, ao3, ao9, xSg, xAo, xAr, xAp, sS, rS, fr, upd]; exact o2, by simp [xGo, ao1, ao3, ao9, xSg, xAo, xAr, xAp, sS, rS, fr, upd]; exact o3⟩
theorem acc_10 (hB : BsR F r G ro (ro + 1) k) (hk : 0 < k) (hg : guD F r G) : AcR r (abP F (ro + 1) k cd) (mtb G ro k cd) := by
  have hO : OtR F r G ro k := by
    rcases hB.2.2.2.2.2.2.1 with a7 | ⟨-, a7⟩
    · exact absurd a7 (by omega)
    · exact a7
  have hk3 := hO.2.2.2.1
  unfold abP mtb
  by_cases h : cd = 44
  · rw [if_pos h, if_pos h]
    by_cases h4 : ro + 1 < 4
    · rw [if_pos h4, if_pos h4]
      refine Or.inr ⟨_, _, rfl, rfl, 6, 5, ro + 1, ro + 1, k, by simp [xGo, ao1, ao3, ao9, xSg, xAo, xAr, xAp, sS, rS, fr, upd], by simp [xGo, ao1, ao3, ao9, xSg, xAo, xAr, xAp, sS, rS, fr, upd], ?_, Or.inr (Or.inr (Or.inr (Or.inr (Or.inr (Or.inr (Or.inl (⟨rfl, rfl, rfl, by simp [xGo, ao1, ao3, ao9, xSg, xAo, xAr, xAp, sS, rS, fr, upd], hg.go (fun k i j h => by simp [xGo, ao1, fr, h]) (by simp [xGo, ao1, ao3, ao9, xSg, xAo, xAr, xAp, sS, rS, fr, upd])⟩)))))))⟩
      obtain ⟨a1, a2, a3, a4, a5, a6, a7, a8⟩ := hB
      have hF : ∀ k i j, k ≠ 2 → xGo F (nI 6) k i j = F k i j := fun k i j h => xGo_k h
      have hG : ∀ k i j, k ≠ 30 → sS (sS (sS G 29 (nI (ro + 1))) 24 (nI 5)) 31 (nI 1) k i j = G k i j := fun k i j h => by rw [sS_k h, sS_k h, sS_k h]
      refine ⟨by simp [xGo, ao1, ao3, ao9, xSg, xAo, xAr, xAp, sS, rS, fr, upd], h4, by simp [xGo, ao1, ao3, ao9, xSg, xAo, xAr, xAp, sS, rS, fr, upd]; exact a3, by simp [xGo, ao1, ao3, ao9, xSg, xAo, xAr, xAp, sS, rS, fr, upd]; exact a4, by simp [xGo, ao1, ao3, ao9, xSg, xAo, xAr, xAp, sS, rS, fr, upd]; exact a5, fun o ho => ?_, Or.inl rfl, ?_⟩
      · by_cases e : o = ro
        · subst e
          exact ⟨k, hk, hO.row' (by rw [hF _ _ _ (by omega)]) (by rw [hF _ _ _ (by omega)]) (fun k h1 h2 => hF _ _ _ (by omega)) (fun k h1 h2 => hG _ _ _ (by omega))⟩
        · obtain ⟨k', b1, b2⟩ := a6 o (by omega)
          exact ⟨k', b1, b2.row' (by rw [hF _ _ _ (by omega)]) (by rw [hF _ _ _ (by omega)]) (fun k h1 h2 => hF _ _ _ (by omega)) (fun k h1 h2 => hG _ _ _ (by omega))⟩
      · rw [hF 17 r 0 (by omega), hF 19 r 0 (by omega), hF 18 r 0 (by omega)]
        exact a8
    · rw [if_neg h4, if_neg h4]
      exact Or.inl ⟨rfl, rfl⟩
  · rw [if_neg h, if_neg h]
    by_cases h3 : k = 3
    · rw [if_pos h3, if_neg (by omega)]
      exact Or.inl ⟨rfl, rfl⟩
    · rw [if_neg h3]
      by_cases h5 : cd = 43 ∨ cd = 45 ∨ cd = 42
      · rw [if_pos ⟨h5, by omega⟩, if_pos h5]
        refine Or.inr ⟨_, _, rfl, rfl, 9, 8, ro, ro + 1, k, by simp [xGo, ao1, ao3, ao9, xSg, xAo, xAr, xAp, sS, rS, fr, upd], by simp [xGo, ao1, ao3, ao9, xSg, xAo, xAr, xAp, sS, rS, fr, upd], hB.gup (fun k i j h => by simp [xGo, ao1, fr, h]) (by simp [xGo, ao1, ao3, ao9, xSg, xAo, xAr, xAp, sS, rS, fr, upd]) (by simp [xGo, ao1, ao3, ao9, xSg, xAo, xAr, xAp, sS, rS, fr, upd]) (by simp [xGo, ao1, ao3, ao9, xSg, xAo, xAr, xAp, sS, rS, fr, upd]) (fun o _ => by simp [xGo, ao1, ao3, ao9, xSg, xAo, xAr, xAp, sS, rS, fr, upd]) (fun o ho => by simp [xGo, ao1, ao3, ao9, xSg, xAo, xAr, xAp, sS, rS, fr, upd]) (fun n _ => by simp [xGo, ao1, ao3, ao9, xSg, xAo, xAr, xAp, sS, rS, fr, upd]) (fun n hn => by simp [sS, rS, fr, upd, (show n ≠ 3 * ro + k by omega)]), Or.inr (Or.inr (Or.inr (Or.inr (Or.inr (Or.inr (Or.inr (Or.inr (Or.inr (Or.inl (⟨rfl, rfl, rfl, by omega, hg.go (fun k i j h => by simp [xGo, ao1, fr, h]) (by simp [xGo, ao1, ao3, ao9, xSg, xAo, xAr, xAp, sS, rS, fr, upd]), Or.inr ⟨hk, by simp [xGo, ao1, ao3, ao9, xSg, xAo, xAr, xAp, sS, rS, fr, upd], ?_⟩⟩))))))))))⟩
        have e : xGo (fr F 2 0 0 (upd (F 2 0 0) 3 (nI cd))) (nI 9) 2 0 0 3 = nI cd := by simp [xGo, ao1, ao3, ao9, xSg, xAo, xAr, xAp, sS, rS, fr, upd]
        rw [e]
        rcases h5 with h | h | h
        · exact Or.inl (by rw [h])
        · exact Or.inr (Or.inl (by rw [h]))
        · exact Or.inr (Or.inr (by rw [h]))
      · rw [if_neg (fun z => h5 z.1), if_neg h5]
        exact Or.inl ⟨rfl, rfl⟩
end