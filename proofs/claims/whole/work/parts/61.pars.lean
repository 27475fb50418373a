theorem us_or {x : Int32} {c d : Nat} (hc : c < 32) (hd : d < 32) : usP (x ||| nI 1 <<< (nI c &&& 31)) (nI d) ↔ usP x (nI d) ∨ d = c := by
  rw [bitU hd, bitU hd, Int32.toBitVec_or, BitVec.getLsbD_or, shl1 hc hd]
  simp
/-- the greatest letter of a pattern, the number of its letters -/
def laP (P : Nat) : Int32 := if P = 0 then -1 else nI (Nat.log2 P)
def cnP (P : Nat) : Nat := P % 2 + P / 2 % 2 + P / 4 % 2 + P / 8 % 2 + P / 16 % 2 + P / 32 % 2 + P / 64 % 2 + P / 128 % 2
theorem pat_a : ∀ P : Fin 256, ∀ c : Fin 8, (decide (nI P.1 >>> (nI c.1 &&& 31) = 0) && decide (bcI (nI P.1) < nI 4)) = (!decide (nI c.1 ≤ laP P.1) && decide (cnP P.1 < 4)) := by decide +kernel
theorem pat_b : ∀ P : Fin 256, ∀ c : Fin 8, (nI P.1 >>> (nI c.1 &&& 31) = 0) → nI P.1 ||| nI 1 <<< (nI c.1 &&& 31) = nI (P.1 + 2 ^ c.1) ∧ P.1 + 2 ^ c.1 < 256 ∧ laP (P.1 + 2 ^ c.1) = nI c.1 ∧ cnP (P.1 + 2 ^ c.1) = cnP P.1 + 1 := by decide +kernel
theorem pat_c : ∀ P : Fin 256, (nI P.1 = 0 ↔ cnP P.1 = 0) ∧ cnP P.1 ≤ 8 := by decide +kernel
def OtR (F : xFm) (r : Nat) (G : xFm) (o k : Nat) : Prop := OuR (F 17 r 0 0) (F 17 r 0 4) (F 18 r 0 o) (F 19 r 0 o) (G 62 0 0 o) ∧ F 20 r 0 o = nI k ∧ G 63 0 0 o = nI k ∧ k ≤ 3 ∧ ∀ j, j < k → OpR (F 17 r 0 0) j (F 22 r 0 (o * 3 + j)) (F 21 r 0 (o * 3 + j)) (G 64 0 0 (3 * o + j)) (G 65 0 0 (3 * o + j))
def BsR (F : xFm) (r : Nat) (G : xFm) (ro m k : Nat) : Prop := G 30 0 0 29 = nI ro ∧ ro < 4 ∧ F 17 r 0 0 = G 30 0 0 25 ∧ F 17 r 0 4 = G 30 0 0 30 ∧ F 17 r 0 5 = nI m ∧ (∀ o, o < ro → ∃ k', 0 < k' ∧ OtR F r G o k') ∧ (m = ro ∨ (m = ro + 1 ∧ OtR F r G ro k)) ∧ ∀ c, c < 8 → usP (F 17 r 0 4) (nI c) → ∃ o, o < m ∧ F 19 r 0 o = nI 1 ∧ F 18 r 0 o = nI c
def guD (F : xFm) (r : Nat) (G : xFm) : Prop := GuR (F 17 r 0 0) (F 17 r 0 1) (F 17 r 0 2) (F 17 r 0 3) (G 58 0 0 0) (G 58 0 0 1) (G 58 0 0 2)
def CsR (F : xFm) (r : Nat) (G : xFm) (p s ro m k : Nat) : Prop :=
  (p = 0 ∧ s = 0 ∧ ro = 0 ∧ m = 0 ∧ G 30 0 0 31 = 0 ∧ (F 17 r 0 1 = nI 8 ∧ F 17 r 0 2 = nI 61 ∧ F 17 r 0 3 = nI 8 ∧ G 58 0 0 1 = 0) ∧ ∃ P, P < 256 ∧ F 17 r 0 0 = nI P ∧ G 30 0 0 27 = laP P ∧ G 30 0 0 26 = nI (cnP P)) ∨
  (p = 1 ∧ s = 1 ∧ ro = 0 ∧ m = 0 ∧ G 30 0 0 31 = 0) ∨
  (p = 2 ∧ s = 2 ∧ ro = 0 ∧ m = 0 ∧ G 30 0 0 31 = 0 ∧ ∃ a, a < 18 ∧ (a < 8 → usP (F 17 r 0 0) (nI a)) ∧ F 2 0 0 2 = nI a ∧ G 58 0 0 0 = nI a) ∨
  (p = 3 ∧ s = 3 ∧ ro = 0 ∧ m = 0 ∧ G 30 0 0 31 = 0 ∧ (∃ a, a < 18 ∧ (a < 8 → usP (F 17 r 0 0) (nI a)) ∧ F 2 0 0 2 = nI a ∧ G 58 0 0 0 = nI a) ∧ F 2 0 0 3 = G 58 0 0 1 ∧ (G 58 0 0 1 = nI 60 ∨ G 58 0 0 1 = nI 61 ∨ G 58 0 0 1 = nI 62)) ∨
  (p = 4 ∧ s = 4 ∧ ro = 0 ∧ m = 0 ∧ G 30 0 0 31 = 0 ∧ guD F r G) ∨
  (p = 5 ∧ s = 5 ∧ ro = 0 ∧ m = 0 ∧ G 30 0 0 31 = 0 ∧ guD F r G) ∨
  (p = 6 ∧ s = 5 ∧ m = ro ∧ G 30 0 0 31 = nI 1 ∧ guD F r G) ∨
  (p = 7 ∧ s = 6 ∧ m = ro ∧ G 63 0 0 ro = nI 0 ∧ guD F r G) ∨
  (p = 8 ∧ s = 7 ∧ m = ro + 1 ∧ k = 0 ∧ guD F r G) ∨
  (p = 9 ∧ s = 8 ∧ m = ro + 1 ∧ k < 3 ∧ guD F r G ∧ ((k = 0 ∧ F 2 0 0 3 = nI 43) ∨ (0 < k ∧ F 2 0 0 3 = G 65 0 0 (3 * ro + k) ∧ (F 2 0 0 3 = nI 43 ∨ F 2 0 0 3 = nI 45 ∨ F 2 0 0 3 = nI 42)))) ∨
  (p = 10 ∧ s = 9 ∧ m = ro + 1 ∧ 0 < k ∧ guD F r G)
/-- the reader of the class against the reference's reading -/
def PsR (F : xFm) (r : Nat) (G : xFm) : Prop := ∃ p s ro m k : Nat, F 2 0 0 1 = nI p ∧ G 30 0 0 24 = nI s ∧ BsR F r G ro m k ∧ CsR F r G p s ro m k
def AcR (r : Nat) (x y : Option xFm) : Prop := (x = none ∧ y = none) ∨ ∃ F' G', x = some F' ∧ y = some G' ∧ PsR F' r G'
theorem sS_s {G : xFm} {n : Nat} {x : Int32} : sS G n x 30 0 0 n = x := by unfold sS; rw [fr_s, upd_s]
theorem sS_n {G : xFm} {n m : Nat} {x : Int32} (h : m ≠ n) : sS G n x 30 0 0 m = G 30 0 0 m := by unfold sS; rw [fr_s, upd_n h]
theorem sS_k {G : xFm} {n k i j : Nat} {x : Int32} (h : k ≠ 30) : sS G n x k i j = G k i j := fr_k h
theorem rS_s {G : xFm} {k n : Nat} {x : Int32} : rS G k n x k 0 0 = upd (G k 0 0) n x := fr_s
theorem rS_k {G : xFm} {k n k' i j : Nat} {x : Int32} (h : k' ≠ k) : rS G k n x k' i j = G k' i j := fr_k h
theorem xGo_s {F : xFm} {x : Int32} : xGo F x 2 0 0 = upd (F 2 0 0) 1 x := fr_s
theorem xGo_k {F : xFm} {x : Int32} {k i j : Nat} (h : k ≠ 2) : xGo F x k i j = F k i j := fr_k h
section
variable {F F' G G' : xFm} {r ro m k : Nat}
theorem OtR.row {o : Nat} (h : OtR F r G o k) (e0 : F' 17 r 0 0 = F 17 r 0 0) (e4 : F' 17 r 0 4 = F 17 r 0 4) (e18 : F' 18 r 0 o = F 18 r 0 o) (e19 : F' 19 r 0 o = F 19 r 0 o) (e20 : F' 20 r 0 o = F 20 r 0 o) (e21 : ∀ j, j < k → F' 21 r 0 (o * 3 + j) = F 21 r 0 (o * 3 + j)) (e22 : ∀ j, j < k → F' 22 r 0 (o * 3 + j) = F 22 r 0 (o * 3 + j)) (g62 : G' 62 0 0 o = G 62 0 0 o) (g63 : G' 63 0 0 o = G 63 0 0 o) (g64 : ∀ j, j < k → G' 64 0 0 (3 * o + j) = G 64 0 0 (3 * o + j)) (g65 : ∀ j, j < k → G' 65 0 0 (3 * o + j) = G 65 0 0 (3 * o + j)) : OtR F' r G' o k := by
  obtain ⟨a1, a2, a3, a4, a5⟩ := h
  refine ⟨by rw [e0, e4, e18, e19, g62]; exact a1, by rw [e20]; exact a2, by rw [g63]; exact a3, a4, fun j hj => ?_⟩
  rw [e0, e21 j hj, e22 j hj, g64 j hj, g65 j hj]
  exact a5 j hj
theorem OtR.row' {o : Nat} (h : OtR F r G o k) (e0 : F' 17 r 0 0 = F 17 r 0 0) (e4 : F' 17 r 0 4 = F 17 r 0 4) (fk : ∀ k, 18 ≤ k → k ≤ 22 → F' k r 0 = F k r 0) (gk : ∀ k, 62 ≤ k → k ≤ 65 → G' k 0 0 = G k 0 0) : OtR F' r G' o k := by
  have a := fk 18 (by omega) (by omega)
  have b := fk 19 (by omega) (by omega)
  have c := fk 20 (by omega) (by omega)
  have d := fk 21 (by omega) (by omega)
  have e := fk 22 (by omega) (by omega)
  have s := gk 62 (by omega) (by omega)
  have t := gk 63 (by omega) (by omega)
  have u := gk 64 (by omega) (by omega)
  have v := gk 65 (by omega) (by omega)
  exact h.row e0 e4 (by rw [a]) (by rw [b]) (by rw [c]) (fun j _ => by rw [d]) (fun j _ => by rw [e]) (by rw [s]) (by rw [t]) (fun j _ => by rw [u]) (fun j _ => by rw [v])
theorem BsR.row (h : BsR F r G ro m k) (e0 : F' 17 r 0 0 = F 17 r 0 0) (e4 : F' 17 r 0 4 = F 17 r 0 4) (e5 : F' 17 r 0 5 = F 17 r 0 5) (fk : ∀ k, 18 ≤ k → k ≤ 22 → F' k r 0 = F k r 0) (g25 : G' 30 0 0 25 = G 30 0 0 25) (g29 : G' 30 0 0 29 = G 30 0 0 29) (g30 : G' 30 0 0 30 = G 30 0 0 30) (gk : ∀ k, 62 ≤ k → k ≤ 65 → G' k 0 0 = G k 0 0) : BsR F' r G' ro m k := by
  obtain ⟨a1, a2, a3, a4, a5, a6, a7, a8⟩ := h
  refine ⟨by rw [g29]; exact a1, a2, by rw [e0, g25]; exact a3, by rw [e4, g30]; exact a4, by rw [e5]; exact a5, fun o ho => ?_, ?_, ?_⟩
  · obtain ⟨k', b1, b2⟩ := a6 o ho
    exact ⟨k', b1, b2.row' e0 e4 fk gk⟩
  · rcases a7 with a7 | ⟨a7, a9⟩
    · exact Or.inl a7
    · exact Or.inr ⟨a7, a9.row' e0 e4 fk gk⟩
  · rw [e4, fk 19 (by omega) (by omega), fk 18 (by omega) (by omega)]
    exact a8
theorem guD.row (h : guD F r G) (e0 : F' 17 r 0 0 = F 17 r 0 0) (e1 : F' 17 r 0 1 = F 17 r 0 1) (e2 : F' 17 r 0 2 = F 17 r 0 2) (e3 : F' 17 r 0 3 = F 17 r 0 3) (g58 : G' 58 0 0 = G 58 0 0) : guD F' r G' := by
  unfold guD
  rw [e0, e1, e2, e3, g58]
  exact h
/-- neither the rule read so far nor the reference's rows change but place and stage -/
theorem BsR.go (h : BsR F r G ro m k) (hF : ∀ k i j, k ≠ 2 → F' k i j = F k i j) (hG : ∀ k i j, k ≠ 30 → k ≠ 58 → G' k i j = G k i j) (g25 : G' 30 0 0 25 = G 30 0 0 25) (g29 : G' 30 0 0 29 = G 30 0 0 29) (g30 : G' 30 0 0 30 = G 30 0 0 30) : BsR F' r G' ro m k :=
  h.row (by rw [hF _ _ _ (by omega)]) (by rw [hF _ _ _ (by omega)]) (by rw [hF _ _ _ (by omega)]) (fun k h1 h2 => hF _ _ _ (by omega)) g25 g29 g30 (fun k h1 h2 => hG _ _ _ (by omega) (by omega))
theorem guD.go (h : guD F r G) (hF : ∀ k i j, k ≠ 2 → F' k i j = F k i j) (g58 : G' 58 0 0 = G 58 0 0) : guD F' r G' :=
  h.row (by rw [hF _ _ _ (by omega)]) (by rw [hF _ _ _ (by omega)]) (by rw [hF _ _ _ (by omega)]) (by rw [hF _ _ _ (by omega)]) g58
/-- an operand read on both sides -/
theorem op_eq {p : Int32} {cd : Nat} (hcd : cd < 1000) : (opN p cd = none ∧ ¬ isO p cd) ∨ ∃ a, opN p cd = some a ∧ isO p cd ∧ oof cd = a ∧ a < 18 ∧ (a < 8 → usP p (nI a)) := by
  unfold opN isO ofP oof
  by_cases h1 : 48 ≤ cd ∧ cd ≤ 57
  · right
    refine ⟨8 + cd - 48, by rw [if_pos h1], Or.inr h1, by rw [if_neg (by omega)], by omega, fun z => by omega⟩
  · by_cases h2 : (97 ≤ cd ∧ cd < 105) ∧ usP p (nI (cd - 97))
    · right
      exact ⟨cd - 97, by rw [if_neg h1, if_pos h2], Or.inl ⟨⟨h2.1.1, by omega⟩, h2.2⟩, by rw [if_pos h2.1.1], by omega, fun _ => h2.2⟩
    · left
      refine ⟨by rw [if_neg h1, if_neg h2], fun z => ?_⟩
      rcases z with z | z
      · exact h2 ⟨⟨z.1.1, by omega⟩, z.2⟩
      · exact h1 z
end
