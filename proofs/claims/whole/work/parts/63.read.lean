section
variable {F G : xFm} {r cd : Nat}
theorem acc_R (h : PsR F r G) (hcd : cd < 1000) : AcR r (accF F r cd) (accM G cd) := by
  obtain ⟨p, s, ro, m, k, hp, hs, hB, hC⟩ := h
  have ro4 := hB.2.1
  have em : m ≤ 4 := by
    rcases hB.2.2.2.2.2.2.1 with z | ⟨z, -⟩ <;> omega
  have eo : oC F r = m := by unfold oC; rw [hB.2.2.2.2.1, nI_clamp (by omega)]
  have er : roM G = ro := by unfold roM; rw [hB.1, nI_clamp (by omega)]
  have ek : m = ro + 1 → kN F r = k ∧ szM G = k := by
    intro z
    rcases hB.2.2.2.2.2.2.1 with z1 | ⟨-, z1⟩
    · exact absurd z1 (by omega)
    · have k3 := z1.2.2.2.1
      constructor
      · unfold kN
        rw [eo, z, Nat.add_sub_cancel, z1.2.1, nI_clamp (by omega)]
      · unfold szM
        rw [er, z1.2.2.1, nI_clamp (by omega)]
  have ep : p < 11 → pC F = p := fun z => by unfold pC; rw [hp, nI_clamp (by omega)]
  have es : s < 11 → stM G = s := fun z => by unfold stM; rw [hs, nI_clamp (by omega)]
  unfold accF accM
  rcases hC with h | h | h | h | h | h | h | h | h | h | h
  · obtain ⟨rfl, rfl, rfl, rfl, g31, hd, P, hP, e0, e27, e26⟩ := h
    have el : ltM G = cnP P := by
      unfold ltM
      rw [e26, nI_clamp]
      have := (pat_c ⟨P, hP⟩).2
      dsimp only at this
      omega
    rw [ep (by omega), es (by omega)]
    show AcR r (apP F r cd) (mtP G (ltM G) cd)
    rw [el]
    exact acc_0 hp hs hB g31 hd hP e0 e27 e26
  · obtain ⟨rfl, rfl, rfl, rfl, g31⟩ := h
    rw [ep (by omega), es (by omega)]
    exact acc_1 hcd hB g31
  · obtain ⟨rfl, rfl, rfl, rfl, g31, ha⟩ := h
    rw [ep (by omega), es (by omega)]
    exact acc_2 hB g31 ha
  · obtain ⟨rfl, rfl, rfl, rfl, g31, ha, h8, h9⟩ := h
    rw [ep (by omega), es (by omega)]
    exact acc_3 hcd hB g31 ha h8 h9
  · obtain ⟨rfl, rfl, rfl, rfl, g31, hg⟩ := h
    rw [ep (by omega), es (by omega)]
    exact acc_4 hB g31 hg
  · obtain ⟨rfl, rfl, rfl, rfl, g31, hg⟩ := h
    rw [ep (by omega), es (by omega), eo, er]
    exact acc_5 hB hg
  · obtain ⟨rfl, rfl, rfl, g31, hg⟩ := h
    rw [ep (by omega), es (by omega), eo, er]
    exact acc_5 hB hg
  · obtain ⟨rfl, rfl, rfl, g63, hg⟩ := h
    rw [ep (by omega), es (by omega), eo, er]
    exact acc_7 hB g63 hg
  · obtain ⟨rfl, rfl, rfl, rfl, hg⟩ := h
    rw [ep (by omega), es (by omega)]
    exact acc_8 hB hg
  · obtain ⟨rfl, rfl, rfl, hk, hg, hsg⟩ := h
    rw [ep (by omega), es (by omega), eo, er, (ek rfl).1, (ek rfl).2]
    exact acc_9 hcd hB hk hg hsg
  · obtain ⟨rfl, rfl, rfl, hk, hg⟩ := h
    rw [ep (by omega), es (by omega), eo, er, (ek rfl).1, (ek rfl).2]
    exact acc_10 hB hk hg
theorem rd_R {cs : Nat → Nat} (hcs : ∀ i, cs i < 1000) : ∀ (n i : Nat) (F G : xFm), PsR F r G → (rdF r cs n i F).1 = (rdM cs n i G).1 ∧ PsR (rdF r cs n i F).2 r (rdM cs n i G).2
  | 0, i, F, G, h => ⟨rfl, h⟩
  | n + 1, i, F, G, h => by
    rw [rdF, rdM]
    rcases acc_R h (hcs i) with ⟨e1, e2⟩ | ⟨F', G', e1, e2, h'⟩
    · rw [e1, e2]
      exact ⟨rfl, h⟩
    · rw [e1, e2]
      exact rd_R hcs n (i + 1) F' G' h'
theorem us0 {c : Nat} (hc : c < 8) : ¬ usP (nI 0) (nI c) := by
  have : ∀ n : Fin 8, ¬ usP (nI 0) (nI n.1) := by decide
  exact this ⟨c, hc⟩
theorem PsR_0 : PsR (xGo (xCl F r) (nI 0)) r (m0 G) := by
  refine ⟨0, 0, 0, 0, 0, by simp [xGo, fr, upd], by simp [m0, sS, rS, fr, upd], ⟨by simp [m0, sS, rS, fr, upd], by omega, by simp [xGo, xCl, m0, sS, rS, fr, upd], by simp [xGo, xCl, m0, sS, rS, fr, upd], by simp [xGo, xCl, fr, upd], fun o ho => absurd ho (by omega), Or.inl rfl, fun c hc hu => ?_⟩, Or.inl ⟨rfl, rfl, rfl, rfl, by simp [m0, sS, rS, fr, upd]; exact nI_0, ⟨by simp [xGo, xCl, fr, upd], by simp [xGo, xCl, fr, upd], by simp [xGo, xCl, fr, upd], by simp [m0, sS, rS, fr, upd]; exact nI_0⟩, 0, by omega, by simp [xGo, xCl, fr, upd], by simp [m0, sS, rS, fr, upd, laP], by simp [m0, sS, rS, fr, upd, cnP]⟩⟩
  have e : xGo (xCl F r) (nI 0) 17 r 0 4 = nI 0 := by simp [xGo, xCl, fr, upd]
  rw [e] at hu
  exact absurd hu (us0 hc)
/-- what the reference says of a rule read to its end -/
def woE (G : xFm) : Option Nat := if stM G = 9 then some (roM G + 1) else if stM G = 5 ∧ G 30 0 0 31 = 0 then some 0 else none
theorem PsR.ps (h : PsR F r G) : ((pC F = 5 ∨ pC F = 10) ∧ ∃ m, m ≤ 4 ∧ woE G = some m ∧ F 17 r 0 0 = G 30 0 0 25 ∧ F 17 r 0 5 = nI m ∧ (∀ o, o < m → ∃ k', 0 < k' ∧ OtR F r G o k') ∧ (∀ c, c < 8 → usP (F 17 r 0 4) (nI c) → ∃ o, o < m ∧ F 19 r 0 o = nI 1 ∧ F 18 r 0 o = nI c) ∧ guD F r G) ∨ (¬ (pC F = 5 ∨ pC F = 10) ∧ woE G = none) := by
  obtain ⟨p, s, ro, m, k, hp, hs, hB, hC⟩ := h
  have ro4 := hB.2.1
  have er : roM G = ro := by unfold roM; rw [hB.1, nI_clamp (by omega)]
  have ep : p < 11 → pC F = p := fun z => by unfold pC; rw [hp, nI_clamp (by omega)]
  have es : s < 11 → stM G = s := fun z => by unfold stM; rw [hs, nI_clamp (by omega)]
  unfold woE
  rcases hC with h | h | h | h | h | h | h | h | h | h | h
  · obtain ⟨rfl, rfl, -⟩ := h
    rw [ep (by omega), es (by omega)]
    exact Or.inr ⟨by omega, by rw [if_neg (by omega), if_neg (by omega)]⟩
  · obtain ⟨rfl, rfl, -⟩ := h
    rw [ep (by omega), es (by omega)]
    exact Or.inr ⟨by omega, by rw [if_neg (by omega), if_neg (by omega)]⟩
  · obtain ⟨rfl, rfl, -⟩ := h
    rw [ep (by omega), es (by omega)]
    exact Or.inr ⟨by omega, by rw [if_neg (by omega), if_neg (by omega)]⟩
  · obtain ⟨rfl, rfl, -⟩ := h
    rw [ep (by omega), es (by omega)]
    exact Or.inr ⟨by omega, by rw [if_neg (by omega), if_neg (by omega)]⟩
  · obtain ⟨rfl, rfl, -⟩ := h
    rw [ep (by omega), es (by omega)]
    exact Or.inr ⟨by omega, by rw [if_neg (by omega), if_neg (by omega)]⟩
  · obtain ⟨rfl, rfl, rfl, rfl, g31, hg⟩ := h
    rw [ep (by omega), es (by omega)]
    exact Or.inl ⟨Or.inl rfl, 0, by omega, by rw [if_neg (by omega), if_pos ⟨rfl, g31⟩], hB.2.2.1, hB.2.2.2.2.1, hB.2.2.2.2.2.1, hB.2.2.2.2.2.2.2, hg⟩
  · obtain ⟨rfl, rfl, rfl, g31, hg⟩ := h
    rw [ep (by omega), es (by omega)]
    exact Or.inr ⟨by omega, by rw [if_neg (by omega), if_neg (fun z => absurd (g31.symm.trans z.2) (by decide))]⟩
  · obtain ⟨rfl, rfl, -⟩ := h
    rw [ep (by omega), es (by omega)]
    exact Or.inr ⟨by omega, by rw [if_neg (by omega), if_neg (by omega)]⟩
  · obtain ⟨rfl, rfl, -⟩ := h
    rw [ep (by omega), es (by omega)]
    exact Or.inr ⟨by omega, by rw [if_neg (by omega), if_neg (by omega)]⟩
  · obtain ⟨rfl, rfl, -⟩ := h
    rw [ep (by omega), es (by omega)]
    exact Or.inr ⟨by omega, by rw [if_neg (by omega), if_neg (by omega)]⟩
  · obtain ⟨rfl, rfl, rfl, hk, hg⟩ := h
    rw [ep (by omega), es (by omega), er]
    refine Or.inl ⟨Or.inr rfl, ro + 1, by omega, by rw [if_pos rfl], hB.2.2.1, hB.2.2.2.2.1, fun o ho => ?_, hB.2.2.2.2.2.2.2, hg⟩
    by_cases e : o = ro
    · rcases hB.2.2.2.2.2.2.1 with z1 | ⟨-, z1⟩
      · exact absurd z1 (by omega)
      · rw [e]
        exact ⟨k, hk, z1⟩
    · exact hB.2.2.2.2.2.1 o (by omega)
theorem pO_acc {F G : xFm} {cd : Nat} (h : accM F cd = some G) : pO F G := by
  unfold accM at h
  split at h
  · unfold mtP at h
    split at h
    · cases h
      exact pO_tr (pO_tr (pO_s (by omega)) (pO_s (by omega))) (pO_s (by omega))
    · split at h
      · cases h
        exact pO_s (by omega)
      · cases h
  · unfold mtG at h
    split at h
    · cases h
      exact pO_tr (pO_s (by omega)) (pO_r (by omega))
    · cases h
  · unfold mtH at h
    split at h
    · cases h
      exact pO_tr (pO_s (by omega)) (pO_r (by omega))
    · cases h
  · unfold mtG at h
    split at h
    · cases h
      exact pO_tr (pO_s (by omega)) (pO_r (by omega))
    · cases h
  · unfold mt4 at h
    split at h
    · cases h
      exact pO_s (by omega)
    · cases h
  · unfold mtO at h
    split at h
    · cases h
      exact pO_tr (pO_r (by omega)) (pO_s (by omega))
    · split at h
      · cases h
        exact pO_tr (pO_tr (pO_r (by omega)) (pO_r (by omega))) (pO_s (by omega))
      · cases h
  · unfold mtr at h
    split at h
    · cases h
      exact pO_tr (pO_tr (pO_s (by omega)) (pO_r (by omega))) (pO_s (by omega))
    · cases h
  · unfold mt7 at h
    split at h
    · cases h
      exact pO_s (by omega)
    · cases h
  · unfold mtp at h
    split at h
    · cases h
      exact pO_tr (pO_tr (pO_s (by omega)) (pO_r (by omega))) (pO_r (by omega))
    · cases h
  · unfold mtb at h
    split at h
    · split at h
      · cases h
        exact pO_tr (pO_tr (pO_s (by omega)) (pO_s (by omega))) (pO_s (by omega))
      · cases h
    · split at h
      · cases h
      · split at h
        · cases h
          exact pO_tr (pO_r (by omega)) (pO_s (by omega))
        · cases h
theorem rdM_p {cs : Nat → Nat} {n i : Nat} {F H : xFm} (h : pO H F) : pO H (rdM cs n i F).2 := rdM_O h (fun z => pO_acc z)
theorem rdF_p {cs : Nat → Nat} : ∀ {n i : Nat} {F H : xFm}, sRw H F r → sRw H (rdF r cs n i F).2 r
  | 0, i, F, H, h => h
  | n + 1, i, F, H, h => by
    rw [rdF]
    split
    · exact h
    · rename_i e
      exact rdF_p (h.tr (accF_rows e))
end
