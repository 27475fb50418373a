theorem RuR.sn {F G : xFm} {r i : Nat} (h : RuR F r G i) {c : Nat} (hc : c < 8) : ∀ {n : Nat}, (∃ m, G 36 0 0 i = nI m ∧ m ≤ 4 ∧ n ≤ m) → snN (F 19 r 0) (F 18 r 0) (nI c) n = snM (G 37 0 0) (4 * i) (nI c) n
  | 0, _ => rfl
  | n + 1, hn => by
    have ih := RuR.sn h hc (n := n) (by obtain ⟨m, a, b, c⟩ := hn; exact ⟨m, a, b, by omega⟩)
    obtain ⟨m, h1, h2, h3⟩ := hn
    obtain ⟨-, ⟨m', hm', -, h6, ho, -⟩, -⟩ := h
    have em : m' = m := by
      rw [h1] at h6
      exact ((nI_eq (by omega) (by omega)).mp h6).symm
    obtain ⟨⟨t, ht, h7, h8⟩, -⟩ := ho n (by omega)
    unfold snN snM
    rw [ih]
    rcases h8 with ⟨h9, h10⟩ | ⟨h9, h10, -, -⟩
    · rw [h7, h9, h10]
      by_cases e : nI t = nI c
      · rw [if_pos ⟨rfl, e⟩, if_pos e]
      · rw [if_neg (fun z => e z.2), if_neg e]
    · rw [h9, h10, if_neg (fun z => absurd z.1 (by decide)), if_neg (fun z => by have := (nI_eq (by omega) (by omega)).mp z; omega)]
theorem rmM_iff {G : xFm} {i : Nat} {q : Nat → Nat} {m : Nat} : ∀ {e : Nat}, rmM G i q m e = true ↔ ∀ c, c < e → rmW G i q m c
  | 0 => ⟨fun _ c hc => absurd hc (by omega), fun _ => rfl⟩
  | e + 1 => by
    rw [rmM, Bool.and_eq_true, rmM_iff (e := e), decide_eq_true_iff]
    constructor
    · intro h c hc
      by_cases ec : c = e
      · rw [ec]
        exact h.2
      · exact h.1 c (by omega)
    · intro h
      exact ⟨fun c hc => h c (by omega), h e (by omega)⟩
theorem RuR.om {F G : xFm} {r i : Nat} (h : RuR F r G i) : G 36 0 0 i = nI (omM G i) ∧ omM G i ≤ 4 ∧ oC F r = omM G i := by
  obtain ⟨-, ⟨m, hm, h5, h6, -⟩, -⟩ := h
  have e1 : omM G i = m := by unfold omM; rw [h6, nI_clamp (by omega)]
  have e2 : oC F r = m := by unfold oC; rw [h5, nI_clamp (by omega)]
  rw [e1, e2]
  exact ⟨h6, hm, rfl⟩
theorem RuR.rm {F G : xFm} {r i : Nat} {q : Nat → Nat} (h : RuR F r G i) : rmM G i q (omM G i) 8 = rmB F r q (oC F r) := by
  obtain ⟨h1, h2, h3⟩ := h.om
  rw [Bool.eq_iff_iff, rmM_iff, rmB_iff, h3]
  have : ∀ c, c < 8 → (rmW G i q (omM G i) c ↔ rmQ F r q (omM G i) c) := by
    intro c hc
    unfold rmW rmQ
    rw [h.1, h.sn hc ⟨omM G i, h1, h2, Nat.le_refl _⟩]
  exact ⟨fun z c hc => (this c hc).mp (z c hc), fun z c hc => (this c hc).mpr (z c hc)⟩
/-- the match of each rule, by the class's search -/
def mtC (F : xFm) (q : Nat → Nat) (pm : Nat → Nat) (i : Nat) : Option (Nat → Nat) := (fmF F q (pm i)).map (fun z => chN (gL F (pm i)) (gR F (pm i)) z.1 z.2)
theorem rM_of {F G : xFm} {q pm : Nat → Nat} {rn : Nat} (hQ : QuR F G q) (h : ∀ i, i < rn → RuR F (pm i) G i) : rM G q rn (gaM G) (gbM G) (omM G) (mtC F q pm) := by
  intro i hi
  refine ⟨fun h0 => ?_, (h i hi).mt hQ, (h i hi).om.1, (h i hi).om.2.1⟩
  rcases (h i hi).2.2 with ⟨z, -⟩ | ⟨a, b, -, h1, ha, h2, hb, -⟩
  · exact absurd z h0
  · have ea : gaM G i = a := by unfold gaM; rw [h1, nI_clamp (by omega)]
    have eb : gbM G i = b := by unfold gbM; rw [h2, nI_clamp (by omega)]
    rw [ea, eb]
    exact ⟨h1, ha, h2, hb⟩
theorem enM_of {F G : xFm} {q pm : Nat → Nat} {i : Nat} (h : RuR F (pm i) G i) : enM G q (omM G) (mtC F q pm) i = enF F q (pm i) := by
  unfold enM enF
  rw [h.rm]
  congr 1
  unfold mtC
  exact Option.isSome_map
theorem bmk_cong {p p' : Nat → Bool} : ∀ {n : Nat}, (∀ i, i < n → p i = p' i) → bmk p n = bmk p' n
  | 0, _ => rfl
  | n + 1, h => by
    unfold bmk
    rw [h n (by omega), bmk_cong (fun i hi => h i (by omega))]
theorem nxL_cong {en en' : Nat → Bool} {fi fi' : Nat → Int32} {po rn s0 : Nat} (he : ∀ i, i < rn → en i = en' i) (hf : ∀ i, i < rn → fi i = fi' i) (h0 : 0 < rn) : ∀ {n i : Nat} {b : Option Nat}, (∀ k, b = some k → k < rn) → nxL en fi po rn s0 n i b = nxL en' fi' po rn s0 n i b
  | 0, _, _, _ => rfl
  | n + 1, i, b, hb => by
    have hm := Nat.mod_lt (s0 + i) h0
    rw [nxL_1, nxL_1, he _ hm]
    split
    · split
      · rcases b with _ | b9
        · exact nxL_cong he hf h0 (fun k hk => by cases hk; exact hm)
        · dsimp only
          rw [hf _ hm, hf _ (hb b9 rfl)]
          refine nxL_cong he hf h0 (fun k hk => ?_)
          split at hk
          · cases hk
            exact hm
          · exact hb k hk
      · rfl
    · exact nxL_cong he hf h0 hb