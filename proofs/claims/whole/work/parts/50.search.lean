theorem fJ_some {t : Nat → Bool} : ∀ {n j y : Nat}, fJ t n j = some y → j ≤ y ∧ y < j + n ∧ t y = true ∧ ∀ k, j ≤ k → k < y → ¬ t k = true
  | 0, _, _, h => by cases h
  | n + 1, j, y, h => by
    unfold fJ at h
    split at h
    · rename_i ht
      cases h
      exact ⟨Nat.le_refl _, by omega, ht, fun k h1 h2 => absurd h2 (by omega)⟩
    · rename_i ht
      obtain ⟨h1, h2, h3, h4⟩ := fJ_some h
      refine ⟨by omega, by omega, h3, fun k h5 h6 => ?_⟩
      by_cases e : k = j
      · rw [e]
        exact ht
      · exact h4 k (by omega) h6
theorem fJ_none {t : Nat → Bool} : ∀ {n j : Nat}, fJ t n j = none → ∀ k, j ≤ k → k < j + n → ¬ t k = true
  | 0, _, _ => fun k h1 h2 => absurd h2 (by omega)
  | n + 1, j, h => by
    unfold fJ at h
    split at h
    · cases h
    · rename_i ht
      intro k h1 h2
      by_cases e : k = j
      · rw [e]
        exact ht
      · exact fJ_none h k (by omega) (by omega)
theorem fI_some {t : Nat → Nat → Bool} {re : Nat} : ∀ {n i x y : Nat}, fI t re n i = some (x, y) → i ≤ x ∧ x < i + n ∧ y < re ∧ t x y = true ∧ ∀ a b, i ≤ a → b < re → (a < x ∨ (a = x ∧ b < y)) → ¬ t a b = true
  | 0, _, _, _, h => by cases h
  | n + 1, i, x, y, h => by
    unfold fI at h
    split at h
    · rename_i j hj
      cases h
      obtain ⟨h1, h2, h3, h4⟩ := fJ_some hj
      refine ⟨Nat.le_refl _, by omega, by omega, h3, fun a b h5 h6 h7 => ?_⟩
      have ea : a = i := by omega
      subst ea
      exact h4 b (by omega) (by omega)
    · rename_i hj
      obtain ⟨h1, h2, h3, h4, h5⟩ := fI_some h
      refine ⟨by omega, by omega, h3, h4, fun a b h6 h7 h8 => ?_⟩
      by_cases e : a = i
      · subst e
        exact fJ_none hj b (by omega) (by omega)
      · exact h5 a b (by omega) h7 h8
theorem fI_none {t : Nat → Nat → Bool} {re : Nat} : ∀ {n i : Nat}, fI t re n i = none → ∀ a b, i ≤ a → a < i + n → b < re → ¬ t a b = true
  | 0, _, _ => fun a b h1 h2 => absurd h2 (by omega)
  | n + 1, i, h => by
    unfold fI at h
    split at h
    · cases h
    · rename_i hj
      intro a b h1 h2 h3
      by_cases e : a = i
      · subst e
        exact fJ_none hj b (by omega) (by omega)
      · exact fI_none h a b (by omega) (by omega) h3
theorem vq_mono {w a b : Nat → Nat} : ∀ {e : Nat}, (∀ c, c < e → a c ≤ b c) → vq w a e ≤ vq w b e
  | 0, _ => Nat.le_refl _
  | e + 1, h => by
    have ih := vq_mono (w := w) (e := e) (fun c hc => h c (by omega))
    have h1 := h e (by omega)
    have h2 : vq w a e * w e ≤ vq w b e * w e := Nat.mul_le_mul_right _ ih
    unfold vq
    omega
theorem vq_lex {w a b : Nat → Nat} {d : Nat} (h : ∀ c, c < d → a c ≤ b c) (hd : a d < b d) : ∀ {e : Nat}, (∀ c, c < d + 1 + e → a c < w c) → vq w a (d + 1 + e) < vq w b (d + 1 + e)
  | 0, _ => by
    have h1 := vq_mono (w := w) h
    have h2 : vq w a d * w d ≤ vq w b d * w d := Nat.mul_le_mul_right _ h1
    show vq w a d * w d + a d < vq w b d * w d + b d
    omega
  | e + 1, hv => by
    have ih := vq_lex h hd (e := e) (fun c hc => hv c (by omega))
    have h1 := hv (d + 1 + e) (by omega)
    have h2 : (vq w a (d + 1 + e) + 1) * w (d + 1 + e) ≤ vq w b (d + 1 + e) * w (d + 1 + e) := Nat.mul_le_mul_right _ ih
    rw [Nat.add_mul, Nat.one_mul] at h2
    show vq w a (d + 1 + e) * w (d + 1 + e) + a (d + 1 + e) < vq w b (d + 1 + e) * w (d + 1 + e) + b (d + 1 + e)
    omega
/-- the index that a choice gives an operand -/
def ixO (cn : Nat → Nat) (a : Nat) : Nat := if a < 8 then cn a else 0
theorem mt_abs {w : Nat → Nat} {rd : Prop} [Decidable rd] (hw : rd → ∀ c, c < 8 → 0 < w c) {gl gr le re : Nat} (hlr : gl ≤ gr) (hle : le = if gl < 8 then w gl else 1) (hre : re = if gr < 8 then w gr else 1) {t : Nat → Nat → Bool} (ht : gl = gr → ∀ x y, t x y = true → x = y) {g : (Nat → Nat) → Prop} (hg : ∀ cn, (∀ c, c < 8 → cn c < w c) → (g cn ↔ t (ixO cn gl) (ixO cn gr) = true)) :
    isMt w g rd ((if rd then fI t re le 0 else none).map (fun z => chN gl gr z.1 z.2)) := by
  have hix : ∀ cn, (∀ c, c < 8 → cn c < w c) → ixO cn gl < le ∧ ixO cn gr < re := by
    intro cn hv
    constructor
    · unfold ixO
      by_cases e : gl < 8
      · rw [hle, if_pos e, if_pos e]
        exact hv gl e
      · rw [hle, if_neg e, if_neg e]
        omega
    · unfold ixO
      by_cases e : gr < 8
      · rw [hre, if_pos e, if_pos e]
        exact hv gr e
      · rw [hre, if_neg e, if_neg e]
        omega
  by_cases hrd : rd
  · rw [if_pos hrd]
    cases hf : fI t re le 0 with
    | none =>
      intro _ cn hv hgc
      have h1 := hix cn hv
      exact fI_none hf _ _ (Nat.zero_le _) (by omega) h1.2 ((hg cn hv).mp hgc)
    | some z =>
      obtain ⟨x, y⟩ := z
      obtain ⟨-, h2, h3, h4, h5⟩ := fI_some hf
      have hxy : gl = gr → x = y := fun e => ht e x y h4
      have hxle : x < le := by omega
      have hcl : gl < 8 → chN gl gr x y gl = x := by
        intro e
        show choN (choN (fun _ => 0) gl x) gr y gl = x
        unfold choN
        rw [if_pos e]
        by_cases e2 : gr < 8
        · rw [if_pos e2]
          by_cases e3 : gl = gr
          · rw [e3, va_up_s, hxy e3]
          · rw [va_up_n e3, va_up_s]
        · rw [if_neg e2, va_up_s]
      have hcr : gr < 8 → chN gl gr x y gr = y := by
        intro e
        show choN (choN (fun _ => 0) gl x) gr y gr = y
        unfold choN
        rw [if_pos e, va_up_s]
      have hco : ∀ c, c ≠ gl → c ≠ gr → chN gl gr x y c = 0 := by
        intro c e1 e2
        show choN (choN (fun _ => 0) gl x) gr y c = 0
        unfold choN
        split
        · rw [va_up_n e2]
          split
          · rw [va_up_n e1]
          · rfl
        · split
          · rw [va_up_n e1]
          · rfl
      have hv : ∀ c, c < 8 → chN gl gr x y c < w c := by
        intro c hc
        by_cases e1 : c = gl
        · subst e1
          rw [hcl hc]
          rw [hle, if_pos hc] at hxle
          exact hxle
        · by_cases e2 : c = gr
          · subst e2
            rw [hcr hc]
            rw [hre, if_pos hc] at h3
            exact h3
          · rw [hco c e1 e2]
            exact hw hrd c hc
      have hil : ixO (chN gl gr x y) gl = x := by
        unfold ixO
        by_cases e : gl < 8
        · rw [if_pos e, hcl e]
        · rw [hle, if_neg e] at hxle
          rw [if_neg e]
          omega
      have hir : ixO (chN gl gr x y) gr = y := by
        unfold ixO
        by_cases e : gr < 8
        · rw [if_pos e, hcr e]
        · rw [hre, if_neg e] at h3
          rw [if_neg e]
          omega
      refine ⟨hrd, hv, (hg _ hv).mpr (by rw [hil, hir]; exact h4), ?_⟩
      intro cn' hv' hlt hgc
      have h6 := (hg cn' hv').mp hgc
      have h7 := hix cn' hv'
      have h8 : ¬ (ixO cn' gl < x ∨ (ixO cn' gl = x ∧ ixO cn' gr < y)) := fun z => h5 _ _ (Nat.zero_le _) h7.2 z h6
      refine absurd hlt (Nat.not_lt.mpr ?_)
      by_cases e1 : x < ixO cn' gl
      · have e2 : gl < 8 := by
          unfold ixO at e1
          split at e1
          · assumption
          · omega
        have e3 : ixO cn' gl = cn' gl := by unfold ixO; rw [if_pos e2]
        obtain ⟨e, he⟩ : ∃ e, 8 = gl + 1 + e := ⟨7 - gl, by omega⟩
        have := vq_lex (w := w) (a := chN gl gr x y) (b := cn') (d := gl) (fun c hc => by rw [hco c (by omega) (by omega)]; exact Nat.zero_le _) (by rw [hcl e2, ← e3]; exact e1) (e := e) (fun c hc => hv c (by omega))
        rw [← he] at this
        exact Nat.le_of_lt this
      · have e2 : ixO cn' gl = x := by omega
        have e3 : y ≤ ixO cn' gr := by omega
        refine vq_mono (fun c hc => ?_)
        show chN gl gr x y c ≤ cn' c
        by_cases c1 : c = gl
        · subst c1
          rw [hcl hc, ← e2]
          unfold ixO
          rw [if_pos hc]
          exact Nat.le_refl _
        · by_cases c2 : c = gr
          · subst c2
            rw [hcr hc]
            unfold ixO at e3
            rw [if_pos hc] at e3
            exact e3
          · rw [hco c c1 c2]
            exact Nat.zero_le _
  · rw [if_neg hrd]
    exact fun z => absurd z hrd