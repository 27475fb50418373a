theorem qT_s {p : Int32} {q : Nat → Nat} {e : Nat} (h : usP p (nI e)) : va_up (qT p q e) e (q e - 1) = qT p q (e + 1) := by
  funext c
  unfold qT
  by_cases ec : c = e
  · rw [ec, va_up_s, if_pos ⟨by omega, h⟩]
  · rw [va_up_n ec]
    by_cases h2 : c < e ∧ usP p (nI c)
    · rw [if_pos h2, if_pos ⟨by omega, h2.2⟩]
    · rw [if_neg h2, if_neg (fun z => h2 ⟨by omega, z.2⟩)]
theorem qT_n {p : Int32} {q : Nat → Nat} {e : Nat} (h : ¬ usP p (nI e)) : qT p q e = qT p q (e + 1) := by
  funext c
  unfold qT
  by_cases h2 : c < e ∧ usP p (nI c)
  · rw [if_pos h2, if_pos ⟨by omega, h2.2⟩]
  · by_cases h3 : c < e + 1 ∧ usP p (nI c)
    · have ec : c = e := by
        by_cases z : c < e
        · exact absurd ⟨z, h3.2⟩ h2
        · omega
      rw [ec] at h3
      exact absurd h3.2 h
    · rw [if_neg h2, if_neg h3]
theorem qT_0 {p : Int32} {q : Nat → Nat} : qT p q 0 = q := by
  funext c
  unfold qT
  rw [if_neg (fun z => absurd z.1 (by omega))]
theorem take_all {F : xFm} {W : xWm} {G : xFm} {B : xWm} {q cn : Nat → Nat} {g r i : Nat} (hQ : QcR F W G B q) (hS : SlR F G (fun _ => False)) (hp : F 17 r 0 0 = G 34 0 0 i) (ht : F 7 0 0 3 = G 30 0 0 18) (hcn : ∀ c, c < 8 → usP (F 17 r 0 0) (nI c) → cn c < q c) : ∀ e, e ≤ 8 →
    QcR (tkN cn q g r (F, W) e).1 (tkN cn q g r (F, W) e).2 (mcN cn q g i (G, B) e).1 (mcN cn q g i (G, B) e).2 (qT (F 17 r 0 0) q e) ∧ TnR (tkN cn q g r (F, W) e).1 (mcN cn q g i (G, B) e).1 (F 17 r 0 0) e ∧ SlR (tkN cn q g r (F, W) e).1 (mcN cn q g i (G, B) e).1 (pnd (F 17 r 0 0) (F 17 r 0 4) g ((mcN cn q g i (G, B) e).1 68 0 0) e (fun _ => False))
  | 0, _ => by
    refine ⟨?_, fun c hc => absurd hc (by omega), fun t ht9 _ => hS t ht9 (fun z => z)⟩
    rw [qT_0]
    exact hQ
  | e + 1, he => by
    obtain ⟨i1, i2, i3⟩ := take_all (g := g) hQ hS hp ht hcn e (by omega)
    have f17 : (tkN cn q g r (F, W) e).1 17 r 0 = F 17 r 0 := (tkN_fix (z := (F, W)) (by omega) (by omega) (by omega) (by omega) e (by omega)).1
    have f7 : (tkN cn q g r (F, W) e).1 7 0 0 = F 7 0 0 := (tkN_fix (z := (F, W)) (by omega) (by omega) (by omega) (by omega) e (by omega)).1
    have g34 : (mcN cn q g i (G, B) e).1 34 0 0 = G 34 0 0 := mcN_fix (z := (G, B)) (by omega) (by omega) (by omega) (by omega) (by omega) (by omega) (by omega) (by omega) (by omega) e
    have g30 : (mcN cn q g i (G, B) e).1 30 0 0 = G 30 0 0 := mcN_fix (z := (G, B)) (by omega) (by omega) (by omega) (by omega) (by omega) (by omega) (by omega) (by omega) (by omega) e
    show QcR (tkS cn q g r e (tkN cn q g r (F, W) e)).1 (tkS cn q g r e (tkN cn q g r (F, W) e)).2 (mcS cn q g i e (mcN cn q g i (G, B) e)).1 (mcS cn q g i e (mcN cn q g i (G, B) e)).2 _ ∧ TnR (tkS cn q g r e (tkN cn q g r (F, W) e)).1 (mcS cn q g i e (mcN cn q g i (G, B) e)).1 _ _ ∧ SlR (tkS cn q g r e (tkN cn q g r (F, W) e)).1 (mcS cn q g i e (mcN cn q g i (G, B) e)).1 (pnd (F 17 r 0 0) (F 17 r 0 4) g ((mcS cn q g i e (mcN cn q g i (G, B) e)).1 68 0 0) (e + 1) (fun _ => False))
    revert i1 i2 i3 f17 f7 g34 g30
    rcases tkN cn q g r (F, W) e with ⟨F1, W1⟩
    rcases mcN cn q g i (G, B) e with ⟨G1, B1⟩
    intro i1 i2 i3 f17 f7 g34 g30
    dsimp only at i1 i2 i3 f17 f7 g34 g30
    by_cases hu : usP (F 17 r 0 0) (nI e)
    · have hu1 : usP (F1 17 r 0 0) (nI e) := by rw [f17]; exact hu
      have hp1 : F1 17 r 0 0 = G1 34 0 0 i := by rw [f17, g34]; exact hp
      have ht1 : F1 7 0 0 3 = G1 30 0 0 18 := by rw [f7, g30]; exact ht
      have hq1 : qT (F 17 r 0 0) q e e = q e := by
        unfold qT
        rw [if_neg (fun z => absurd z.1 (by omega))]
      have a1 := take_q (cn := cn) (g := g) i1 (by omega) hq1 (hcn e (by omega) hu) hu1 hp1 ht1
      have a2 := take_s (cn := cn) (g := g) i1 (by omega) hq1 (hcn e (by omega) hu) hu1 hp1 (by rw [f17]; exact i2) (by rw [f17]; exact i3)
      rw [qT_s hu] at a1
      rw [f17] at a2
      exact ⟨a1, a2.2, a2.1⟩
    · have e1 : tkS cn q g r e (F1, W1) = (F1, W1) := by
        unfold tkS
        exact if_neg (by dsimp only; rw [f17]; exact hu)
      have e2 : mcS cn q g i e (G1, B1) = (G1, B1) := by
        unfold mcS
        exact if_neg (by dsimp only; rw [g34, ← hp]; exact hu)
      rw [e1, e2, ← qT_n hu]
      refine ⟨i1, fun c hc huc => i2 c ?_ huc, fun t ht9 hn => i3 t ht9 (fun z => hn ?_)⟩
      · by_cases z : c = e
        · rw [z] at huc
          exact absurd huc hu
        · omega
      · obtain ⟨d, d1, d2⟩ := z
        exact ⟨d, by omega, d2⟩