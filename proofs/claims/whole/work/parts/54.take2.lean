theorem xSt_10 {F : xFm} {g : Nat} {x a b : Int32} {t : Nat} : xSt F 0 g x a b 10 0 0 t = (if tkn g x ∧ x.toNatClampNeg % 24 = t then a else F 10 0 0 t) ∧ xSt F 0 g x a b 11 0 0 t = (if tkn g x ∧ x.toNatClampNeg % 24 = t then b else F 11 0 0 t) := by
  unfold xSt
  by_cases h : tkn g x
  · rw [if_pos h]
    by_cases e : x.toNatClampNeg % 24 = t
    · rw [if_pos ⟨h, e⟩, if_pos ⟨h, e⟩, ← e]
      constructor
      · rw [fr_k (by omega), fr_s, upd_s]
      · rw [fr_s, upd_s]
        
    · rw [if_neg (fun z => e z.2), if_neg (fun z => e z.2)]
      constructor
      · rw [fr_k (by omega), fr_s, upd_n (fun z => e z.symm)]
      · rw [fr_s, upd_n (fun z => e z.symm)]
  · rw [if_neg h, if_neg (fun z => h z.1), if_neg (fun z => h z.1)]
    exact ⟨rfl, rfl⟩
theorem mSe_50 {F : xFm} {g : Nat} {x a b : Int32} {t : Nat} : mSe F g x a b 50 0 0 t = (if tkn g x ∧ x.toNatClampNeg % 24 = t then a else F 50 0 0 t) ∧ mSe F g x a b 51 0 0 t = (if tkn g x ∧ x.toNatClampNeg % 24 = t then b else F 51 0 0 t) := by
  unfold mSe
  by_cases h : tkn g x
  · rw [if_pos h]
    by_cases e : x.toNatClampNeg % 24 = t
    · rw [if_pos ⟨h, e⟩, if_pos ⟨h, e⟩, ← e]
      constructor
      · rw [fr_k (by omega), fr_s, upd_s]
      · rw [fr_s, upd_s]
    · rw [if_neg (fun z => e z.2), if_neg (fun z => e z.2)]
      constructor
      · rw [fr_k (by omega), fr_s, upd_n (fun z => e z.symm)]
      · rw [fr_s, upd_n (fun z => e z.symm)]
  · rw [if_neg h, if_neg (fun z => h z.1), if_neg (fun z => h z.1)]
    exact ⟨rfl, rfl⟩
/-- both sides settle the same ticket -/
theorem SlR.both {F G : xFm} {P P' : Nat → Prop} {g : Nat} {x a b : Int32} (h : SlR F G P) (hP : ∀ t, ¬ P' t → ¬ P t ∨ (tkn g x ∧ x.toNatClampNeg % 24 = t)) : SlR (xSt F 0 g x a b) (mSe G g x a b) P' := by
  intro t ht hp
  rw [xSt_10.1, xSt_10.2, mSe_50.1, mSe_50.2]
  by_cases e : tkn g x ∧ x.toNatClampNeg % 24 = t
  · rw [if_pos e, if_pos e, if_pos e, if_pos e]
    exact ⟨rfl, fun _ => rfl⟩
  · rw [if_neg e, if_neg e, if_neg e, if_neg e]
    exact h t ht ((hP t hp).resolve_right e)
/-- the reference alone settles a ticket: its slot is pending -/
theorem SlR.one {F G : xFm} {P P' : Nat → Prop} {g : Nat} {x a b : Int32} (h : SlR F G P) (hP : ∀ t, ¬ P' t → ¬ P t ∧ ¬ (tkn g x ∧ x.toNatClampNeg % 24 = t)) : SlR F (mSe G g x a b) P' := by
  intro t ht hp
  obtain ⟨h1, h2⟩ := hP t hp
  rw [mSe_50.1, mSe_50.2, if_neg h2, if_neg h2]
  exact h t ht h1
theorem SlR.row {F G F' G' : xFm} {P : Nat → Prop} (h : SlR F G P) (h1 : F' 10 0 0 = F 10 0 0) (h2 : F' 11 0 0 = F 11 0 0) (h3 : G' 50 0 0 = G 50 0 0) (h4 : G' 51 0 0 = G 51 0 0) : SlR F' G' P := by
  intro t ht hp
  rw [h1, h2, h3, h4]
  exact h t ht hp
theorem take_s {F : xFm} {W : xWm} {G : xFm} {B : xWm} {q q' : Nat → Nat} (hQ : QcR F W G B q') {cn : Nat → Nat} {g r i c : Nat} (hc : c < 8) (hq : q' c = q c) (hcn : cn c < q c) (hu : usP (F 17 r 0 0) (nI c)) (hp : F 17 r 0 0 = G 34 0 0 i) (hT : TnR F G (F 17 r 0 0) c) (h : SlR F G (pnd (F 17 r 0 0) (F 17 r 0 4) g (G 68 0 0) c (fun _ => False))) :
    SlR (tkS cn q g r c (F, W)).1 (mcS cn q g i c (G, B)).1 (pnd (F 17 r 0 0) (F 17 r 0 4) g ((mcS cn q g i c (G, B)).1 68 0 0) (c + 1) (fun _ => False)) ∧ TnR (tkS cn q g r c (F, W)).1 (mcS cn q g i c (G, B)).1 (F 17 r 0 0) (c + 1) := by
  have hu' : usP (G 34 0 0 i) (nI c) := by rw [← hp]; exact hu
  obtain ⟨k1, k2, k3, k4⟩ := (hQ c hc).2.2.2.2.2 (cn c) (by omega)
  have e68 : (mcS cn q g i c (G, B)).1 68 0 0 = upd (G 68 0 0) c (G 47 0 0 (8 * c + cn c)) := by rw [mcS_k hu' (by omega) (by omega), mTk_68]
  constructor
  · rw [e68]
    have hpn : ∀ t, ¬ pnd (F 17 r 0 0) (F 17 r 0 4) g (upd (G 68 0 0) c (G 47 0 0 (8 * c + cn c))) (c + 1) (fun _ => False) t → ¬ pnd (F 17 r 0 0) (F 17 r 0 4) g (G 68 0 0) c (fun _ => False) t := by
      intro t hn z
      obtain ⟨d, d1, d2, d3, d4, d5, d6⟩ := z
      exact hn ⟨d, by omega, d2, d3, by rw [upd_n (by omega)]; exact d4, by rw [upd_n (by omega)]; exact d5, d6⟩
    rw [mcS_t hu', tkS_t hu]
    dsimp only
    have ex : mTk G c (cn c) (q c) 68 0 0 c = F 16 0 c (cn c) := by rw [mTk_68, upd_s, k3]
    rw [ex]
    by_cases hr : usP (F 17 r 0 4) (nI c)
    · rw [if_pos hr]
      refine SlR.one (h.row tkX_10 tkX_11 mTk_50 mTk_51) (fun t hn => ⟨hpn t hn, fun z => hn ⟨c, by omega, hu, hr, ?_, ?_, fun f => f⟩⟩)
      · rw [upd_s, ← k3]
        exact z.1
      · rw [upd_s, ← k3]
        exact z.2
    · rw [if_neg hr]
      exact SlR.both (h.row tkX_10 tkX_11 mTk_50 mTk_51) (fun t hn => Or.inl (hpn t hn))
  · intro d hd hud
    rw [tkS_k hu (by omega) (by omega), tkS_k hu (by omega) (by omega), e68, mcS_k hu' (by omega) (by omega), tkX_5, tkX_6, mTk_67]
    by_cases e : d = c
    · rw [e, upd_s, upd_s, upd_s, upd_s]
      exact ⟨k1, k4, k3⟩
    · rw [upd_n e, upd_n e, upd_n e, upd_n e]
      exact hT d (by omega) hud