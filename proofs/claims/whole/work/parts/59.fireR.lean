/-- what is now, on both sides -/
def NoR (F : xFm) (W : xWm) (G : xFm) (B : xWm) (q : Nat → Nat) (g N : Nat) : Prop := StR F W 0 q g N (G 44 0 0) (G 45 0 0) (G 46 0 0) (G 47 0 0) (G 50 0 0) (G 51 0 0) (G 41 0 0) (G 52 0 0) (B 53 0 0) (G 30 0 0 18) (G 30 0 0 19) (G 30 0 0 12)
/-- what is kept, on both sides -/
def KpR (F : xFm) (W : xWm) (G : xFm) (B : xWm) (q : Nat → Nat) (g N : Nat) : Prop := StR F W 1 q g N (G 73 0 0) (G 74 0 0) (G 75 0 0) (G 76 0 0) (G 77 0 0) (G 78 0 0) (G 79 0 0) (G 80 0 0) (B 81 0 0) (G 30 0 0 40) (G 30 0 0 41) (G 30 0 0 42)
section
variable {F : xFm} {W : xWm} {G : xFm} {B : xWm} {q : Nat → Nat} {g N : Nat}
theorem NoR.qc (h : NoR F W G B q g N) : QcR F W G B q := h.1
theorem NoR.qu (h : NoR F W G B q g N) : QuR F G q := fun c hc => by
  obtain ⟨h1, h2, h3, h4, h5, h6⟩ := h.1 c hc
  exact ⟨h1, h2, h3, fun k hk => (h6 k hk).1⟩
theorem NoR.sl (h : NoR F W G B q g N) : SlR F G (fun _ => False) := fun t ht _ => h.2.1 t ht
theorem NoR.hq (h : NoR F W G B q g N) : ∀ c, c < 8 → F 13 0 c 3 = nI (q c) ∧ q c ≤ 8 := fun c hc => ⟨(h.1 c hc).1, (h.1 c hc).2.1⟩
theorem NoR.hqM (h : NoR F W G B q g N) : ∀ c, c < 8 → G 44 0 0 c = nI (q c) ∧ q c ≤ 8 := fun c hc => ⟨(h.1 c hc).2.2.1, (h.1 c hc).2.1⟩
end
/-- a firing, from the messages taken on -/
theorem fire_2 {F2 : xFm} {W2 : xWm} {G2 : xFm} {B2 : xWm} {qq : Nat → Nat} {g N r k m : Nat} {p rm : Int32} (hR2 : RuR F2 r G2 k) (q1 : QcR F2 W2 G2 B2 qq) (q2 : TnR F2 G2 p 8) (q3 : SlR F2 G2 (pnd p rm g (G2 68 0 0) 8 (fun _ => False))) (hp : F2 17 r 0 0 = p) (hrm : F2 17 r 0 4 = rm) (hs : F2 7 0 0 3 = G2 30 0 0 18) (hg : F2 9 0 0 2 = nI g) (hg2 : G2 30 0 0 19 = nI g) (h4 : F2 7 0 0 4 = nI k) (hk : k < 8) (hfi : ∀ i, i < 8 → F2 12 0 0 i = upd (G2 41 0 0) k (G2 41 0 0 k + nI 1) i) (hgN : g ≤ N) (hm : G2 36 0 0 k = nI m) (hm4 : m ≤ 4) (hrm8 : ∀ c, c < 8 → qq c + snN (F2 19 r 0) (F2 18 r 0) (nI c) m ≤ 8) :
    NoR (coN r g m F2) W2 (mEnd (moN k g m G2) k) B2 (fun c => qq c + snN (F2 19 r 0) (F2 18 r 0) (nI c) m) g N ∧ ∀ o, o < m → coOk (coN r g o F2) r g o ∧ moOk (moN k g o G2) k g o := by
  have A := fun o ho => out_all hR2 hp hrm hm hm4 q1 q2 q3 hs hg hg2 hrm8 o ho
  have c7 : coN r g m F2 7 0 0 = F2 7 0 0 := coN_fix (by omega) (by omega) (by omega) m
  have c9 : coN r g m F2 9 0 0 = F2 9 0 0 := coN_fix (by omega) (by omega) (by omega) m
  have c12 : coN r g m F2 12 0 0 = F2 12 0 0 := coN_fix (by omega) (by omega) (by omega) m
  have m30 : moN k g m G2 30 0 0 = G2 30 0 0 := moN_fix (by omega) (by omega) (by omega) (by omega) (by omega) (by omega) m
  have m41 : moN k g m G2 41 0 0 = G2 41 0 0 := moN_fix (by omega) (by omega) (by omega) (by omega) (by omega) (by omega) m
  have e30 : mEnd (moN k g m G2) k 30 0 0 = upd (G2 30 0 0) 12 (nI k) := by
    rw [← m30]
    rfl
  have e41 : mEnd (moN k g m G2) k 41 0 0 = upd (G2 41 0 0) k (G2 41 0 0 k + nI 1) := by
    rw [← m41]
    rfl
  refine ⟨⟨?_, ?_, ?_, ?_, hgN, ?_, ?_, ?_, ?_⟩, fun o ho => (A o (by omega)).2 ho⟩
  · exact QcR.row (A m (Nat.le_refl m)).1.1 (fun _ _ _ _ _ => rfl) (fun _ _ => rfl) rfl rfl rfl rfl rfl rfl
  · intro t ht
    refine SlR.row (A m (Nat.le_refl m)).1.2 (F' := coN r g m F2) (G' := mEnd (moN k g m G2) k) rfl rfl rfl rfl t ht (fun z => ?_)
    obtain ⟨c, c1, c2, c3, c4, c5, c6⟩ := z
    obtain ⟨-, ⟨m', hm', h5, h6, -, hl⟩, -⟩ := hR2
    have em : m' = m := by
      rw [hm] at h6
      exact ((nI_eq (by omega) (by omega)).mp h6).symm
    obtain ⟨o, o1, o2, o3⟩ := hl c c1 (by rw [hrm]; exact c3)
    exact c6 ⟨o, by omega, o2, o3⟩
  · rw [c9]
    exact hg
  · rw [e30, upd_n (by omega)]
    exact hg2
  · intro i hi
    rw [c12, e41]
    exact hfi i hi
  · rw [c7, e30, upd_n (by omega)]
    exact hs
  · rw [c7, e30, upd_s]
    exact h4
  · refine ⟨k + 1, by omega, ?_⟩
    rw [e30, upd_s]
    exact nI_add k 1
/-- the queues behind a firing -/
def qF (F : xFm) (q : Nat → Nat) (r : Nat) (c : Nat) : Nat := qT (F 17 r 0 0) q 8 c + snN (F 19 r 0) (F 18 r 0) (nI c) (oC F r)
/-- rows that a firing leaves as they are -/
theorem feF_o {F : xFm} {ch : Nat → Int32} {k kk i j : Nat} (h : ¬ (kk = 4 ∧ i = 0)) (h7 : ¬ (kk = 7 ∧ i = 0)) (h12 : ¬ (kk = 12 ∧ i = 0)) : feF F ch k kk i j = F kk i j := by
  unfold feF
  rw [fr_n (by omega), fr_n (by omega), fr_n (by omega)]
theorem xSt_n {F : xFm} {g : Nat} {x a b : Int32} {k i j : Nat} (h1 : ¬ (k = 10 ∧ i = 0)) (h2 : ¬ (k = 11 ∧ i = 0)) : xSt F 0 g x a b k i j = F k i j := by
  unfold xSt
  split
  · rw [fr_n (by omega), fr_n (by omega)]
  · rfl
theorem tkS_n {cn q : Nat → Nat} {g r c : Nat} {z : xFm × xWm} {k i j : Nat} (h : ¬ (5 ≤ k ∧ k ≤ 6 ∧ i = 0)) (h10 : ¬ (10 ≤ k ∧ k ≤ 11 ∧ i = 0)) (h13 : ¬ (13 ≤ k ∧ k ≤ 16 ∧ i = 0)) : (tkS cn q g r c z).1 k i j = z.1 k i j ∧ (tkS cn q g r c z).2 k i j = z.2 k i j := by
  unfold tkS
  split
  · refine ⟨?_, fr_n (by omega)⟩
    split
    · dsimp only
      rw [xTk_o (by omega), fr_n (by omega), fr_n (by omega)]
    · dsimp only
      rw [xSt_n (by omega) (by omega), xTk_o (by omega), fr_n (by omega), fr_n (by omega)]
  · exact ⟨rfl, rfl⟩
theorem tkN_n {cn q : Nat → Nat} {g r : Nat} {z : xFm × xWm} {k i j : Nat} (h : ¬ (5 ≤ k ∧ k ≤ 6 ∧ i = 0)) (h10 : ¬ (10 ≤ k ∧ k ≤ 11 ∧ i = 0)) (h13 : ¬ (13 ≤ k ∧ k ≤ 16 ∧ i = 0)) : ∀ e, (tkN cn q g r z e).1 k i j = z.1 k i j ∧ (tkN cn q g r z e).2 k i j = z.2 k i j
  | 0 => ⟨rfl, rfl⟩
  | e + 1 => by
    have h1 := tkS_n (cn := cn) (q := q) (g := g) (r := r) (c := e) (z := tkN cn q g r z e) (i := i) (j := j) h h10 h13
    have h2 := tkN_n (cn := cn) (q := q) (g := g) (r := r) (z := z) (i := i) (j := j) h h10 h13 e
    exact ⟨h1.1.trans h2.1, h1.2.trans h2.2⟩
theorem coS_n {F : xFm} {r g o k i j : Nat} (h10 : ¬ (10 ≤ k ∧ k ≤ 11 ∧ i = 0)) (h13 : ¬ (13 ≤ k ∧ k ≤ 16 ∧ i = 0)) : coS F r g o k i j = F k i j := by
  unfold coS
  split
  · unfold xPut
    rw [fr_n (by omega), fr_n (by omega), fr_n (by omega), fr_n (by omega)]
  · exact xSt_n (by omega) (by omega)
theorem coN_n {F : xFm} {r g k i j : Nat} (h10 : ¬ (10 ≤ k ∧ k ≤ 11 ∧ i = 0)) (h13 : ¬ (13 ≤ k ∧ k ≤ 16 ∧ i = 0)) : ∀ o, coN r g o F k i j = F k i j
  | 0 => rfl
  | o + 1 => (coS_n h10 h13).trans (coN_n h10 h13 o)
/-- both sides fire the same rule -/
theorem fire_R {F : xFm} {W : xWm} {G : xFm} {B : xWm} {q pm : Nat → Nat} {g N k : Nat} (hN : NoR F W G B q g N) (hRu : RuR F (pm k) G k) (hk : k < 8) {cn : Nat → Nat} (hmt : mtC F q pm k = some cn) (hen : enF F q (pm k) = true) (ch ch' : Nat → Int32) :
    NoR (coN (pm k) g (oC F (pm k)) (tkN cn q g (pm k) (feF F ch k, W) 8).1) (tkN cn q g (pm k) (feF F ch k, W) 8).2 (mEnd (moN k g (omM G k) (mcN cn q g k (mF0 (tS G (nI 0)) ch', B) 8).1) k) (mcN cn q g k (mF0 (tS G (nI 0)) ch', B) 8).2 (qF F q (pm k)) g N ∧
    (∀ o, o < oC F (pm k) → coOk (coN (pm k) g o (tkN cn q g (pm k) (feF F ch k, W) 8).1) (pm k) g o ∧ moOk (moN k g o (mcN cn q g k (mF0 (tS G (nI 0)) ch', B) 8).1) k g o) ∧ ∀ c, c < 8 → usP (F 17 (pm k) 0 0) (nI c) → cn c < q c := by
  have hcn : ∀ c, c < 8 → usP (F 17 (pm k) 0 0) (nI c) → cn c < q c := by
    intro c hc hu
    have h1 := hRu.mt hN.qu
    have e : (fmF F q (pm k)).map (fun z => chN (gL F (pm k)) (gR F (pm k)) z.1 z.2) = some cn := hmt
    rw [e] at h1
    have h2 := h1.2.1 c hc
    rw [wR_t (by rw [← hRu.1]; exact hu)] at h2
    exact h2
  obtain ⟨om1, om2, om3⟩ := hRu.om
  have hQ : QcR (feF F ch k) W (mF0 (tS G (nI 0)) ch') B q := QcR.row hN.qc (fun kk c h1 h2 _ => feF_o (by omega) (by omega) (by omega)) (fun _ _ => rfl) rfl rfl rfl rfl rfl rfl
  have hS : SlR (feF F ch k) (mF0 (tS G (nI 0)) ch') (fun _ => False) := SlR.row hN.sl rfl rfl rfl rfl
  have f17 : feF F ch k 17 (pm k) 0 = F 17 (pm k) 0 := feF_o (by omega) (by omega) (by omega)
  have hp : feF F ch k 17 (pm k) 0 0 = mF0 (tS G (nI 0)) ch' 34 0 0 k := by
    rw [f17]
    exact hRu.1
  have ht : feF F ch k 7 0 0 3 = mF0 (tS G (nI 0)) ch' 30 0 0 18 := by
    show F 7 0 0 3 + nI 1 = G 30 0 0 18 + nI 1
    rw [hN.2.2.2.2.2.2.1]
  have T := take_all (g := g) (r := pm k) (i := k) hQ hS hp ht (by rw [f17]; exact hcn) 8 (Nat.le_refl 8)
  rw [f17] at T
  have F2o : ∀ kk i j, ¬ (5 ≤ kk ∧ kk ≤ 6 ∧ i = 0) → ¬ (10 ≤ kk ∧ kk ≤ 11 ∧ i = 0) → ¬ (13 ≤ kk ∧ kk ≤ 16 ∧ i = 0) → (tkN cn q g (pm k) (feF F ch k, W) 8).1 kk i j = feF F ch k kk i j := fun kk i j h1 h2 h3 => (tkN_n h1 h2 h3 8).1
  have F2r : ∀ kk, 17 ≤ kk → kk ≤ 22 → (tkN cn q g (pm k) (feF F ch k, W) 8).1 kk (pm k) 0 = F kk (pm k) 0 := fun kk h1 h2 => by
    rw [F2o _ _ _ (by omega) (by omega) (by omega)]
    exact feF_o (by omega) (by omega) (by omega)
  have G2o : ∀ kk, kk ≠ 67 → kk ≠ 68 → kk ≠ 52 → kk ≠ 44 → kk ≠ 45 → kk ≠ 46 → kk ≠ 47 → kk ≠ 50 → kk ≠ 51 → (mcN cn q g k (mF0 (tS G (nI 0)) ch', B) 8).1 kk 0 0 = mF0 (tS G (nI 0)) ch' kk 0 0 := fun kk h1 h2 h3 h4 h5 h6 h7 h8 h9 => mcN_fix h1 h2 h3 h4 h5 h6 h7 h8 h9 8
  have G2r : ∀ kk, 34 ≤ kk → kk ≤ 41 → (mcN cn q g k (mF0 (tS G (nI 0)) ch', B) 8).1 kk 0 0 = G kk 0 0 := fun kk h1 h2 => by
    rw [G2o kk (by omega) (by omega) (by omega) (by omega) (by omega) (by omega) (by omega) (by omega) (by omega)]
    unfold mF0 tS
    rw [fr_k (by omega), fr_k (by omega), fr_k (by omega)]
  have G30 : (mcN cn q g k (mF0 (tS G (nI 0)) ch', B) 8).1 30 0 0 = upd (upd (G 30 0 0) 0 (nI 0)) 18 (G 30 0 0 18 + nI 1) := by
    rw [G2o 30 (by omega) (by omega) (by omega) (by omega) (by omega) (by omega) (by omega) (by omega) (by omega)]
    rfl
  have F7 : (tkN cn q g (pm k) (feF F ch k, W) 8).1 7 0 0 = upd (upd (F 7 0 0) 3 (F 7 0 0 3 + nI 1)) 4 (nI k) := by
    rw [F2o 7 0 0 (by omega) (by omega) (by omega)]
    rfl
  have F9 : (tkN cn q g (pm k) (feF F ch k, W) 8).1 9 0 0 = F 9 0 0 := by
    rw [F2o 9 0 0 (by omega) (by omega) (by omega)]
    rfl
  have F12 : (tkN cn q g (pm k) (feF F ch k, W) 8).1 12 0 0 = upd (F 12 0 0) k (F 12 0 0 k + nI 1) := by
    rw [F2o 12 0 0 (by omega) (by omega) (by omega)]
    rfl
  have hr8 := rmB_iff.mp (Bool.and_eq_true_iff.mp hen).2
  have R := fire_2 (N := N) (RuR.row hRu F2r (fun kk h1 h2 => G2r kk h1 (by omega))) T.1 T.2.1 T.2.2 (by rw [F2r 17 (by omega) (by omega)]) (by rw [F2r 17 (by omega) (by omega)]) (by rw [F7, G30, upd_n (by omega), upd_s, upd_s, hN.2.2.2.2.2.2.1]) (by rw [F9]; exact hN.2.2.1) (by rw [G30, upd_n (by omega), upd_n (by omega)]; exact hN.2.2.2.1) (by rw [F7, upd_s]) hk (fun i hi => by
      rw [F12, G2r 41 (by omega) (by omega), hN.2.2.2.2.2.1 k hk]
      by_cases e : i = k
      · rw [e, upd_s, upd_s]
      · rw [upd_n e, upd_n e]
        exact hN.2.2.2.2.2.1 i hi) hN.2.2.2.2.1 (m := omM G k) (by rw [G2r 36 (by omega) (by omega)]; exact om1) om2 (fun c hc => by
      have h1 := hr8 c hc
      rw [om3] at h1
      rw [F2r 19 (by omega) (by omega), F2r 18 (by omega) (by omega)]
      unfold rmQ at h1
      unfold qT
      by_cases hu : usP (F 17 (pm k) 0 0) (nI c)
      · rw [if_pos ⟨hc, hu⟩]
        rw [if_pos hu] at h1
        exact h1
      · rw [if_neg (fun z => hu z.2)]
        rw [if_neg hu, Nat.sub_zero] at h1
        exact h1)
  rw [F2r 19 (by omega) (by omega), F2r 18 (by omega) (by omega)] at R
  unfold qF
  rw [om3]
  exact ⟨R.1, R.2, hcn⟩
