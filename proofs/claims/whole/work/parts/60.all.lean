/-- the whole of both states -/
def AllR (F : xFm) (W : xWm) (pm : Nat → Nat) (G : xFm) (B : xWm) (q : Nat → Nat) (g N rn po bl sv : Nat) : Prop :=
  NoR F W G B q g N ∧ (sv = 1 → ∃ q' g', KpR F W G B q' g' N) ∧ (F 0 0 0 8 = nI sv ∧ G 30 0 0 39 = nI sv ∧ sv ≤ 1) ∧
  (F 0 0 0 4 = nI rn ∧ G 30 0 0 3 = nI rn ∧ rn ≤ 8) ∧ (∀ i, i < rn → RuR F (pm i) G i) ∧ ((∀ i, i < 9 → pm i < 9) ∧ ∀ i j, i < 9 → j < 9 → pm i = pm j → i = j) ∧
  (F 0 0 0 5 = nI po ∧ G 30 0 0 13 = nI po ∧ po ≤ 2) ∧ (F 0 0 0 1 = nI bl ∧ G 30 0 0 1 = nI bl ∧ bl ≤ 40) ∧ ∀ i, i < bl → F 1 0 0 i = G 32 0 0 i ∧ ∃ cd, F 1 0 0 i = nI cd ∧ cd < 1000
theorem StR.row {F F' : xFm} {W W' : xWm} {s : Nat} {q : Nat → Nat} {g N : Nat} {L V S T st rp fi go L' V' S' T' st' rp' fi' go' : Nat → Int32} {wa wa' : Nat → Int64} {ck gv la ck' gv' la' : Int32} (h : StR F W s q g N L V S T st rp fi go wa ck gv la) (h7 : F' 7 s 0 = F 7 s 0) (h9 : F' 9 s 0 = F 9 s 0) (h10 : F' 10 s 0 = F 10 s 0) (h11 : F' 11 s 0 = F 11 s 0) (h12 : F' 12 s 0 = F 12 s 0) (h13 : ∀ k c, 13 ≤ k → k ≤ 16 → c < 8 → F' k s c = F k s c) (hW : ∀ c, c < 8 → W' 13 s c = W 13 s c) (e1 : L' = L) (e2 : V' = V) (e3 : S' = S) (e4 : T' = T) (e5 : st' = st) (e6 : rp' = rp) (e7 : fi' = fi) (e8 : go' = go) (e9 : wa' = wa) (e10 : ck' = ck) (e11 : gv' = gv) (e12 : la' = la) : StR F' W' s q g N L' V' S' T' st' rp' fi' go' wa' ck' gv' la' := by
  subst e1 e2 e3 e4 e5 e6 e7 e8 e9 e10 e11 e12
  obtain ⟨a1, a2, a3, a4, a5, a6, a7, a8, a9⟩ := h
  refine ⟨fun c hc => ?_, ?_, by rw [h9]; exact a3, a4, a5, by rw [h12]; exact a6, by rw [h7]; exact a7, by rw [h7]; exact a8, a9⟩
  · rw [h13 13 c (by omega) (by omega) hc, h13 14 c (by omega) (by omega) hc, h13 15 c (by omega) (by omega) hc, h13 16 c (by omega) (by omega) hc, hW c hc]
    exact a1 c hc
  · rw [h10, h11]
    exact a2
/-- rows of the class that tell nothing: reader, chosen, taken; the reader's rule -/
def sF (F F' : xFm) (r : Nat) : Prop := ∀ k i j, k ≠ 2 → k ≠ 4 → k ≠ 5 → k ≠ 6 → ¬ (17 ≤ k ∧ i = r) → F' k i j = F k i j
/-- rows of the reference that tell nothing -/
def sG (G G' : xFm) : Prop := (∀ k i j, k ≠ 30 → k ≠ 58 → (k < 62 ∨ 65 < k) → k ≠ 66 → k ≠ 67 → k ≠ 68 → G' k i j = G k i j) ∧ ∀ n, 0 < n → (n < 24 ∨ 31 < n) → G' 30 0 0 n = G 30 0 0 n
theorem sF.rf {F : xFm} {r : Nat} : sF F F r := fun _ _ _ _ _ _ _ _ => rfl
theorem sF.ch {F : xFm} {r : Nat} {ch : Nat → Int32} : sF F (fr F 4 0 0 ch) r := fun k i j _ h _ _ _ => fr_k h
theorem sF.rd {F F' : xFm} {r : Nat} (h : sRw F F' r) : sF F F' r := fun k i j a _ _ _ b => h k i j a b
theorem sG.rf {G : xFm} : sG G G := ⟨fun _ _ _ _ _ _ _ _ _ => rfl, fun _ _ _ => rfl⟩
theorem sG.tr {G G' G'' : xFm} (h1 : sG G G') (h2 : sG G' G'') : sG G G'' := ⟨fun k i j a b c d e f => (h2.1 k i j a b c d e f).trans (h1.1 k i j a b c d e f), fun n a b => (h2.2 n a b).trans (h1.2 n a b)⟩
theorem sG.t {G : xFm} {x : Int32} : sG G (tS G x) := ⟨fun k i j a _ _ _ _ _ => fr_k a, fun n h _ => by unfold tS; rw [fr_s, upd_n (by omega)]⟩
theorem sG.ch {G : xFm} {ch : Nat → Int32} : sG G (fr G 66 0 0 ch) := ⟨fun k i j _ _ _ a _ _ => fr_k a, fun n _ _ => by rw [fr_k (by omega)]⟩
theorem sG.p {G G' : xFm} (h : pO G G') : sG G G' := ⟨fun k i j a b c _ _ _ => h.1 k i j a b c, fun n _ b => h.2 n b⟩
section
variable {F F' : xFm} {W : xWm} {pm : Nat → Nat} {G G' : xFm} {B B' : xWm} {q : Nat → Nat} {g N rn po bl sv : Nat}
theorem AllR.row (h : AllR F W pm G B q g N rn po bl sv) (hF : sF F F' (pm 8)) (hG : sG G G') (h53 : B' 53 0 0 = B 53 0 0) (h81 : B' 81 0 0 = B 81 0 0) : AllR F' W pm G' B' q g N rn po bl sv := by
  obtain ⟨a1, a2, a3, a4, a5, a6, a7, a8, a9⟩ := h
  have f : ∀ k i j, k ≠ 2 → k ≠ 4 → k ≠ 5 → k ≠ 6 → k < 17 → F' k i j = F k i j := fun k i j a b c d e => hF k i j a b c d (by omega)
  have gk : ∀ k, 31 ≤ k → k ≠ 58 → (k < 62 ∨ 68 < k) → G' k 0 0 = G k 0 0 := fun k a b c => hG.1 k 0 0 (by omega) b (by omega) (by omega) (by omega) (by omega)
  have f0 := f 0 0 0 (by omega) (by omega) (by omega) (by omega) (by omega)
  refine ⟨?_, fun hs => ?_, ?_, ?_, fun i hi => ?_, a6, ?_, ?_, ?_⟩
  · exact StR.row a1 (f _ _ _ (by omega) (by omega) (by omega) (by omega) (by omega)) (f _ _ _ (by omega) (by omega) (by omega) (by omega) (by omega)) (f _ _ _ (by omega) (by omega) (by omega) (by omega) (by omega)) (f _ _ _ (by omega) (by omega) (by omega) (by omega) (by omega)) (f _ _ _ (by omega) (by omega) (by omega) (by omega) (by omega)) (fun k c h1 h2 h3 => f _ _ _ (by omega) (by omega) (by omega) (by omega) (by omega)) (fun _ _ => rfl) (gk 44 (by omega) (by omega) (by omega)) (gk 45 (by omega) (by omega) (by omega)) (gk 46 (by omega) (by omega) (by omega)) (gk 47 (by omega) (by omega) (by omega)) (gk 50 (by omega) (by omega) (by omega)) (gk 51 (by omega) (by omega) (by omega)) (gk 41 (by omega) (by omega) (by omega)) (gk 52 (by omega) (by omega) (by omega)) h53 (hG.2 18 (by omega) (by omega)) (hG.2 19 (by omega) (by omega)) (hG.2 12 (by omega) (by omega))
  · obtain ⟨q', g', a⟩ := a2 hs
    exact ⟨q', g', StR.row a (f _ _ _ (by omega) (by omega) (by omega) (by omega) (by omega)) (f _ _ _ (by omega) (by omega) (by omega) (by omega) (by omega)) (f _ _ _ (by omega) (by omega) (by omega) (by omega) (by omega)) (f _ _ _ (by omega) (by omega) (by omega) (by omega) (by omega)) (f _ _ _ (by omega) (by omega) (by omega) (by omega) (by omega)) (fun k c h1 h2 h3 => f _ _ _ (by omega) (by omega) (by omega) (by omega) (by omega)) (fun _ _ => rfl) (gk 73 (by omega) (by omega) (by omega)) (gk 74 (by omega) (by omega) (by omega)) (gk 75 (by omega) (by omega) (by omega)) (gk 76 (by omega) (by omega) (by omega)) (gk 77 (by omega) (by omega) (by omega)) (gk 78 (by omega) (by omega) (by omega)) (gk 79 (by omega) (by omega) (by omega)) (gk 80 (by omega) (by omega) (by omega)) h81 (hG.2 40 (by omega) (by omega)) (hG.2 41 (by omega) (by omega)) (hG.2 42 (by omega) (by omega))⟩
  · rw [f0, hG.2 39 (by omega) (by omega)]
    exact a3
  · rw [f0, hG.2 3 (by omega) (by omega)]
    exact a4
  · have hne : pm i ≠ pm 8 := fun z => by
      have := a6.2 i 8 (by omega) (by omega) z
      omega
    exact RuR.row (a5 i hi) (fun k h1 h2 => hF k (pm i) 0 (by omega) (by omega) (by omega) (by omega) (fun z => hne z.2)) (fun k h1 h2 => gk k (by omega) (by omega) (by omega))
  · rw [f0, hG.2 13 (by omega) (by omega)]
    exact a7
  · rw [f0, hG.2 1 (by omega) (by omega)]
    exact a8
  · rw [f 1 0 0 (by omega) (by omega) (by omega) (by omega) (by omega), gk 32 (by omega) (by omega) (by omega)]
    exact a9
theorem StR.up {F : xFm} {W : xWm} {s : Nat} {q : Nat → Nat} {g N N' : Nat} {L V S T st rp fi go : Nat → Int32} {wa : Nat → Int64} {ck gv la : Int32} (h : StR F W s q g N L V S T st rp fi go wa ck gv la) (hN : N ≤ N') : StR F W s q g N' L V S T st rp fi go wa ck gv la := by
  obtain ⟨a1, a2, a3, a4, a5, a6⟩ := h
  exact ⟨a1, a2, a3, a4, Nat.le_trans a5 hN, a6⟩
theorem AllR.up {N' : Nat} (h : AllR F W pm G B q g N rn po bl sv) (hN : N ≤ N') : AllR F W pm G B q g N' rn po bl sv := by
  obtain ⟨a1, a2, a3⟩ := h
  exact ⟨StR.up a1 hN, fun hs => by obtain ⟨q', g', a⟩ := a2 hs; exact ⟨q', g', StR.up a hN⟩, a3⟩
theorem AllR.rw (h : AllR F W pm G B q g N rn po bl sv) : ∀ i, i < rn → rwf F (pm i) := fun i hi => (h.2.2.2.2.1 i hi).wf
theorem rdy_all {r : Nat} : rdy F q r := fun h c hc hu => rdy_of h hc hu
theorem AllR.rm (h : AllR F W pm G B q g N rn po bl sv) : rM G q rn (gaM G) (gbM G) (omM G) (mtC F q pm) := rM_of h.1.qu h.2.2.2.2.1
theorem AllR.en (h : AllR F W pm G B q g N rn po bl sv) : bmk (fun i => enF F q (pm i)) rn = bmk (enM G q (omM G) (mtC F q pm)) rn := bmk_cong (fun i hi => (enM_of (h.2.2.2.2.1 i hi)).symm)
theorem AllR.nx (h : AllR F W pm G B q g N rn po bl sv) {s0 : Nat} : nxL (fun i => enF F q (pm i)) (F 12 0 0) po rn s0 rn 0 none = nxL (enM G q (omM G) (mtC F q pm)) (G 41 0 0) po rn s0 rn 0 none := by
  by_cases h0 : 0 < rn
  · exact nxL_cong (fun i hi => (enM_of (h.2.2.2.2.1 i hi)).symm) (fun i hi => h.1.2.2.2.2.2.1 i (by have := h.2.2.2.1.2.2; omega)) h0 (fun k hk => by cases hk)
  · have : rn = 0 := by omega
    subst this
    rfl
theorem AllR.rd (h : AllR F W pm G B q g N rn po bl sv) : bmk (fun r => decide (F 17 (pm r) 0 0 &&& wtM q = F 17 (pm r) 0 0)) rn = bmk (fun r => decide (G 34 0 0 r &&& wtM q = G 34 0 0 r)) rn := bmk_cong (fun i hi => by rw [(h.2.2.2.2.1 i hi).1])
theorem qmx_cong {v t k v' t' k' : Nat → Int32} {x : Int64} : ∀ {n : Nat}, (∀ i, i < n → v i = v' i ∧ t i = t' i ∧ k i = k' i) → qmx v t k x n = qmx v' t' k' x n
  | 0, _ => rfl
  | n + 1, h => by
    rw [qmx, qmx, qmx_cong (n := n) (fun i hi => h i (by omega)), (h n (by omega)).1, (h n (by omega)).2.1, (h n (by omega)).2.2]
theorem tmx_cong {st rp st' rp' : Nat → Int32} {x : Int64} {t0 : Nat} (h : ∀ t, t < 24 → st t = st' t ∧ (st' t = nI 1 → rp t = rp' t)) : ∀ {n : Nat}, tmx st rp x t0 n = tmx st' rp' x t0 n
  | 0 => rfl
  | n + 1 => by
    have h1 := h ((t0 + n) % 24) (Nat.mod_lt _ (by omega))
    rw [tmx, tmx, tmx_cong h (n := n), h1.1]
    by_cases e : st' ((t0 + n) % 24) = nI 1
    · rw [if_pos e, if_pos e, h1.2 e]
    · rw [if_neg e, if_neg e]
theorem rmx_cong {a b a' b' : Nat → Int32} {x : Int64} : ∀ {n : Nat}, (∀ i, i < n → a i = a' i ∧ b i = b' i) → rmx a b x n = rmx a' b' x n
  | 0, _ => rfl
  | n + 1, h => by rw [rmx, rmx, rmx_cong (n := n) (fun i hi => h i (by omega)), (h n (by omega)).1, (h n (by omega)).2]
theorem bmx_cong {a a' : Nat → Int32} {x : Int64} : ∀ {n : Nat}, (∀ i, i < n → a i = a' i) → bmx a x n = bmx a' x n
  | 0, _ => rfl
  | n + 1, h => by rw [bmx, bmx, bmx_cong (n := n) (fun i hi => h i (by omega)), h n (by omega)]
theorem AllR.dA (h : AllR F W pm G B q g N rn po bl sv) {x : Int64} : ∀ {n : Nat}, n ≤ 8 → dgA F q x n = mgA G q x n
  | 0, _ => rfl
  | n + 1, hn => by
    rw [dgA, mgA, AllR.dA h (n := n) (by omega)]
    exact qmx_cong (fun i hi => ⟨((h.1.1 n (by omega)).2.2.2.2.2 i hi).1, ((h.1.1 n (by omega)).2.2.2.2.2 i hi).2.1, ((h.1.1 n (by omega)).2.2.2.2.2 i hi).2.2.1⟩)
theorem AllR.dB (h : AllR F W pm G B q g N rn po bl sv) {x : Int64} : ∀ {n : Nat}, n ≤ 8 → dgB F W x n = mgB G B x n
  | 0, _ => rfl
  | n + 1, hn => by
    rw [dgB, mgB, AllR.dB h (n := n) (by omega), (h.1.1 n (by omega)).2.2.2.1, (h.1.1 n (by omega)).2.2.2.2.1]
/-- the digests agree -/
theorem AllR.dg (h : AllR F W pm G B q g N rn po bl sv) {s0 : Nat} {x : Int64} : dgE F W pm q rn g po bl (nxL (fun i => enF F q (pm i)) (F 12 0 0) po rn s0 rn 0 none) x = dgM G B q rn g po bl (enM G q (omM G) (mtC F q pm)) (nxL (enM G q (omM G) (mtC F q pm)) (G 41 0 0) po rn s0 rn 0 none) x := by
  unfold dgE dgM
  rw [h.nx, h.en, h.rd, h.dA (Nat.le_refl 8), h.dB (Nat.le_refl 8), tmx_cong h.1.2.1, h.1.2.2.2.2.2.2.1, rmx_cong (n := rn) (fun i hi => ⟨(h.2.2.2.2.1 i hi).1, h.1.2.2.2.2.2.1 i (by have := h.2.2.2.1.2.2; omega)⟩), bmx_cong (fun i hi => (h.2.2.2.2.2.2.2.2 i hi).1)]
end
