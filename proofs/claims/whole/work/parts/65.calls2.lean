section
variable {F F' : xFm} {W W' : xWm} {pm : Nat → Nat} {G G' : xFm} {B B' : xWm} {q : Nat → Nat} {g N rn po bl sv : Nat}
/-- a rule removed -/
theorem AllR.rem (h : AllR F W pm G B q g N rn po bl sv) {x : Nat} (hx : x < rn) : AllR (rvE F x rn) W (va_up (sh pm x (rn - 1)) (rn - 1) (pm x)) (mRe G x rn) B q g N (rn - 1) po bl 0 := by
  obtain ⟨a1, a2, a3, a4, a5, a6, a7, a8, a9⟩ := h
  have rn8 := a4.2.2
  have hF : ∀ k i j, k ≠ 0 → k ≠ 12 → ¬ (k = 7 ∧ i = 0) → rvE F x rn k i j = F k i j := fun k i j h1 h2 h3 => by
    unfold rvE rvF
    rw [fr_k h1, fr_n (by omega), fr_k h2, fr_k h1]
  have f0 : rvE F x rn 0 0 0 = upd (upd (F 0 0 0) 4 (nI (rn - 1))) 8 (nI 0) := fr_s
  have f12 : rvE F x rn 12 0 0 = sh (F 12 0 0) x (rn - 1) := by
    unfold rvE rvF
    rw [fr_k (by omega), fr_k (by omega), fr_s]
  have f7 : rvE F x rn 7 0 0 = if nI x ≤ F 7 0 0 4 then upd (F 7 0 0) 4 (F 7 0 0 4 - nI 1) else F 7 0 0 := by
    unfold rvE
    rw [fr_k (by omega), fr_s]
  have hG : ∀ k i j, k ≠ 30 → (k < 34 ∨ 41 < k) → mRe G x rn k i j = G k i j := fun k i j h1 h2 => by
    unfold mRe mRw mR0
    rw [fr_k h1, fr_k (by omega), fr_k (by omega), fr_k (by omega), fr_k (by omega), fr_k (by omega), fr_k (by omega), fr_k (by omega), fr_k (by omega), fr_k h1]
  have g30 : mRe G x rn 30 0 0 = upd (upd (upd (upd (G 30 0 0) 0 (nI 0)) 3 (nI (rn - 1))) 12 (if G 30 0 0 12 < nI x then G 30 0 0 12 else G 30 0 0 12 - nI 1)) 39 (nI 0) := fr_s
  have g34 : mRe G x rn 34 0 0 = sh (G 34 0 0) x (rn - 1) := rfl
  have g36 : mRe G x rn 36 0 0 = sh (G 36 0 0) x (rn - 1) := rfl
  have g41 : mRe G x rn 41 0 0 = sh (G 41 0 0) x (rn - 1) := rfl
  have g35 : mRe G x rn 35 0 0 = shS (G 35 0 0) 3 (3 * x) (3 * (rn - 1)) := rfl
  have g37 : mRe G x rn 37 0 0 = shS (G 37 0 0) 4 (4 * x) (4 * (rn - 1)) := rfl
  have g38 : mRe G x rn 38 0 0 = shS (G 38 0 0) 4 (4 * x) (4 * (rn - 1)) := rfl
  have g39 : mRe G x rn 39 0 0 = shS (G 39 0 0) 12 (12 * x) (12 * (rn - 1)) := rfl
  have g40 : mRe G x rn 40 0 0 = shS (G 40 0 0) 12 (12 * x) (12 * (rn - 1)) := rfl
  refine ⟨?_, fun z => absurd z (by omega), ?_, ?_, fun i hi => ?_, ?_, ?_, ?_, ?_⟩
  · obtain ⟨b1, b2, b3, b4, b5, b6, b7, b8, b9⟩ := a1
    refine ⟨fun c hc => ?_, ?_, ?_, ?_, b5, fun i hi => ?_, ?_, ?_, ?_⟩
    · rw [hF 13 _ _ (by omega) (by omega) (by omega), hF 14 _ _ (by omega) (by omega) (by omega), hF 15 _ _ (by omega) (by omega) (by omega), hF 16 _ _ (by omega) (by omega) (by omega), hG 44 _ _ (by omega) (by omega), hG 45 _ _ (by omega) (by omega), hG 46 _ _ (by omega) (by omega), hG 47 _ _ (by omega) (by omega), hG 52 _ _ (by omega) (by omega)]
      exact b1 c hc
    · rw [hF 10 _ _ (by omega) (by omega) (by omega), hF 11 _ _ (by omega) (by omega) (by omega), hG 50 _ _ (by omega) (by omega), hG 51 _ _ (by omega) (by omega)]
      exact b2
    · rw [hF 9 _ _ (by omega) (by omega) (by omega)]
      exact b3
    · rw [g30, upd_n (by omega), upd_n (by omega), upd_n (by omega), upd_n (by omega)]
      exact b4
    · rw [f12, g41, sh_a, sh_a]
      by_cases e : x ≤ i ∧ i < rn - 1
      · rw [if_pos e, if_pos e]
        exact b6 (i + 1) (by omega)
      · rw [if_neg e, if_neg e]
        exact b6 i hi
    · rw [f7, g30, upd_n (by omega), upd_n (by omega), upd_n (by omega), upd_n (by omega)]
      split
      · rw [upd_n (by omega)]
        exact b7
      · exact b7
    · rw [f7, g30, upd_n (by omega), upd_s, ← b8]
      by_cases e : nI x ≤ F 7 0 0 4
      · rw [if_pos e, if_neg (Int32.not_lt.mpr e), upd_s]
      · rw [if_neg e, if_pos (Int32.not_le.mp e)]
    · rw [g30, upd_n (by omega), upd_s]
      obtain ⟨z, z8, hz⟩ := b9
      by_cases e : G 30 0 0 12 < nI x
      · rw [if_pos e]
        exact ⟨z, z8, hz⟩
      · rw [if_neg e]
        have ela : G 30 0 0 12 = nI z - nI 1 := by rw [← hz, Int32.add_sub_cancel]
        have z0 : z ≠ 0 := by
          intro z0
          subst z0
          rw [ela] at e
          have : nI 0 - nI 1 < nI x := by
            have h1 : nI 0 - nI 1 < 0 := by decide
            exact Int32.lt_of_lt_of_le h1 (nI_pos' (by omega))
          exact e this
        obtain ⟨w, rfl⟩ : ∃ w, z = w + 1 := ⟨z - 1, by omega⟩
        refine ⟨w, by omega, ?_⟩
        rw [ela, ← nI_add w 1, Int32.add_sub_cancel, Int32.sub_add_cancel]
  · rw [f0, g30, upd_s, upd_s]
    exact ⟨rfl, rfl, by omega⟩
  · rw [f0, g30, upd_n (by omega), upd_s, upd_n (by omega), upd_n (by omega), upd_s]
    exact ⟨rfl, rfl, by omega⟩
  · have hi' : i ≠ rn - 1 := by omega
    rw [va_up_ne _ _ hi']
    by_cases e : x ≤ i
    · have ep : sh pm x (rn - 1) i = pm (i + 1) := by
        unfold sh
        rw [if_pos (by omega)]
      rw [ep]
      exact (a5 (i + 1) (by omega)).idx (fun k h1 h2 => hF _ _ _ (by omega) (by omega) (by omega)) (by rw [g34, sh_a, if_pos (by omega)]) (fun t ht => by rw [g35]; unfold shS; rw [if_pos (by omega)]; congr 1; omega) (by rw [g36, sh_a, if_pos (by omega)]) (fun t ht => by rw [g37]; unfold shS; rw [if_pos (by omega)]; congr 1; omega) (fun t ht => by rw [g38]; unfold shS; rw [if_pos (by omega)]; congr 1; omega) (fun t ht => by rw [g39]; unfold shS; rw [if_pos (by omega)]; congr 1; omega) (fun t ht => by rw [g40]; unfold shS; rw [if_pos (by omega)]; congr 1; omega)
    · have ep : sh pm x (rn - 1) i = pm i := by
        unfold sh
        rw [if_neg (by omega)]
      rw [ep]
      exact (a5 i (by omega)).idx (fun k h1 h2 => hF _ _ _ (by omega) (by omega) (by omega)) (by rw [g34, sh_a, if_neg (by omega)]) (fun t ht => by rw [g35]; unfold shS; rw [if_neg (by omega)]) (by rw [g36, sh_a, if_neg (by omega)]) (fun t ht => by rw [g37]; unfold shS; rw [if_neg (by omega)]) (fun t ht => by rw [g38]; unfold shS; rw [if_neg (by omega)]) (fun t ht => by rw [g39]; unfold shS; rw [if_neg (by omega)]) (fun t ht => by rw [g40]; unfold shS; rw [if_neg (by omega)])
  · refine pm_of (σ := fun i => if i = rn - 1 then x else if x ≤ i ∧ i < rn - 1 then i + 1 else i) a6 (fun i hi => ?_) (fun i hi => ?_) (fun i j hi hj => ?_)
    · by_cases e : i = rn - 1
      · rw [e, va_up_self, if_pos rfl]
      · rw [va_up_ne _ _ e, if_neg e]
        unfold sh
        by_cases e8 : x ≤ i ∧ i < rn - 1
        · rw [if_pos e8, if_pos e8]
        · rw [if_neg e8, if_neg e8]
    · split
      · omega
      · split <;> omega
    · split <;> split <;> (try split) <;> (try split) <;> omega
  · rw [f0, g30, upd_n (by omega), upd_n (by omega), upd_n (by omega), upd_n (by omega), upd_n (by omega), upd_n (by omega)]
    exact a7
  · rw [f0, g30, upd_n (by omega), upd_n (by omega), upd_n (by omega), upd_n (by omega), upd_n (by omega), upd_n (by omega)]
    exact a8
  · rw [hF 1 _ _ (by omega) (by omega) (by omega), hG 32 _ _ (by omega) (by omega)]
    exact a9
/-- what now is changes; what is kept and the rest stay -/
theorem AllR.now {q' : Nat → Nat} {g' N' : Nat} (h : AllR F W pm G B q g N rn po bl sv) (hN : NoR F' W' G' B' q' g' N') (hNN : N ≤ N') (hF : ∀ k i j, (k < 2 ∨ 17 ≤ k ∨ i = 1) → F' k i j = F k i j) (hW : ∀ c, W' 13 1 c = W 13 1 c) (hG : ∀ k, (k = 32 ∨ (34 ≤ k ∧ k ≤ 40) ∨ 73 ≤ k) → G' k 0 0 = G k 0 0) (hn : ∀ n, n = 1 ∨ n = 3 ∨ n = 13 ∨ n = 39 ∨ n = 40 ∨ n = 41 ∨ n = 42 → G' 30 0 0 n = G 30 0 0 n) (h81 : B' 81 0 0 = B 81 0 0) : AllR F' W' pm G' B' q' g' N' rn po bl sv := by
  obtain ⟨a1, a2, a3, a4, a5, a6, a7, a8, a9⟩ := h
  have f0 := hF 0 0 0 (by omega)
  refine ⟨hN, fun hs => ?_, ?_, ?_, fun i hi => ?_, a6, ?_, ?_, ?_⟩
  · obtain ⟨q', g', a⟩ := a2 hs
    exact ⟨q', g', StR.up (StR.row a (hF _ _ _ (by omega)) (hF _ _ _ (by omega)) (hF _ _ _ (by omega)) (hF _ _ _ (by omega)) (hF _ _ _ (by omega)) (fun k c h1 h2 h3 => hF _ _ _ (by omega)) (fun c _ => hW c) (hG 73 (by omega)) (hG 74 (by omega)) (hG 75 (by omega)) (hG 76 (by omega)) (hG 77 (by omega)) (hG 78 (by omega)) (hG 79 (by omega)) (hG 80 (by omega)) h81 (hn 40 (by omega)) (hn 41 (by omega)) (hn 42 (by omega))) hNN⟩
  · rw [f0, hn 39 (by omega)]
    exact a3
  · rw [f0, hn 3 (by omega)]
    exact a4
  · exact RuR.row (a5 i hi) (fun k h1 h2 => hF _ _ _ (by omega)) (fun k h1 h2 => hG _ (by omega))
  · rw [f0, hn 13 (by omega)]
    exact a7
  · rw [f0, hn 1 (by omega)]
    exact a8
  · rw [hF 1 0 0 (by omega), hG 32 (by omega)]
    exact a9
theorem xPut_f {c n k i j : Nat} {v s t : Int32} (h : k < 13 ∨ 16 < k ∨ i ≠ 0) : xPut F 0 c n v s t k i j = F k i j := by
  unfold xPut
  rw [fr_n (by omega), fr_n (by omega), fr_n (by omega), fr_n (by omega)]
theorem mPut_f {c n k : Nat} {v t : Int32} (h : k < 44 ∨ 47 < k) : mPut G c n v t k 0 0 = G k 0 0 := by
  unfold mPut
  rw [fr_k (by omega), fr_k (by omega), fr_k (by omega), fr_k (by omega)]
/-- a message sent without a ticket -/
theorem AllR.senda (h : AllR F W pm G B q g N rn po bl sv) {c : Nat} (hc : c < 8) (hq : q c < 8) {v : Int32} (hv : bnd v) : AllR (xPut (xTi F) 0 c (q c) v (F 7 0 0 3 + nI 1) (-1)) W pm (mPut (mCk G) c (q c) v (-1)) B (va_up q c (q c + 1)) g N rn po bl sv := by
  obtain ⟨b1, b2, b3, b4, b5, b6, b7, b8, b9⟩ := id h.1
  have hQ : QcR (xTi F) W (mCk G) B q := QcR.row h.1.qc (fun kk c h1 h2 _ => fr_k (by omega)) (fun _ _ => rfl) rfl rfl rfl rfl rfl rfl
  have ht : xTi F 7 0 0 3 = mCk G 30 0 0 18 := by
    show F 7 0 0 3 + nI 1 = G 30 0 0 18 + nI 1
    rw [b7]
  have hp := put_q hQ hc hq hv ht (-1)
  refine h.now (N' := N) ⟨hp, ?_, ?_, ?_, b5, ?_, ?_, ?_, ?_⟩ (Nat.le_refl _) (fun k i j hk => ?_) (fun c => rfl) (fun k hk => ?_) (fun n hn => ?_) rfl
  · rw [xPut_f (by omega), xPut_f (by omega), mPut_f (by omega), mPut_f (by omega)]
    exact b2
  · rw [xPut_f (by omega)]
    exact b3
  · rw [mPut_f (by omega)]
    exact b4
  · rw [xPut_f (by omega), mPut_f (by omega)]
    exact b6
  · rw [xPut_f (by omega), mPut_f (by omega)]
    exact ht
  · rw [xPut_f (by omega), mPut_f (by omega)]
    exact b8
  · rw [mPut_f (by omega)]
    exact b9
  · rw [xPut_f (by omega)]
    exact fr_n (by omega)
  · rw [mPut_f (by omega)]
    unfold mCk tS
    rw [fr_k (by omega), fr_k (by omega)]
  · rw [mPut_f (by omega)]
    unfold mCk
    rw [fr_s, upd_n (by omega), upd_n (by omega)]
/-- a message sent with a ticket -/
theorem AllR.sends (h : AllR F W pm G B q g N rn po bl sv) {c : Nat} (hc : c < 8) (hq : q c < 8) {v : Int32} (hv : bnd v) : AllR (xPut (xGv (xTi F) 0 g) 0 c (q c) v (F 7 0 0 3 + nI 1) (nI g)) W pm (mPut (mGv G g) c (q c) v (nI g)) B (va_up q c (q c + 1)) (g + 1) (N + 1) rn po bl sv := by
  obtain ⟨b1, b2, b3, b4, b5, b6, b7, b8, b9⟩ := id h.1
  have g30 : mGv G g 30 0 0 = upd (upd (upd (G 30 0 0) 0 (nI 0)) 18 (G 30 0 0 18 + nI 1)) 19 (nI (g + 1)) := rfl
  have hQ : QcR (xGv (xTi F) 0 g) W (mGv G g) B q := QcR.row h.1.qc (fun kk c h1 h2 _ => by unfold xGv xTi; rw [fr_k (by omega), fr_k (by omega), fr_k (by omega), fr_k (by omega)]) (fun _ _ => rfl) rfl rfl rfl rfl rfl rfl
  have ht : xGv (xTi F) 0 g 7 0 0 3 = mGv G g 30 0 0 18 := by
    show F 7 0 0 3 + nI 1 = G 30 0 0 18 + nI 1
    rw [b7]
  have hp := put_q hQ hc hq hv ht (nI g)
  refine h.now (N' := N + 1) ⟨hp, ?_, ?_, ?_, by omega, ?_, ?_, ?_, ?_⟩ (by omega) (fun k i j hk => ?_) (fun c => rfl) (fun k hk => ?_) (fun n hn => ?_) rfl
  · rw [xPut_f (by omega), xPut_f (by omega), mPut_f (by omega), mPut_f (by omega)]
    have x10 : xGv (xTi F) 0 g 10 0 0 = upd (F 10 0 0) (g % 24) (nI 0) := rfl
    have x11 : xGv (xTi F) 0 g 11 0 0 = upd (F 11 0 0) (g % 24) (nI 0) := rfl
    have y50 : mGv G g 50 0 0 = upd (G 50 0 0) (g % 24) (nI 0) := rfl
    have y51 : mGv G g 51 0 0 = G 51 0 0 := rfl
    rw [x10, x11, y50, y51]
    intro t ht
    by_cases e : t = g % 24
    · rw [e, upd_s, upd_s, upd_s]
      exact ⟨rfl, fun z => absurd z (by decide)⟩
    · rw [upd_n e, upd_n e, upd_n e]
      exact b2 t ht
  · rw [xPut_f (by omega)]
    rfl
  · rw [mPut_f (by omega), g30, upd_s]
  · rw [xPut_f (by omega), mPut_f (by omega)]
    exact b6
  · rw [xPut_f (by omega), mPut_f (by omega)]
    exact ht
  · rw [xPut_f (by omega), mPut_f (by omega)]
    exact b8
  · rw [mPut_f (by omega)]
    exact b9
  · rw [xPut_f (by omega)]
    unfold xGv xTi
    rw [fr_n (by omega), fr_n (by omega), fr_n (by omega), fr_n (by omega)]
  · rw [mPut_f (by omega)]
    unfold mGv mCk tS
    rw [fr_k (by omega), fr_k (by omega), fr_k (by omega), fr_k (by omega)]
  · rw [mPut_f (by omega), g30, upd_n (by omega), upd_n (by omega), upd_n (by omega)]
theorem mcS_w {cn q : Nat → Nat} {g r c : Nat} {z : xFm × xWm} {k i j : Nat} (h : k ≠ 53) : (mcS cn q g r c z).2 k i j = z.2 k i j := by
  unfold mcS
  split
  · exact fr_k h
  · rfl
theorem mcN_w {cn q : Nat → Nat} {g r : Nat} {z : xFm × xWm} {k i j : Nat} (h : k ≠ 53) : ∀ e, (mcN cn q g r z e).2 k i j = z.2 k i j
  | 0 => rfl
  | e + 1 => (mcS_w h).trans (mcN_w h e)
/-- both sides fire -/
theorem AllR.fire (h : AllR F W pm G B q g N rn po bl sv) {k : Nat} (hk : k < rn) {cn : Nat → Nat} (hmt : mtC F q pm k = some cn) (hen : enF F q (pm k) = true) (ch ch' : Nat → Int32) :
    AllR (coN (pm k) g (oC F (pm k)) (tkN cn q g (pm k) (feF F ch k, W) 8).1) (tkN cn q g (pm k) (feF F ch k, W) 8).2 pm (mEnd (moN k g (omM G k) (mcN cn q g k (mF0 (tS G (nI 0)) ch', B) 8).1) k) (mcN cn q g k (mF0 (tS G (nI 0)) ch', B) 8).2 (qF F q (pm k)) g N rn po bl sv := by
  have rn8 := h.2.2.2.1.2.2
  refine h.now (fire_R h.1 (h.2.2.2.2.1 k hk) (by omega) hmt hen ch ch').1 (Nat.le_refl _) (fun kk i j hk => ?_) (fun c => ?_) (fun kk hk => ?_) (fun n hn => ?_) ?_
  · rw [coN_n (by omega) (by omega), (tkN_n (by omega) (by omega) (by omega) 8).1]
    exact feF_o (by omega) (by omega) (by omega)
  · exact (tkN_n (z := (feF F ch k, W)) (by omega) (by omega) (by omega) 8).2
  · unfold mEnd
    rw [fr_k (by omega), fr_k (by omega), moN_fix (by omega) (by omega) (by omega) (by omega) (by omega) (by omega), mcN_fix (by omega) (by omega) (by omega) (by omega) (by omega) (by omega) (by omega) (by omega) (by omega)]
    unfold mF0 tS
    dsimp only
    rw [fr_k (by omega), fr_n (by omega), fr_k (by omega)]
  · unfold mEnd
    rw [fr_s, upd_n (by omega), moN_fix (by omega) (by omega) (by omega) (by omega) (by omega) (by omega), mcN_fix (by omega) (by omega) (by omega) (by omega) (by omega) (by omega) (by omega) (by omega) (by omega)]
    unfold mF0 tS
    dsimp only
    rw [fr_s, upd_n (by omega), fr_s, upd_n (by omega)]
  · exact mcN_w (z := (mF0 (tS G (nI 0)) ch', B)) (by omega) 8
end
