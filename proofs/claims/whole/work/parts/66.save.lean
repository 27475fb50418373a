section
variable {F F' : xFm} {W W' : xWm} {pm : Nat → Nat} {G G' : xFm} {B B' : xWm} {q : Nat → Nat} {g N rn po bl sv : Nat}
theorem cpN_i {α : Type} {a b : Nat → α} {e j : Nat} (h : j < e) : cpN a b e j = a j := if_pos h
/-- a state carried over -/
theorem StR.cp {s t : Nat} {L V S T st rp fi go L' V' S' T' st' rp' fi' go' : Nat → Int32} {wa wa' : Nat → Int64} {ck gv la ck' gv' la' : Int32} (h : StR F W t q g N L V S T st rp fi go wa ck gv la) (hC : xCpd F W F' W' s t) (e1 : ∀ n, n < 8 → L' n = L n) (e2 : ∀ n, n < 64 → V' n = V n) (e3 : ∀ n, n < 64 → S' n = S n) (e4 : ∀ n, n < 64 → T' n = T n) (e5 : ∀ n, n < 24 → st' n = st n) (e6 : ∀ n, n < 24 → rp' n = rp n) (e7 : ∀ n, n < 8 → fi' n = fi n) (e8 : ∀ n, n < 8 → go' n = go n) (e9 : ∀ n, n < 8 → wa' n = wa n) (e10 : ck' = ck) (e11 : gv' = gv) (e12 : la' = la) : StR F' W' s q g N L' V' S' T' st' rp' fi' go' wa' ck' gv' la' := by
  subst e10 e11 e12
  obtain ⟨a1, a2, a3, a4, a5, a6, a7, a8, a9⟩ := h
  obtain ⟨c1, c2, c3, c4, c5, c6, c7⟩ := hC
  refine ⟨fun c hc => ?_, fun n hn => ?_, by rw [c4]; exact a3, a4, a5, fun i hi => by rw [c5 i hi, e7 i hi]; exact a6 i hi, by rw [c6]; exact a7, by rw [c7]; exact a8, a9⟩
  · obtain ⟨b1, b2, b3, b4, b5, b6⟩ := a1 c hc
    obtain ⟨d1, d2, d3, d4⟩ := c2 c hc
    rw [d1, d2, d3, e1 c hc, e8 c hc, e9 c hc]
    refine ⟨b1, b2, b3, b4, b5, fun k hk => ?_⟩
    obtain ⟨f1, f2, f3⟩ := d4 k (by omega)
    rw [f1, f2, f3, e2 _ (by omega), e3 _ (by omega), e4 _ (by omega)]
    exact b6 k hk
  · rw [(c3 n hn).1, (c3 n hn).2, e5 n hn, e6 n hn]
    exact a2 n hn
theorem msm_cong {f f' : Nat → Int32} : ∀ {n : Nat}, (∀ i, i < n → f i = f' i) → msm f n = msm f' n
  | 0, _ => rfl
  | n + 1, h => by rw [msm, msm, msm_cong (n := n) (fun i hi => h i (by omega)), h n (by omega)]
theorem mSv_73 : mSv G 73 0 0 = cpN (G 44 0 0) (G 73 0 0) 8 := rfl
theorem mSv_74 : mSv G 74 0 0 = cpN (G 45 0 0) (G 74 0 0) 64 := rfl
theorem mSv_75 : mSv G 75 0 0 = cpN (G 46 0 0) (G 75 0 0) 64 := rfl
theorem mSv_76 : mSv G 76 0 0 = cpN (G 47 0 0) (G 76 0 0) 64 := rfl
theorem mSv_77 : mSv G 77 0 0 = cpN (G 50 0 0) (G 77 0 0) 24 := rfl
theorem mSv_78 : mSv G 78 0 0 = cpN (G 51 0 0) (G 78 0 0) 24 := rfl
theorem mSv_79 : mSv G 79 0 0 = cpN (G 41 0 0) (G 79 0 0) 8 := rfl
theorem mSv_80 : mSv G 80 0 0 = cpN (G 52 0 0) (G 80 0 0) 8 := rfl
theorem mRs_44 : mRs G 44 0 0 = cpN (G 73 0 0) (G 44 0 0) 8 := rfl
theorem mRs_45 : mRs G 45 0 0 = cpN (G 74 0 0) (G 45 0 0) 64 := rfl
theorem mRs_46 : mRs G 46 0 0 = cpN (G 75 0 0) (G 46 0 0) 64 := rfl
theorem mRs_47 : mRs G 47 0 0 = cpN (G 76 0 0) (G 47 0 0) 64 := rfl
theorem mRs_50 : mRs G 50 0 0 = cpN (G 77 0 0) (G 50 0 0) 24 := rfl
theorem mRs_51 : mRs G 51 0 0 = cpN (G 78 0 0) (G 51 0 0) 24 := rfl
theorem mRs_41 : mRs G 41 0 0 = cpN (G 79 0 0) (G 41 0 0) 8 := rfl
theorem mRs_52 : mRs G 52 0 0 = cpN (G 80 0 0) (G 52 0 0) 8 := rfl
theorem mSv_30 : mSv G 30 0 0 = upd (upd (upd (upd (upd (G 30 0 0) 0 (nI 0)) 39 (nI 1)) 40 (G 30 0 0 18)) 41 (G 30 0 0 19)) 42 (G 30 0 0 12) := rfl
theorem mRs_30 : mRs G 30 0 0 = upd (upd (upd (upd (G 30 0 0) 0 (nI 0)) 18 (G 30 0 0 40)) 19 (G 30 0 0 41)) 12 (G 30 0 0 42) := rfl
theorem mSv_o {k : Nat} (h : k < 30 ∨ (30 < k ∧ k < 73) ∨ 80 < k) : mSv G k 0 0 = G k 0 0 := by
  unfold mSv
  rw [fr_k (by omega), fr_k (by omega), fr_k (by omega), fr_k (by omega), fr_k (by omega), fr_k (by omega), fr_k (by omega), fr_k (by omega), fr_k (by omega)]
theorem mRs_o {k : Nat} (h : k < 30 ∨ (30 < k ∧ k < 41) ∨ 52 < k) : mRs G k 0 0 = G k 0 0 := by
  unfold mRs
  rw [fr_k (by omega), fr_k (by omega), fr_k (by omega), fr_k (by omega), fr_k (by omega), fr_k (by omega), fr_k (by omega), fr_k (by omega), fr_k (by omega)]
theorem AllR.save (h : AllR F W pm G B q g N rn po bl sv) : msm (fun c => xSc F 1 0 13 0 c 3) 8 = msm (G 44 0 0) 8 ∧ AllR (fr (xSc F 1 0) 0 0 0 (upd (xSc F 1 0 0 0 0) 8 (nI 1))) (xWpE W 1 0 8) pm (mSv G) (fr B 81 0 0 (cpN (B 53 0 0) (B 81 0 0) 8)) q g N rn po bl 1 := by
  have C := xSc_cpd (F := F) (W := W) (s := 1) (t := 0) (by omega)
  have hF : ∀ k i j, k ≠ 0 → (i ≠ 1 ∨ k < 7 ∨ 16 < k) → fr (xSc F 1 0) 0 0 0 (upd (xSc F 1 0 0 0 0) 8 (nI 1)) k i j = F k i j := fun k i j h1 h2 => by
    rw [fr_k h1]
    exact (C.1 k i j h2).1
  have f0 : xSc F 1 0 0 0 0 = F 0 0 0 := (C.1 0 0 0 (by omega)).1
  obtain ⟨a1, a2, a3, a4, a5, a6, a7, a8, a9⟩ := h
  refine ⟨msm_cong (fun c hc => ?_), ?_, fun _ => ⟨q, g, ?_⟩, ?_, ?_, fun i hi => ?_, a6, ?_, ?_, ?_⟩
  · rw [(C.1 13 0 c (by omega)).1, (a1.1 c hc).1, (a1.1 c hc).2.2.1]
  · exact StR.row a1 (hF _ _ _ (by omega) (by omega)) (hF _ _ _ (by omega) (by omega)) (hF _ _ _ (by omega) (by omega)) (hF _ _ _ (by omega) (by omega)) (hF _ _ _ (by omega) (by omega)) (fun k c h1 h2 h3 => hF _ _ _ (by omega) (by omega)) (fun c _ => (C.1 13 0 c (by omega)).2) (mSv_o (by omega)) (mSv_o (by omega)) (mSv_o (by omega)) (mSv_o (by omega)) (mSv_o (by omega)) (mSv_o (by omega)) (mSv_o (by omega)) (mSv_o (by omega)) (fr_k (by omega)) rfl rfl rfl
  · refine StR.row (StR.cp (L' := mSv G 73 0 0) (V' := mSv G 74 0 0) (S' := mSv G 75 0 0) (T' := mSv G 76 0 0) (st' := mSv G 77 0 0) (rp' := mSv G 78 0 0) (fi' := mSv G 79 0 0) (go' := mSv G 80 0 0) (wa' := fr B 81 0 0 (cpN (B 53 0 0) (B 81 0 0) 8) 81 0 0) (ck' := mSv G 30 0 0 40) (gv' := mSv G 30 0 0 41) (la' := mSv G 30 0 0 42) a1 C (fun n hn => cpN_i hn) (fun n hn => cpN_i hn) (fun n hn => cpN_i hn) (fun n hn => cpN_i hn) (fun n hn => cpN_i hn) (fun n hn => cpN_i hn) (fun n hn => cpN_i hn) (fun n hn => cpN_i hn) (fun n hn => by rw [fr_s]; exact cpN_i hn) rfl rfl rfl) (fr_k (by omega)) (fr_k (by omega)) (fr_k (by omega)) (fr_k (by omega)) (fr_k (by omega)) (fun k c h1 h2 h3 => fr_k (by omega)) (fun _ _ => rfl) rfl rfl rfl rfl rfl rfl rfl rfl rfl rfl rfl rfl
  · rw [fr_s, upd_s, mSv_30, upd_n (by omega), upd_n (by omega), upd_n (by omega), upd_s]
    exact ⟨rfl, rfl, by omega⟩
  · rw [fr_s, upd_n (by omega), f0]
    exact a4
  · exact RuR.row (a5 i hi) (fun k h1 h2 => hF _ _ _ (by omega) (by omega)) (fun k h1 h2 => mSv_o (by omega))
  · rw [fr_s, upd_n (by omega), f0]
    exact a7
  · rw [fr_s, upd_n (by omega), f0]
    exact a8
  · rw [hF 1 0 0 (by omega) (by omega), mSv_o (by omega)]
    exact a9
theorem AllR.restore (h : AllR F W pm G B q g N rn po bl sv) (hs : sv = 1) : ∃ q' g', msm (fun c => xSc F 0 1 13 0 c 3) 8 = msm (mRs G 44 0 0) 8 ∧ AllR (xSc F 0 1) (xWpE W 0 1 8) pm (mRs G) (fr B 53 0 0 (cpN (B 81 0 0) (B 53 0 0) 8)) q' g' N rn po bl sv := by
  have C := xSc_cpd (F := F) (W := W) (s := 0) (t := 1) (by omega)
  have hF : ∀ k i j, (i ≠ 0 ∨ k < 7 ∨ 16 < k) → xSc F 0 1 k i j = F k i j := fun k i j h2 => (C.1 k i j h2).1
  obtain ⟨a1, a2, a3, a4, a5, a6, a7, a8, a9⟩ := h
  obtain ⟨q', g', a⟩ := a2 hs
  have hN : NoR (xSc F 0 1) (xWpE W 0 1 8) (mRs G) (fr B 53 0 0 (cpN (B 81 0 0) (B 53 0 0) 8)) q' g' N := StR.cp (L' := mRs G 44 0 0) (V' := mRs G 45 0 0) (S' := mRs G 46 0 0) (T' := mRs G 47 0 0) (st' := mRs G 50 0 0) (rp' := mRs G 51 0 0) (fi' := mRs G 41 0 0) (go' := mRs G 52 0 0) (wa' := fr B 53 0 0 (cpN (B 81 0 0) (B 53 0 0) 8) 53 0 0) (ck' := mRs G 30 0 0 18) (gv' := mRs G 30 0 0 19) (la' := mRs G 30 0 0 12) a C (fun n hn => cpN_i hn) (fun n hn => cpN_i hn) (fun n hn => cpN_i hn) (fun n hn => cpN_i hn) (fun n hn => cpN_i hn) (fun n hn => cpN_i hn) (fun n hn => cpN_i hn) (fun n hn => cpN_i hn) (fun n hn => by rw [fr_s]; exact cpN_i hn) rfl rfl rfl
  refine ⟨q', g', msm_cong (fun c hc => ?_), hN, fun _ => ⟨q', g', ?_⟩, ?_, ?_, fun i hi => ?_, a6, ?_, ?_, ?_⟩
  · rw [(hN.1 c hc).1, (hN.1 c hc).2.2.1]
  · exact StR.row a (hF _ _ _ (by omega)) (hF _ _ _ (by omega)) (hF _ _ _ (by omega)) (hF _ _ _ (by omega)) (hF _ _ _ (by omega)) (fun k c h1 h2 h3 => hF _ _ _ (by omega)) (fun c _ => (C.1 13 1 c (by omega)).2) (mRs_o (by omega)) (mRs_o (by omega)) (mRs_o (by omega)) (mRs_o (by omega)) (mRs_o (by omega)) (mRs_o (by omega)) (mRs_o (by omega)) (mRs_o (by omega)) (fr_k (by omega)) rfl rfl rfl
  · rw [hF 0 0 0 (by omega), mRs_30, upd_n (by omega), upd_n (by omega), upd_n (by omega), upd_n (by omega)]
    exact a3
  · rw [hF 0 0 0 (by omega), mRs_30, upd_n (by omega), upd_n (by omega), upd_n (by omega), upd_n (by omega)]
    exact a4
  · exact RuR.row (a5 i hi) (fun k h1 h2 => hF _ _ _ (by omega)) (fun k h1 h2 => mRs_o (by omega))
  · rw [hF 0 0 0 (by omega), mRs_30, upd_n (by omega), upd_n (by omega), upd_n (by omega), upd_n (by omega)]
    exact a7
  · rw [hF 0 0 0 (by omega), mRs_30, upd_n (by omega), upd_n (by omega), upd_n (by omega), upd_n (by omega)]
    exact a8
  · rw [hF 1 0 0 (by omega), mRs_o (by omega)]
    exact a9
end
