def stM (F : xFm) : Nat := (F 30 0 0 24).toNatClampNeg
def ltM (F : xFm) : Nat := (F 30 0 0 26).toNatClampNeg
def roM (F : xFm) : Nat := (F 30 0 0 29).toNatClampNeg
def szM (F : xFm) : Nat := (F 63 0 0 (roM F)).toNatClampNeg
def accM (F : xFm) (cd : Nat) : Option xFm := match stM F with
  | 0 => mtP F (ltM F) cd
  | 1 => mtG F 0 cd
  | 2 => mtH F cd
  | 3 => mtG F 2 cd
  | 4 => mt4 F cd
  | 5 => mtO F (roM F) cd
  | 6 => mtr F (roM F) cd
  | 7 => mt7 F cd
  | 8 => mtp F (roM F) (szM F) cd
  | _ => mtb F (roM F) (szM F) cd
def mIv (F : xFm) (s n ro k : Nat) : Prop := F 30 0 0 24 = nI s ∧ s ≤ 9 ∧ F 30 0 0 26 = nI n ∧ n ≤ 4 ∧ F 30 0 0 29 = nI ro ∧ ro < 4 ∧ (6 ≤ s → F 63 0 0 ro = nI k) ∧ (s = 6 ∨ s = 7 → k = 0) ∧ (s = 8 → k < 3) ∧ (s = 9 → 0 < k ∧ k ≤ 3)
def mI (F : xFm) : Prop := mIv F (stM F) (ltM F) (roM F) (szM F)
theorem mI_of {F : xFm} {s n ro k : Nat} (h : mIv F s n ro k) : mI F := by
  obtain ⟨h1, h2, h3, h4, h5, h6, h7, h8, h9, h10⟩ := h
  have e1 : stM F = s := by unfold stM; rw [h1, nI_clamp (by omega)]
  have e2 : ltM F = n := by unfold ltM; rw [h3, nI_clamp (by omega)]
  have e3 : roM F = ro := by unfold roM; rw [h5, nI_clamp (by omega)]
  by_cases hs : 6 ≤ s
  · have hk : k < 2 ^ 31 := by
      have : s = 6 ∨ s = 7 ∨ s = 8 ∨ s = 9 := by omega
      rcases this with z | z | z | z
      · have := h8 (Or.inl z); omega
      · have := h8 (Or.inr z); omega
      · have := h9 z; omega
      · have := h10 z; omega
    have e4 : szM F = k := by unfold szM; rw [e3, h7 hs, nI_clamp hk]
    unfold mI
    rw [e1, e2, e3, e4]
    exact ⟨h1, h2, h3, h4, h5, h6, h7, h8, h9, h10⟩
  · unfold mI
    rw [e1, e2, e3]
    exact ⟨h1, h2, h3, h4, h5, h6, fun z => absurd z hs, fun z => by omega, fun z => by omega, fun z => by omega⟩
theorem mI_acc {F G : xFm} {cd : Nat} (hI : mI F) (h : accM F cd = some G) : mI G := by
  obtain ⟨hs, hs9, hn, hn4, hro, hro4, hk, hk67, hk8, hk9⟩ := hI
  unfold accM at h
  split at h
  · rename_i e
    rw [e] at hs hk hk67 hk8 hk9
    unfold mtP at h
    split at h
    · cases h
      exact mI_of (s := 0) (n := ltM F + 1) (ro := roM F) (k := 0) ⟨(by first | (simp [sS, rS, fr, upd]; done) | (simp [sS, rS, fr, upd]; assumption)), by omega, (by first | (simp [sS, rS, fr, upd]; done) | (simp [sS, rS, fr, upd]; assumption)), by omega, (by first | (simp [sS, rS, fr, upd]; done) | (simp [sS, rS, fr, upd]; assumption)), by omega, fun z => absurd z (by omega), by omega, by omega, by omega⟩
    · split at h
      · cases h
        split
        · exact mI_of (s := 1) (n := ltM F) (ro := roM F) (k := 0) ⟨(by first | (simp [sS, rS, fr, upd]; done) | (simp [sS, rS, fr, upd]; assumption)), by omega, (by first | (simp [sS, rS, fr, upd]; done) | (simp [sS, rS, fr, upd]; assumption)), by omega, (by first | (simp [sS, rS, fr, upd]; done) | (simp [sS, rS, fr, upd]; assumption)), by omega, fun z => absurd z (by omega), by omega, by omega, by omega⟩
        · exact mI_of (s := 5) (n := ltM F) (ro := roM F) (k := 0) ⟨(by first | (simp [sS, rS, fr, upd]; done) | (simp [sS, rS, fr, upd]; assumption)), by omega, (by first | (simp [sS, rS, fr, upd]; done) | (simp [sS, rS, fr, upd]; assumption)), by omega, (by first | (simp [sS, rS, fr, upd]; done) | (simp [sS, rS, fr, upd]; assumption)), by omega, fun z => absurd z (by omega), by omega, by omega, by omega⟩
      · cases h
  · rename_i e
    rw [e] at hs hk hk67 hk8 hk9
    unfold mtG at h
    split at h
    · cases h
      exact mI_of (s := 2) (n := ltM F) (ro := roM F) (k := 0) ⟨(by first | (simp [sS, rS, fr, upd]; done) | (simp [sS, rS, fr, upd]; assumption)), by omega, (by first | (simp [sS, rS, fr, upd]; done) | (simp [sS, rS, fr, upd]; assumption)), by omega, (by first | (simp [sS, rS, fr, upd]; done) | (simp [sS, rS, fr, upd]; assumption)), by omega, fun z => absurd z (by omega), by omega, by omega, by omega⟩
    · cases h
  · rename_i e
    rw [e] at hs hk hk67 hk8 hk9
    unfold mtH at h
    split at h
    · cases h
      exact mI_of (s := 3) (n := ltM F) (ro := roM F) (k := 0) ⟨(by first | (simp [sS, rS, fr, upd]; done) | (simp [sS, rS, fr, upd]; assumption)), by omega, (by first | (simp [sS, rS, fr, upd]; done) | (simp [sS, rS, fr, upd]; assumption)), by omega, (by first | (simp [sS, rS, fr, upd]; done) | (simp [sS, rS, fr, upd]; assumption)), by omega, fun z => absurd z (by omega), by omega, by omega, by omega⟩
    · cases h
  · rename_i e
    rw [e] at hs hk hk67 hk8 hk9
    unfold mtG at h
    split at h
    · cases h
      exact mI_of (s := 4) (n := ltM F) (ro := roM F) (k := 0) ⟨(by first | (simp [sS, rS, fr, upd]; done) | (simp [sS, rS, fr, upd]; assumption)), by omega, (by first | (simp [sS, rS, fr, upd]; done) | (simp [sS, rS, fr, upd]; assumption)), by omega, (by first | (simp [sS, rS, fr, upd]; done) | (simp [sS, rS, fr, upd]; assumption)), by omega, fun z => absurd z (by omega), by omega, by omega, by omega⟩
    · cases h
  · rename_i e
    rw [e] at hs hk hk67 hk8 hk9
    unfold mt4 at h
    split at h
    · cases h
      exact mI_of (s := 5) (n := ltM F) (ro := roM F) (k := 0) ⟨(by first | (simp [sS, rS, fr, upd]; done) | (simp [sS, rS, fr, upd]; assumption)), by omega, (by first | (simp [sS, rS, fr, upd]; done) | (simp [sS, rS, fr, upd]; assumption)), by omega, (by first | (simp [sS, rS, fr, upd]; done) | (simp [sS, rS, fr, upd]; assumption)), by omega, fun z => absurd z (by omega), by omega, by omega, by omega⟩
    · cases h
  · rename_i e
    rw [e] at hs hk hk67 hk8 hk9
    unfold mtO at h
    split at h
    · cases h
      exact mI_of (s := 6) (n := ltM F) (ro := roM F) (k := 0) ⟨(by first | (simp [sS, rS, fr, upd]; done) | (simp [sS, rS, fr, upd]; assumption)), by omega, (by first | (simp [sS, rS, fr, upd]; done) | (simp [sS, rS, fr, upd]; assumption)), by omega, (by first | (simp [sS, rS, fr, upd]; done) | (simp [sS, rS, fr, upd]; assumption)), by omega, fun _ => (by first | (simp [sS, rS, fr, upd]; done) | (simp [sS, rS, fr, upd]; assumption)), by omega, by omega, by omega⟩
    · split at h
      · cases h
        exact mI_of (s := 7) (n := ltM F) (ro := roM F) (k := 0) ⟨(by first | (simp [sS, rS, fr, upd]; done) | (simp [sS, rS, fr, upd]; assumption)), by omega, (by first | (simp [sS, rS, fr, upd]; done) | (simp [sS, rS, fr, upd]; assumption)), by omega, (by first | (simp [sS, rS, fr, upd]; done) | (simp [sS, rS, fr, upd]; assumption)), by omega, fun _ => (by first | (simp [sS, rS, fr, upd]; done) | (simp [sS, rS, fr, upd]; assumption)), by omega, by omega, by omega⟩
      · cases h
  · rename_i e
    rw [e] at hs hk hk67 hk8 hk9
    have hk0 := hk (by omega)
    have hk1 := hk67 (by omega)
    rw [hk1] at hk0
    unfold mtr at h
    split at h
    · cases h
      exact mI_of (s := 7) (n := ltM F) (ro := roM F) (k := 0) ⟨(by first | (simp [sS, rS, fr, upd]; done) | (simp [sS, rS, fr, upd]; assumption)), by omega, (by first | (simp [sS, rS, fr, upd]; done) | (simp [sS, rS, fr, upd]; assumption)), by omega, (by first | (simp [sS, rS, fr, upd]; done) | (simp [sS, rS, fr, upd]; assumption)), by omega, fun _ => (by first | (simp [sS, rS, fr, upd]; done) | (simp [sS, rS, fr, upd]; assumption)), by omega, by omega, by omega⟩
    · cases h
  · rename_i e
    rw [e] at hs hk hk67 hk8 hk9
    have hk0 := hk (by omega)
    have hk1 := hk67 (by omega)
    rw [hk1] at hk0
    unfold mt7 at h
    split at h
    · cases h
      exact mI_of (s := 8) (n := ltM F) (ro := roM F) (k := 0) ⟨(by first | (simp [sS, rS, fr, upd]; done) | (simp [sS, rS, fr, upd]; assumption)), by omega, (by first | (simp [sS, rS, fr, upd]; done) | (simp [sS, rS, fr, upd]; assumption)), by omega, (by first | (simp [sS, rS, fr, upd]; done) | (simp [sS, rS, fr, upd]; assumption)), by omega, fun _ => (by first | (simp [sS, rS, fr, upd]; done) | (simp [sS, rS, fr, upd]; assumption)), by omega, by omega, by omega⟩
    · cases h
  · rename_i e
    rw [e] at hs hk hk67 hk8 hk9
    have hk1 := hk8 rfl
    unfold mtp at h
    split at h
    · cases h
      exact mI_of (s := 9) (n := ltM F) (ro := roM F) (k := szM F + 1) ⟨(by first | (simp [sS, rS, fr, upd]; done) | (simp [sS, rS, fr, upd]; assumption)), by omega, (by first | (simp [sS, rS, fr, upd]; done) | (simp [sS, rS, fr, upd]; assumption)), by omega, (by first | (simp [sS, rS, fr, upd]; done) | (simp [sS, rS, fr, upd]; assumption)), by omega, fun _ => (by first | (simp [sS, rS, fr, upd]; done) | (simp [sS, rS, fr, upd]; assumption)), by omega, by omega, by omega⟩
    · cases h
  · rename_i h0 h1 h2 h3 h4 h5 h6 h7 h8
    have e : stM F = 9 := by
      have : ∀ n, n ≤ 9 → n ≠ 0 → n ≠ 1 → n ≠ 2 → n ≠ 3 → n ≠ 4 → n ≠ 5 → n ≠ 6 → n ≠ 7 → n ≠ 8 → n = 9 := by omega
      exact this _ hs9 h0 h1 h2 h3 h4 h5 h6 h7 h8
    rw [e] at hs hk hk67 hk8 hk9
    have hk0 := hk (by omega)
    have hk1 := hk9 rfl
    unfold mtb at h
    split at h
    · split at h
      · cases h
        exact mI_of (s := 5) (n := ltM F) (ro := roM F + 1) (k := 0) ⟨(by first | (simp [sS, rS, fr, upd]; done) | (simp [sS, rS, fr, upd]; assumption)), by omega, (by first | (simp [sS, rS, fr, upd]; done) | (simp [sS, rS, fr, upd]; assumption)), by omega, (by first | (simp [sS, rS, fr, upd]; done) | (simp [sS, rS, fr, upd]; assumption)), by omega, fun z => absurd z (by omega), by omega, by omega, by omega⟩
      · cases h
    · split at h
      · cases h
      · split at h
        · cases h
          exact mI_of (s := 8) (n := ltM F) (ro := roM F) (k := szM F) ⟨(by first | (simp [sS, rS, fr, upd]; done) | (simp [sS, rS, fr, upd]; assumption)), by omega, (by first | (simp [sS, rS, fr, upd]; done) | (simp [sS, rS, fr, upd]; assumption)), by omega, (by first | (simp [sS, rS, fr, upd]; done) | (simp [sS, rS, fr, upd]; assumption)), by omega, fun _ => (by first | (simp [sS, rS, fr, upd]; done) | (simp [sS, rS, fr, upd]; assumption)), by omega, by omega, by omega⟩
        · cases h
theorem k_X6_takes {l : Launch} {D : va_G} {aC : Nat → ClassId} {ad : xAd} {h0 h : mH} {F : xFm} {W : xWm} {pm : Nat → Nat} (hR : xR yV ad h0 F W pm h) {cd : Nat} (hcd : cd < 1000) (hI : mI F) : mCon l D aC mX6_takes [.ref (ad 30 0 0), .int (nI cd)] h (mRi (bI ((accM F cd).isSome = true)) (fun h' => ∃ G : xFm, xR yV ad h0 G W pm h' ∧ pO F G ∧ ∀ G', accM F cd = some G' → G = G')) := by
  obtain ⟨hs, hs9, hn, hn4, hro, hro4, hk, hk67, hk8, hk9⟩ := hI
  have hc : stM F = 0 ∨ stM F = 1 ∨ stM F = 2 ∨ stM F = 3 ∨ stM F = 4 ∨ stM F = 5 ∨ stM F = 6 ∨ stM F = 7 ∨ stM F = 8 ∨ stM F = 9 := by omega
  rcases hc with e | e | e | e | e | e | e | e | e | e
  · have hE : accM F cd = mtP F (ltM F) cd := by unfold accM; rw [e]; rfl
    rw [e] at hs hk hk67 hk8 hk9
    rw [hE]
    exact k_X6_takes_0 hR hcd hs hn hn4
  · have hE : accM F cd = mtG F 0 cd := by unfold accM; rw [e]; rfl
    rw [e] at hs hk hk67 hk8 hk9
    rw [hE]
    exact k_X6_takes_1 hR hcd hs
  · have hE : accM F cd = mtH F cd := by unfold accM; rw [e]; rfl
    rw [e] at hs hk hk67 hk8 hk9
    rw [hE]
    exact k_X6_takes_2 hR hcd hs
  · have hE : accM F cd = mtG F 2 cd := by unfold accM; rw [e]; rfl
    rw [e] at hs hk hk67 hk8 hk9
    rw [hE]
    exact k_X6_takes_3 hR hcd hs
  · have hE : accM F cd = mt4 F cd := by unfold accM; rw [e]; rfl
    rw [e] at hs hk hk67 hk8 hk9
    rw [hE]
    exact k_X6_takes_4 hR hcd hs
  · have hE : accM F cd = mtO F (roM F) cd := by unfold accM; rw [e]; rfl
    rw [e] at hs hk hk67 hk8 hk9
    rw [hE]
    exact k_X6_takes_5 hR hcd hs hro hro4
  · have hE : accM F cd = mtr F (roM F) cd := by unfold accM; rw [e]; rfl
    rw [e] at hs hk hk67 hk8 hk9
    rw [hE]
    exact k_X6_takes_6 hR hcd hs hro hro4
  · have hE : accM F cd = mt7 F cd := by unfold accM; rw [e]; rfl
    rw [e] at hs hk hk67 hk8 hk9
    rw [hE]
    exact k_X6_takes_7 hR hcd hs
  · have hE : accM F cd = mtp F (roM F) (szM F) cd := by unfold accM; rw [e]; rfl
    rw [e] at hs hk hk67 hk8 hk9
    rw [hE]
    exact k_X6_takes_8 hR hcd hs hro hro4 (hk (by omega)) (hk8 rfl)
  · have hE : accM F cd = mtb F (roM F) (szM F) cd := by unfold accM; rw [e]; rfl
    rw [e] at hs hk hk67 hk8 hk9
    rw [hE]
    exact k_X6_takes_9 hR hcd hs hro hro4 (hk (by omega)) (hk9 rfl).2
def rdM (cs : Nat → Nat) : Nat → Nat → xFm → Nat × xFm
  | 0, i, F => (i, F)
  | n + 1, i, F => match accM F (cs i) with
    | none => (i, F)
    | some G => rdM cs n (i + 1) G
theorem rdM_n {cs : Nat → Nat} {bl i : Nat} {F : xFm} (h : i < bl) (ha : accM F (cs i) = none) : rdM cs (bl - i) i F = (i, F) := by
  obtain ⟨n, hn⟩ : ∃ n, bl - i = n + 1 := ⟨bl - i - 1, by omega⟩
  rw [hn, rdM, ha]
theorem rdM_s {cs : Nat → Nat} {bl i : Nat} {F G : xFm} (h : i < bl) (ha : accM F (cs i) = some G) : rdM cs (bl - i) i F = rdM cs (bl - (i + 1)) (i + 1) G := by
  obtain ⟨n, hn⟩ : ∃ n, bl - i = n + 1 := ⟨bl - i - 1, by omega⟩
  have h2 : bl - (i + 1) = n := by omega
  rw [hn, h2, rdM, ha]
def m0 (F : xFm) : xFm := sS (sS (sS (rS (sS (sS (sS (sS F 24 (nI 0)) 25 (nI 0)) 26 (nI 0)) 27 (-1)) 58 1 (nI 0)) 29 (nI 0)) 30 (nI 0)) 31 (nI 0)
theorem m0_I {F : xFm} : mI (m0 F) := by
  exact mI_of (s := 0) (n := 0) (ro := 0) (k := 0) ⟨by simp [m0, sS, rS, fr, upd], by omega, by simp [m0, sS, rS, fr, upd], by omega, by simp [m0, sS, rS, fr, upd], by omega, fun z => absurd z (by omega), by omega, by omega, by omega⟩
theorem m0_O {F : xFm} : pO F (m0 F) := by
  unfold m0
  exact pO_tr (pO_tr (pO_tr (pO_tr (pO_tr (pO_tr (pO_tr (pO_s (by omega)) (pO_s (by omega))) (pO_s (by omega))) (pO_s (by omega))) (pO_r (by omega))) (pO_s (by omega))) (pO_s (by omega))) (pO_s (by omega))
set_option maxRecDepth 100000 in
set_option maxHeartbeats 4000000 in
theorem lp_X6_rightLength {K : mK} (hK : mCx K mX6_rightLength) {ad : xAd} {h0 : mH} {F : xFm} {W : xWm} {pm : Nat → Nat} {bl : Nat} (hbl : F 30 0 0 1 = nI bl) (hbl40 : bl ≤ 40) {cs : Nat → Nat} (hcs : ∀ i, i < bl → F 32 0 0 i = nI (cs i) ∧ cs i < 1000) {rd : Nat × xFm} (hZ : mRt K mX6_rightLength (mRi (nI rd.1) (fun h' => ∃ G : xFm, xR yV ad h0 G W pm h' ∧ pO F G ∧ (rd.1 = bl → G = rd.2)))) : ∀ (fu : Nat) (i : Nat) (G : xFm) (h : mH), bl - i < fu → (i ≤ bl) → (mI G) → (pO F G) → (rd = rdM cs (bl - i) i G) → (xR yV ad h0 G W pm h) → mJ K 0 0 44 [some (.ref (ad 30 0 0)), some (.int (nI i))] [] h := by
  intro fu
  induction fu with
  | zero =>
    intro i G h hm0
    exact absurd hm0 (by omega)
  | succ fu ih =>
    intro i G h hm0 hi hI hp hrd hR
    refine mJ_iload_n hK dX6_rightLength_44 rfl ?_
    refine mJ_aload_n hK dX6_rightLength_45 rfl ?_
    refine xJ_getx (nI bl) hR hK dX6_rightLength_46 fX6_124 (by unfold yV; omega) (fun _ _ => rfl) (by decide) rfl (by rw [hp.2 1 (by omega)]; exact hbl) ?_
    refine mJ_nge (tgt := 71) hK dX6_rightLength_49 (by decide) (by omega) (by omega) (fun c_49 => ?_) (fun c_49 => ?_)
    · refine mJ_iload_n hK dX6_rightLength_71 rfl ?_
      refine mJ_iret hK dX6_rightLength_72 rfl hZ (by decide) (by decide) ?_
      have : i = bl := by omega
      subst this
      rw [Nat.sub_self] at hrd
      have h8 : rd = (i, G) := hrd
      exact ⟨by rw [h8], G, hR, hp, fun _ => by rw [h8]⟩
    · refine mJ_aload_n hK dX6_rightLength_52 rfl ?_
      refine mJ_aload_n hK dX6_rightLength_53 rfl ?_
      refine xJ_getr hR hK dX6_rightLength_54 fX6_7 (by unfold yV; omega) (fun _ _ => rfl) (by decide) (fun _ _ => rfl) ?_
      refine mJ_iload_n hK dX6_rightLength_57 rfl ?_
      refine xJ_ialdx i (nI (cs i)) hR hK dX6_rightLength_58 (by unfold yV; omega) (fun _ _ => rfl) rfl (by omega) (by decide) (by rw [hp.1 32 0 0 (by omega) (by omega) (by omega)]; exact (hcs i (by omega)).1) ?_
      refine mJ_cVi hK dX6_rightLength_59 lX6_178 (by unfold mFit; decide) (by decide) (k_X6_takes hR (hcs i (by omega)).2 hI) rfl rfl (Nat.le_of_ble_eq_true rfl) (hR.1 _ _ _ (by unfold yV; omega)) ⟨_, _, rfl⟩ (fun h hE => ?_)
      obtain ⟨G9, hR, hp9, hs9⟩ := hE
      refine mJ_ifb_eq (tgt := 71) hK dX6_rightLength_62 (by decide) (fun c_62 => ?_) (fun c_62 => ?_)
      · refine mJ_iload_n hK dX6_rightLength_71 rfl ?_
        refine mJ_iret hK dX6_rightLength_72 rfl hZ (by decide) (by decide) ?_
        have h9 := hrd.trans (rdM_n c_49 (Option.not_isSome_iff_eq_none.mp c_62))
        have h8 : rd.1 = i := by rw [h9]
        exact ⟨by rw [h8], G9, hR, pO_tr hp hp9, fun z => absurd z (by omega)⟩
      · refine mJ_iincN hK dX6_rightLength_65 rfl rfl (by decide) rfl ?_
        refine mJ_goto (tgt := 44) hK dX6_rightLength_68 (by decide) ?_
        obtain ⟨G8, hG8⟩ := Option.isSome_iff_exists.mp c_62
        have e8 := hs9 G8 hG8
        subst e8
        exact ih (i + 1) _ _ (by omega) (by omega) (mI_acc hI hG8) (pO_tr hp hp9) (by rw [hrd, rdM_s c_49 hG8]) hR

set_option maxRecDepth 100000 in
set_option maxHeartbeats 4000000 in
theorem k_X6_rightLength {l : Launch} {D : va_G} {aC : Nat → ClassId} {ad : xAd} {h0 h : mH} {F : xFm} {W : xWm} {pm : Nat → Nat} (hR : xR yV ad h0 F W pm h) {bl : Nat} (hbl : F 30 0 0 1 = nI bl) (hbl40 : bl ≤ 40) {cs : Nat → Nat} (hcs : ∀ i, i < bl → F 32 0 0 i = nI (cs i) ∧ cs i < 1000) {rd : Nat × xFm} (hrd : rd = rdM cs bl 0 (m0 F)) : mCon l D aC mX6_rightLength [.ref (ad 30 0 0)] h (mRi (nI rd.1) (fun h' => ∃ G : xFm, xR yV ad h0 G W pm h' ∧ pO F G ∧ (rd.1 = bl → G = rd.2))) := by
  refine mCon.of [some (.ref (ad 30 0 0)), none] (by decide +kernel) rfl (Nat.le_of_ble_eq_true rfl) ?_
  intro K el eD eC hK hZ
  subst el eD eC
  refine mJ_aload_n hK dX6_rightLength_0 rfl ?_
  refine mJ_iconst (v := nI 0) hK dX6_rightLength_1 (by decide) ?_
  refine xJ_puti hR hK dX6_rightLength_2 fX6_140 sX6_24 rfl rfl (by unfold yV; omega) (fun _ _ => rfl) (by decide) rfl (fun h hR => ?_)
  refine mJ_aload_n hK dX6_rightLength_5 rfl ?_
  refine mJ_iconst (v := nI 0) hK dX6_rightLength_6 (by decide) ?_
  refine xJ_puti hR hK dX6_rightLength_7 fX6_127 sX6_25 rfl rfl (by unfold yV; omega) (fun _ _ => rfl) (by decide) rfl (fun h hR => ?_)
  refine mJ_aload_n hK dX6_rightLength_10 rfl ?_
  refine mJ_iconst (v := nI 0) hK dX6_rightLength_11 (by decide) ?_
  refine xJ_puti hR hK dX6_rightLength_12 fX6_137 sX6_26 rfl rfl (by unfold yV; omega) (fun _ _ => rfl) (by decide) rfl (fun h hR => ?_)
  refine mJ_aload_n hK dX6_rightLength_15 rfl ?_
  refine mJ_iconst (v := -1) hK dX6_rightLength_16 (by decide) ?_
  refine xJ_puti hR hK dX6_rightLength_17 fX6_134 sX6_27 rfl rfl (by unfold yV; omega) (fun _ _ => rfl) (by decide) rfl (fun h hR => ?_)
  refine mJ_aload_n hK dX6_rightLength_20 rfl ?_
  refine xJ_getr hR hK dX6_rightLength_21 fX6_66 (by unfold yV; omega) (fun _ _ => rfl) (by decide) (fun _ _ => rfl) ?_
  refine mJ_iconst (v := nI 1) hK dX6_rightLength_24 (by decide) ?_
  refine mJ_iconst (v := nI 0) hK dX6_rightLength_25 (by decide) ?_
  refine xJ_iast 1 hR hK dX6_rightLength_26 (by unfold yV; omega) (fun _ _ => rfl) rfl (by omega) (by decide) (fun h hR => ?_)
  refine mJ_aload_n hK dX6_rightLength_27 rfl ?_
  refine mJ_iconst (v := nI 0) hK dX6_rightLength_28 (by decide) ?_
  refine xJ_puti hR hK dX6_rightLength_29 fX6_143 sX6_29 rfl rfl (by unfold yV; omega) (fun _ _ => rfl) (by decide) rfl (fun h hR => ?_)
  refine mJ_aload_n hK dX6_rightLength_32 rfl ?_
  refine mJ_iconst (v := nI 0) hK dX6_rightLength_33 (by decide) ?_
  refine xJ_puti hR hK dX6_rightLength_34 fX6_146 sX6_30 rfl rfl (by unfold yV; omega) (fun _ _ => rfl) (by decide) rfl (fun h hR => ?_)
  refine mJ_aload_n hK dX6_rightLength_37 rfl ?_
  refine mJ_iconst (v := nI 0) hK dX6_rightLength_38 (by decide) ?_
  refine xJ_puti hR hK dX6_rightLength_39 fX6_156 sX6_31 (by decide) (by decide) (by unfold yV; omega) (fun _ _ => rfl) (by decide) rfl (fun h hR => ?_)
  refine mJ_iconst (v := nI 0) hK dX6_rightLength_42 (by decide) ?_
  refine mJ_istore_n hK dX6_rightLength_43 (by decide) rfl ?_
  have hR : xR yV ad h0 (m0 F) W pm h := hR
  exact lp_X6_rightLength hK hbl hbl40 hcs hZ (bl + 1) 0 _ _ (by omega) (by omega) m0_I m0_O hrd hR
