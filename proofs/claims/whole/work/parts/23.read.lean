def kN (F : xFm) (r : Nat) : Nat := (F 20 r 0 (oC F r - 1)).toNatClampNeg
def pC (F : xFm) : Nat := (F 2 0 0 1).toNatClampNeg
def accF (F : xFm) (r cd : Nat) : Option xFm := match pC F with
  | 0 => apP F r cd
  | 1 => (opN (F 17 r 0 0) cd).map (fun a => ao1 F a)
  | 2 => agP F cd
  | 3 => (opN (F 17 r 0 0) cd).map (fun a => ao3 F r a)
  | 4 => acP F cd
  | 5 => atP F r (oC F r) cd
  | 6 => atP F r (oC F r) cd
  | 7 => arP F r (oC F r) cd
  | 8 => aeP F cd
  | 9 => (opN (F 17 r 0 0) cd).map (fun a => ao9 F r (oC F r) (kN F r) a)
  | _ => abP F (oC F r) (kN F r) cd
def rI (F : xFm) (r : Nat) : Prop := F 2 0 0 1 = nI (pC F) ∧ pC F ≤ 10 ∧ F 17 r 0 5 = nI (oC F r) ∧ oC F r ≤ 4 ∧ ((pC F = 5 ∨ pC F = 6 ∨ pC F = 7) → oC F r < 4) ∧ (8 ≤ pC F → 0 < oC F r ∧ F 20 r 0 (oC F r - 1) = nI (kN F r)) ∧ (pC F = 8 → kN F r = 0) ∧ (pC F = 9 → kN F r < 3) ∧ (pC F = 10 → 0 < kN F r ∧ kN F r ≤ 3) ∧ (pC F ≤ 4 → oC F r = 0)
theorem k_X2_accept {l : Launch} {D : va_G} {aC : Nat → ClassId} {ad : xAd} {h0 h : mH} {F : xFm} {W : xWm} {pm : Nat → Nat} (hR : xR xV ad h0 F W pm h) (hr : pm 8 < 9) (hI : rI F (pm 8)) {cd : Nat} (hcd : cd < 1000) : mCon l D aC mX2_accept [.ref (ad 2 0 0), .int (nI cd)] h (mRi (bI ((accF F (pm 8) cd).isSome = true)) (fun h' => xR xV ad h0 ((accF F (pm 8) cd).getD F) W pm h')) := by
  obtain ⟨hp, hp10, hm, hm4, h5, h8, h88, h9, h10, h04⟩ := hI
  rcases (show pC F = 0 ∨ pC F = 1 ∨ pC F = 2 ∨ pC F = 3 ∨ pC F = 4 ∨ pC F = 5 ∨ pC F = 6 ∨ pC F = 7 ∨ pC F = 8 ∨ pC F = 9 ∨ pC F = 10 by omega) with e | e | e | e | e | e | e | e | e | e | e
  · have ea : accF F (pm 8) cd = apP F (pm 8) cd := by unfold accF; rw [e]; rfl
    rw [ea]
    rw [e] at hp
    exact k_X2_accept_0 hR hr hcd hp
  · have ea : accF F (pm 8) cd = (opN (F 17 (pm 8) 0 0) cd).map (fun a => ao1 F a) := by unfold accF; rw [e]; rfl
    rw [ea]
    rw [e] at hp
    exact k_X2_accept_1 hR hr hcd hp
  · have ea : accF F (pm 8) cd = agP F cd := by unfold accF; rw [e]; rfl
    rw [ea]
    rw [e] at hp
    exact k_X2_accept_2 hR hr hcd hp
  · have ea : accF F (pm 8) cd = (opN (F 17 (pm 8) 0 0) cd).map (fun a => ao3 F (pm 8) a) := by unfold accF; rw [e]; rfl
    rw [ea]
    rw [e] at hp
    exact k_X2_accept_3 hR hr hcd hp
  · have ea : accF F (pm 8) cd = acP F cd := by unfold accF; rw [e]; rfl
    rw [ea]
    rw [e] at hp
    exact k_X2_accept_4 hR hr hcd hp
  · have ea : accF F (pm 8) cd = atP F (pm 8) (oC F (pm 8)) cd := by unfold accF; rw [e]; rfl
    rw [ea]
    rw [e] at hp
    exact k_X2_accept_5 hR hr hcd hp hm (h5 (by omega))
  · have ea : accF F (pm 8) cd = atP F (pm 8) (oC F (pm 8)) cd := by unfold accF; rw [e]; rfl
    rw [ea]
    rw [e] at hp
    exact k_X2_accept_6 hR hr hcd hp hm (h5 (by omega))
  · have ea : accF F (pm 8) cd = arP F (pm 8) (oC F (pm 8)) cd := by unfold accF; rw [e]; rfl
    rw [ea]
    rw [e] at hp
    exact k_X2_accept_7 hR hr hcd hp hm (h5 (by omega))
  · have ea : accF F (pm 8) cd = aeP F cd := by unfold accF; rw [e]; rfl
    rw [ea]
    rw [e] at hp
    exact k_X2_accept_8 hR hr hcd hp
  · have ea : accF F (pm 8) cd = (opN (F 17 (pm 8) 0 0) cd).map (fun a => ao9 F (pm 8) (oC F (pm 8)) (kN F (pm 8)) a) := by unfold accF; rw [e]; rfl
    rw [ea]
    rw [e] at hp
    exact k_X2_accept_9 hR hr hcd hp hm (h8 (by omega)).1 hm4 (h8 (by omega)).2 (h9 e)
  · have ea : accF F (pm 8) cd = abP F (oC F (pm 8)) (kN F (pm 8)) cd := by unfold accF; rw [e]; rfl
    rw [ea]
    rw [e] at hp
    exact k_X2_accept_10 hR hr hcd hp hm (h8 (by omega)).1 hm4 (h8 (by omega)).2 (h10 e).2
/-- the rows that reading leaves alone -/
def sRw (F G : xFm) (r : Nat) : Prop := ∀ k i j, k ≠ 2 → ¬ (17 ≤ k ∧ i = r) → G k i j = F k i j
theorem sRw_fr {F : xFm} {r k i j : Nat} {g : Nat → Int32} (h : k = 2 ∨ (17 ≤ k ∧ i = r)) : sRw F (fr F k i j g) r := by
  intro a b c h1 h2
  exact fr_n (fun z => by obtain ⟨rfl, rfl, rfl⟩ := z; rcases h with h | h; exact h1 h; exact h2 h)
theorem sRw.tr {F G H : xFm} {r : Nat} (h1 : sRw F G r) (h2 : sRw G H r) : sRw F H r := fun k i j a b => (h2 k i j a b).trans (h1 k i j a b)
theorem sRw.rf {F : xFm} {r : Nat} : sRw F F r := fun _ _ _ _ _ => rfl
theorem sRw_go {F : xFm} {r : Nat} {x : Int32} : sRw F (xGo F x) r := sRw_fr (Or.inl rfl)
theorem sRw_ao {F : xFm} {r m : Nat} {x b : Int32} : sRw F (xAo F r m x b) r := by
  unfold xAo
  exact ((sRw_fr (Or.inr ⟨by omega, rfl⟩)).tr (sRw_fr (Or.inr ⟨by omega, rfl⟩))).tr ((sRw_fr (Or.inr ⟨by omega, rfl⟩)).tr (sRw_fr (Or.inr ⟨by omega, rfl⟩)))
theorem sRw_ar {F : xFm} {r m : Nat} {x b : Int32} : sRw F (xAr F r m x b) r := by
  unfold xAr
  exact ((sRw_fr (Or.inr ⟨by omega, rfl⟩)).tr (sRw_fr (Or.inr ⟨by omega, rfl⟩))).tr ((sRw_fr (Or.inr ⟨by omega, rfl⟩)).tr (sRw_fr (Or.inr ⟨by omega, rfl⟩)))
theorem sRw_ap {F : xFm} {r m k : Nat} {x b : Int32} : sRw F (xAp F r m k x b) r := by
  unfold xAp
  exact ((sRw_fr (Or.inr ⟨by omega, rfl⟩)).tr (sRw_fr (Or.inr ⟨by omega, rfl⟩))).tr (sRw_fr (Or.inr ⟨by omega, rfl⟩))
theorem sRw_sg {F : xFm} {r : Nat} {a g b : Int32} : sRw F (xSg F r a g b) r := sRw_fr (Or.inr ⟨by omega, rfl⟩)
theorem accF_rows {F G : xFm} {r cd : Nat} (h : accF F r cd = some G) : sRw F G r := by
  unfold accF at h
  split at h
  · unfold apP at h
    split at h
    · split at h
      · split at h
        · cases h; exact sRw_fr (Or.inr ⟨by omega, rfl⟩)
        · cases h
      · cases h
    · split at h
      · cases h
      · split at h
        · cases h; exact sRw_go
        · split at h
          · cases h; exact sRw_go
          · cases h
  · obtain ⟨a, -, rfl⟩ := Option.map_eq_some_iff.mp h
    exact (sRw_fr (Or.inl rfl)).tr sRw_go
  · unfold agP at h
    split at h
    · cases h; exact (sRw_fr (Or.inl rfl)).tr sRw_go
    · cases h
  · obtain ⟨a, -, rfl⟩ := Option.map_eq_some_iff.mp h
    exact sRw_sg.tr sRw_go
  · unfold acP at h
    split at h
    · cases h; exact sRw_go
    · cases h
  · unfold atP at h
    split at h
    · cases h; exact sRw_go
    · split at h
      · cases h; exact sRw_ao.tr sRw_go
      · cases h
  · unfold atP at h
    split at h
    · cases h; exact sRw_go
    · split at h
      · cases h; exact sRw_ao.tr sRw_go
      · cases h
  · unfold arP at h
    split at h
    · cases h; exact sRw_ar.tr sRw_go
    · cases h
  · unfold aeP at h
    split at h
    · cases h; exact (sRw_fr (Or.inl rfl)).tr sRw_go
    · cases h
  · obtain ⟨a, -, rfl⟩ := Option.map_eq_some_iff.mp h
    exact sRw_ap.tr sRw_go
  · unfold abP at h
    split at h
    · split at h
      · cases h; exact sRw_go
      · cases h
    · split at h
      · cases h; exact (sRw_fr (Or.inl rfl)).tr sRw_go
      · cases h
theorem rI_of {G : xFm} {r p m : Nat} (h1 : G 2 0 0 1 = nI p) (hp : p ≤ 10) (h2 : G 17 r 0 5 = nI m) (hm : m ≤ 4) (h5 : (p = 5 ∨ p = 6 ∨ p = 7) → m < 4) (h04 : p ≤ 4 → m = 0) (k : Nat) (hk : 8 ≤ p → 0 < m ∧ G 20 r 0 (m - 1) = nI k ∧ k ≤ 3 ∧ (p = 8 → k = 0) ∧ (p = 9 → k < 3) ∧ (p = 10 → 0 < k)) : rI G r ∧ pC G = p ∧ oC G r = m := by
  have e1 : pC G = p := by unfold pC; rw [h1, nI_clamp (by omega)]
  have e2 : oC G r = m := by unfold oC; rw [h2, nI_clamp (by omega)]
  refine ⟨?_, e1, e2⟩
  unfold rI
  rw [e1, e2]
  refine ⟨h1, hp, h2, hm, h5, fun z => ⟨(hk z).1, ?_⟩, fun z => ?_, fun z => ?_, fun z => ?_, h04⟩
  all_goals
    have hkk := hk (by omega)
    have e3 : kN G r = k := by unfold kN; rw [e2, hkk.2.1, nI_clamp (by omega)]
    rw [e3]
  · exact hkk.2.1
  · exact hkk.2.2.2.1 z
  · exact hkk.2.2.2.2.1 z
  · exact ⟨hkk.2.2.2.2.2 z, hkk.2.2.1⟩
theorem go_p {F : xFm} {x : Int32} : xGo F x 2 0 0 1 = x := by simp [xGo, fr, upd]
theorem rI_acc {F G : xFm} {r cd : Nat} (hI : rI F r) (h : accF F r cd = some G) : rI G r := by
  obtain ⟨hp, hp10, hm, hm4, h5, h8, h88, h9, h10, h04⟩ := hI
  unfold accF at h
  split at h
  · rename_i e
    unfold apP at h
    split at h
    · split at h
      · split at h
        · cases h
          refine (rI_of (p := 0) (m := oC F r) ?_ (by omega) ?_ hm4 (by omega) (by omega) 0 (by omega)).1
          · rw [e] at hp; exact hp
          · simp [fr, upd]; exact hm
        · cases h
      · cases h
    · split at h
      · cases h
      · split at h
        · cases h; exact (rI_of (p := 1) (m := oC F r) go_p (by omega) hm hm4 (by omega) (by omega) 0 (by omega)).1
        · split at h
          · cases h; exact (rI_of (p := 5) (m := oC F r) go_p (by omega) hm hm4 (by omega) (by omega) 0 (by omega)).1
          · cases h
  · rename_i e
    obtain ⟨a, -, rfl⟩ := Option.map_eq_some_iff.mp h
    exact (rI_of (p := 2) (m := oC F r) go_p (by omega) hm hm4 (by omega) (by omega) 0 (by omega)).1
  · rename_i e
    unfold agP at h
    split at h
    · cases h; exact (rI_of (p := 3) (m := oC F r) go_p (by omega) hm hm4 (by omega) (by omega) 0 (by omega)).1
    · cases h
  · rename_i e
    obtain ⟨a, -, rfl⟩ := Option.map_eq_some_iff.mp h
    refine (rI_of (p := 4) (m := oC F r) go_p (by omega) ?_ hm4 (by omega) (by omega) 0 (by omega)).1
    simp [ao3, xGo, xSg, fr, upd]; exact hm
  · rename_i e
    unfold acP at h
    split at h
    · cases h; exact (rI_of (p := 5) (m := oC F r) go_p (by omega) hm hm4 (by omega) (by omega) 0 (by omega)).1
    · cases h
  · rename_i e
    have m4 := h5 (by omega)
    unfold atP at h
    split at h
    · cases h; exact (rI_of (p := 7) (m := oC F r) go_p (by omega) hm hm4 (by omega) (by omega) 0 (by omega)).1
    · split at h
      · cases h
        refine (rI_of (p := 8) (m := oC F r + 1) go_p (by omega) ?_ (by omega) (by omega) (by omega) 0 (fun _ => ⟨by omega, ?_, by omega, fun _ => rfl, by omega, by omega⟩)).1
        · simp [xGo, xAo, fr, upd]
        · simp [xGo, xAo, fr, upd]
      · cases h
  · rename_i e
    have m4 := h5 (by omega)
    unfold atP at h
    split at h
    · cases h; exact (rI_of (p := 7) (m := oC F r) go_p (by omega) hm hm4 (by omega) (by omega) 0 (by omega)).1
    · split at h
      · cases h
        refine (rI_of (p := 8) (m := oC F r + 1) go_p (by omega) ?_ (by omega) (by omega) (by omega) 0 (fun _ => ⟨by omega, ?_, by omega, fun _ => rfl, by omega, by omega⟩)).1
        · simp [xGo, xAo, fr, upd]
        · simp [xGo, xAo, fr, upd]
      · cases h
  · rename_i e
    have m4 := h5 (by omega)
    unfold arP at h
    split at h
    · cases h
      refine (rI_of (p := 8) (m := oC F r + 1) go_p (by omega) ?_ (by omega) (by omega) (by omega) 0 (fun _ => ⟨by omega, ?_, by omega, fun _ => rfl, by omega, by omega⟩)).1
      · simp [xGo, xAr, fr, upd]
      · simp [xGo, xAr, fr, upd]
    · cases h
  · rename_i e
    have hk := h8 (by omega)
    have k0 := h88 e
    unfold aeP at h
    split at h
    · cases h
      refine (rI_of (p := 9) (m := oC F r) go_p (by omega) hm hm4 (by omega) (by omega) 0 (fun _ => ⟨hk.1, ?_, by omega, by omega, by omega, by omega⟩)).1
      rw [k0] at hk
      exact hk.2
    · cases h
  · rename_i e
    have hk := h8 (by omega)
    have k0 := h9 e
    obtain ⟨a, -, rfl⟩ := Option.map_eq_some_iff.mp h
    refine (rI_of (G := ao9 F r (oC F r) (kN F r) a) (p := 10) (m := oC F r) go_p (by omega) hm hm4 (by omega) (by omega) (kN F r + 1) (fun _ => ⟨hk.1, ?_, by omega, by omega, by omega, by omega⟩)).1
    simp [ao9, xGo, xAp, fr, upd]
  · rename_i e0 e1 e2 e3 e4 e5 e6 e7 e8 e9
    have e : pC F = 10 := by
      have f0 : pC F ≠ 0 := e0
      have f1 : pC F ≠ 1 := e1
      have f2 : pC F ≠ 2 := e2
      have f3 : pC F ≠ 3 := e3
      have f4 : pC F ≠ 4 := e4
      have f5 : pC F ≠ 5 := e5
      have f6 : pC F ≠ 6 := e6
      have f7 : pC F ≠ 7 := e7
      have f8 : pC F ≠ 8 := e8
      have f9 : pC F ≠ 9 := e9
      omega
    have hk := h8 (by omega)
    have k0 := h10 e
    unfold abP at h
    split at h
    · split at h
      · cases h; exact (rI_of (p := 6) (m := oC F r) go_p (by omega) hm hm4 (by omega) (by omega) 0 (by omega)).1
      · cases h
    · split at h
      · rename_i hc
        cases h
        exact (rI_of (p := 9) (m := oC F r) go_p (by omega) hm hm4 (by omega) (by omega) (kN F r) (fun _ => ⟨hk.1, hk.2, by omega, by omega, by omega, by omega⟩)).1
      · cases h
def rdF (r : Nat) (cs : Nat → Nat) : Nat → Nat → xFm → Nat × xFm
  | 0, i, F => (i, F)
  | n + 1, i, F => match accF F r (cs i) with
    | none => (i, F)
    | some G => rdF r cs n (i + 1) G
theorem rdF_s {r : Nat} {cs : Nat → Nat} {bl i : Nat} {F : xFm} (h : i < bl) : rdF r cs (bl - i) i F = (match accF F r (cs i) with | none => (i, F) | some G => rdF r cs (bl - (i + 1)) (i + 1) G) := by
  obtain ⟨n, hn⟩ : ∃ n, bl - i = n + 1 := ⟨bl - i - 1, by omega⟩
  have hn2 : bl - (i + 1) = n := by omega
  rw [hn, hn2]
  rfl
theorem rI_0 {F : xFm} {r : Nat} : rI (xGo (xCl F r) (nI 0)) r := by
  refine (rI_of (p := 0) (m := 0) go_p (by omega) ?_ (by omega) (by omega) (fun _ => rfl) 0 (by omega)).1
  simp [xGo, xCl, fr, upd]
theorem sRw_0 {F : xFm} {r : Nat} : sRw F (xGo (xCl F r) (nI 0)) r := (sRw_fr (Or.inr ⟨by omega, rfl⟩)).tr sRw_go
set_option maxRecDepth 100000 in
set_option maxHeartbeats 4000000 in
theorem lp_X5_readBuffer {K : mK} (hK : mCx K mX5_readBuffer) {ad : xAd} {h0 : mH} {F : xFm} {W : xWm} {pm : Nat → Nat} {bl : Nat} (hbl : F 0 0 0 1 = nI bl) (hbl40 : bl ≤ 40) {cs : Nat → Nat} (hcs : ∀ i, i < bl → F 1 0 0 i = nI (cs i) ∧ cs i < 1000) (hr : pm 8 < 9) {rd : Nat × xFm} (hZ : mRt K mX5_readBuffer (mRi (nI rd.1) (fun h' => xR xV ad h0 rd.2 W pm h'))) : ∀ (fu : Nat) (i : Nat) (G : xFm) (h : mH), bl - i < fu → (i ≤ bl) → (rI G (pm 8)) → (sRw F G (pm 8)) → (rd = rdF (pm 8) cs (bl - i) i G) → (xR xV ad h0 G W pm h) → mJ K 0 0 9 [some (.ref (ad 0 0 0)), some (.int (nI i))] [] h := by
  intro fu
  induction fu with
  | zero =>
    intro i G h hm0
    exact absurd hm0 (by omega)
  | succ fu ih =>
    intro i G h hm0 hi hI hs9 hrd hR
    refine mJ_iload_n hK dX5_readBuffer_9 rfl ?_
    refine mJ_aload_n hK dX5_readBuffer_10 rfl ?_
    refine xJ_getx (nI bl) hR hK dX5_readBuffer_11 fX5_53 (by unfold xV; omega) (fun _ _ => rfl) (by decide) rfl (by rw [hs9 0 0 0 (by omega) (by omega)]; exact hbl) ?_
    refine mJ_nge (tgt := 41) hK dX5_readBuffer_14 (by decide) (by omega) (by omega) (fun c_14 => ?_) (fun c_14 => ?_)
    · refine mJ_aload_n hK dX5_readBuffer_41 rfl ?_
      refine xJ_getx (nI bl) hR hK dX5_readBuffer_42 fX5_53 (by unfold xV; omega) (fun _ _ => rfl) (by decide) rfl (by rw [hs9 0 0 0 (by omega) (by omega)]; exact hbl) ?_
      refine mJ_iret hK dX5_readBuffer_45 rfl hZ (by decide) (by decide) ?_
      have : i = bl := by omega
      subst this
      rw [Nat.sub_self] at hrd
      exact ⟨congrArg (fun z9 => some (Value.int z9)) (by rw [hrd]; rfl), by rw [hrd]; exact hR⟩
    · refine mJ_aload_n hK dX5_readBuffer_17 rfl ?_
      refine xJ_getr hR hK dX5_readBuffer_18 fX5_16 (by unfold xV; omega) (fun _ _ => rfl) (by decide) (fun _ _ => rfl) ?_
      refine mJ_aload_n hK dX5_readBuffer_21 rfl ?_
      refine xJ_getr hR hK dX5_readBuffer_22 fX5_9 (by unfold xV; omega) (fun _ _ => rfl) (by decide) (fun _ _ => rfl) ?_
      refine mJ_iload_n hK dX5_readBuffer_25 rfl ?_
      refine xJ_ialdx i (nI (cs i)) hR hK dX5_readBuffer_26 (by unfold xV; omega) (fun _ _ => rfl) rfl (by omega) (by decide) (by rw [hs9 1 0 0 (by omega) (by omega)]; exact (hcs i (by omega)).1) ?_
      refine mJ_cVi hK dX5_readBuffer_27 lX5_249 (by unfold mFit; decide) (by decide) (k_X2_accept hR hr hI (hcs i (by omega)).2) rfl rfl (Nat.le_of_ble_eq_true rfl) (hR.1 _ _ _ (by unfold xV; omega)) ⟨_, _, rfl⟩ (fun h hR => ?_)
      refine mJ_ifb_ne (tgt := 35) hK dX5_readBuffer_30 (by decide) (fun c_30 => ?_) (fun c_30 => ?_)
      · refine mJ_iincN hK dX5_readBuffer_35 rfl rfl (by decide) rfl ?_
        refine mJ_goto (tgt := 9) hK dX5_readBuffer_38 (by decide) ?_
        cases hh : accF G (pm 8) (cs i) with
        | none => rw [hh] at c_30; exact absurd c_30 (by decide)
        | some G9 =>
          rw [hh] at hR
          exact ih (i + 1) G9 _ (by omega) (by omega) (rI_acc hI hh) (hs9.tr (accF_rows hh)) (by rw [hrd, rdF_s c_14, hh]) hR
      · refine mJ_iload_n hK dX5_readBuffer_33 rfl ?_
        refine mJ_iret hK dX5_readBuffer_34 rfl hZ (by decide) (by decide) ?_
        have hn : accF G (pm 8) (cs i) = none := by cases hh : accF G (pm 8) (cs i) with | none => rfl | some z9 => exact absurd (by rw [hh]; rfl) c_30
        have he : rd = (i, G) := by rw [hrd, rdF_s c_14, hn]
        rw [hn] at hR
        exact ⟨congrArg (fun z9 => some (Value.int z9)) (by rw [he]), by rw [he]; exact hR⟩

set_option maxRecDepth 100000 in
set_option maxHeartbeats 4000000 in
theorem k_X5_readBuffer {l : Launch} {D : va_G} {aC : Nat → ClassId} {ad : xAd} {h0 h : mH} {F : xFm} {W : xWm} {pm : Nat → Nat} (hR : xR xV ad h0 F W pm h) {bl : Nat} (hbl : F 0 0 0 1 = nI bl) (hbl40 : bl ≤ 40) {cs : Nat → Nat} (hcs : ∀ i, i < bl → F 1 0 0 i = nI (cs i) ∧ cs i < 1000) (hr : pm 8 < 9) : mCon l D aC mX5_readBuffer [.ref (ad 0 0 0)] h (mRi (nI (rdF (pm 8) cs bl 0 (xGo (xCl F (pm 8)) (nI 0))).1) (fun h' => xR xV ad h0 (rdF (pm 8) cs bl 0 (xGo (xCl F (pm 8)) (nI 0))).2 W pm h')) := by
  refine mCon.of [some (.ref (ad 0 0 0)), none] (by decide +kernel) rfl (Nat.le_of_ble_eq_true rfl) ?_
  intro K el eD eC hK hZ
  subst el eD eC
  refine mJ_aload_n hK dX5_readBuffer_0 rfl ?_
  refine xJ_getr hR hK dX5_readBuffer_1 fX5_16 (by unfold xV; omega) (fun _ _ => rfl) (by decide) (fun _ _ => rfl) ?_
  refine mJ_cVv hK dX5_readBuffer_4 lX5_246 (by unfold mFit; decide) (by decide) (k_X2_begin hR hr) rfl rfl (Nat.le_of_ble_eq_true rfl) (hR.1 _ _ _ (by unfold xV; omega)) ⟨_, _, rfl⟩ (fun h hR => ?_)
  refine mJ_iconst (v := nI 0) hK dX5_readBuffer_7 (by decide) ?_
  refine mJ_istore_n hK dX5_readBuffer_8 (by decide) rfl ?_
  exact lp_X5_readBuffer hK hbl hbl40 hcs hr hZ (bl + 1) 0 _ _ (by omega) (by omega) rI_0 sRw_0 rfl hR

set_option maxRecDepth 100000 in
set_option maxHeartbeats 4000000 in
theorem k_X5_firstError {l : Launch} {D : va_G} {aC : Nat → ClassId} {ad : xAd} {h0 h : mH} {F : xFm} {W : xWm} {pm : Nat → Nat} (hR : xR xV ad h0 F W pm h) {bl : Nat} (hbl : F 0 0 0 1 = nI bl) (hbl40 : bl ≤ 40) {cs : Nat → Nat} (hcs : ∀ i, i < bl → F 1 0 0 i = nI (cs i) ∧ cs i < 1000) (hr : pm 8 < 9) : mCon l D aC mX5_firstError [.ref (ad 0 0 0)] h (mRi (nI (rdF (pm 8) cs bl 0 (xGo (xCl F (pm 8)) (nI 0))).1) (fun h' => xR xV ad h0 (rdF (pm 8) cs bl 0 (xGo (xCl F (pm 8)) (nI 0))).2 W pm h')) := by
  refine mCon.of [some (.ref (ad 0 0 0))] (by decide +kernel) rfl (Nat.le_of_ble_eq_true rfl) ?_
  intro K el eD eC hK hZ
  subst el eD eC
  refine mJ_aload_n hK dX5_firstError_0 rfl ?_
  refine mJ_cVi hK dX5_firstError_1 lX5_62 (by unfold mFit; decide) (by decide) (k_X5_readBuffer hR hbl hbl40 hcs hr) rfl rfl (Nat.le_of_ble_eq_true rfl) (hR.1 _ _ _ (by unfold xV; omega)) ⟨_, _, rfl⟩ (fun h hR => ?_)
  refine mJ_iret hK dX5_firstError_4 rfl hZ (by decide) (by decide) ?_
  exact ⟨rfl, hR⟩
