theorem rdM_le {cs : Nat → Nat} : ∀ {n i : Nat} {F : xFm}, (rdM cs n i F).1 ≤ i + n
  | 0, i, F => Nat.le_refl _
  | n + 1, i, F => by
    rw [rdM]
    split
    · dsimp only
      omega
    · have := rdM_le (cs := cs) (n := n) (i := i + 1) (F := by assumption)
      omega
theorem rdM_I {cs : Nat → Nat} : ∀ {n i : Nat} {F : xFm}, mI F → mI (rdM cs n i F).2
  | 0, i, F, h => h
  | n + 1, i, F, h => by
    rw [rdM]
    split
    · exact h
    · rename_i hG
      exact rdM_I (mI_acc h hG)
theorem rdM_O {cs : Nat → Nat} : ∀ {n i : Nat} {F H : xFm}, pO H F → (∀ {F G : xFm} {cd : Nat}, accM F cd = some G → pO F G) → pO H (rdM cs n i F).2
  | 0, i, F, H, h, _ => h
  | n + 1, i, F, H, h, ha => by
    rw [rdM]
    split
    · exact h
    · rename_i hG
      exact rdM_O (pO_tr h (ha hG)) ha
def woM (rd : Nat × xFm) (bl : Nat) : Option Nat := if rd.1 = bl then (if stM rd.2 = 9 then some (roM rd.2 + 1) else if stM rd.2 = 5 ∧ rd.2 30 0 0 31 = 0 then some 0 else none) else none
set_option maxRecDepth 100000 in
set_option maxHeartbeats 4000000 in
theorem k_X6_firstError {l : Launch} {D : va_G} {aC : Nat → ClassId} {ad : xAd} {h0 h : mH} {F : xFm} {W : xWm} {pm : Nat → Nat} (hR : xR yV ad h0 F W pm h) {bl : Nat} (hbl : F 30 0 0 1 = nI bl) (hbl40 : bl ≤ 40) {cs : Nat → Nat} (hcs : ∀ i, i < bl → F 32 0 0 i = nI (cs i) ∧ cs i < 1000) {rd : Nat × xFm} (hrd : rd = rdM cs bl 0 (m0 (tS F (nI 0)))) : mCon l D aC mX6_firstError [.ref (ad 30 0 0)] h (mRi (nI rd.1) (fun h' => ∃ G : xFm, xR yV ad h0 G W pm h' ∧ pO (tS F (nI 0)) G)) := by
  refine mCon.of [some (.ref (ad 30 0 0))] (by decide +kernel) rfl (Nat.le_of_ble_eq_true rfl) ?_
  intro K el eD eC hK hZ
  subst el eD eC
  refine mJ_aload_n hK dX6_firstError_0 rfl ?_
  refine mJ_iconst (v := nI 0) hK dX6_firstError_1 (by decide) ?_
  refine xJ_puti hR hK dX6_firstError_2 fX6_117 sX6_0 rfl rfl (by unfold yV; omega) (fun _ _ => rfl) (by decide) rfl (fun h hR => ?_)
  refine mJ_aload_n hK dX6_firstError_5 rfl ?_
  refine mJ_cVi hK dX6_firstError_6 lX6_181 (by unfold mFit; decide) (by decide) (k_X6_rightLength hR (bl := bl) hbl hbl40 (cs := cs) hcs hrd) rfl rfl (Nat.le_of_ble_eq_true rfl) (hR.1 _ _ _ (by unfold yV; omega)) ⟨_, _, rfl⟩ (fun h hE => ?_)
  obtain ⟨G, hR, hp, hg9⟩ := hE
  refine mJ_iret hK dX6_firstError_9 rfl hZ (by decide) (by decide) ?_
  exact ⟨rfl, G, hR, hp⟩

set_option maxRecDepth 100000 in
set_option maxHeartbeats 4000000 in
theorem k_X6_wholeOutputs {l : Launch} {D : va_G} {aC : Nat → ClassId} {ad : xAd} {h0 h : mH} {F : xFm} {W : xWm} {pm : Nat → Nat} (hR : xR yV ad h0 F W pm h) {bl : Nat} (hbl : F 30 0 0 1 = nI bl) (hbl40 : bl ≤ 40) {cs : Nat → Nat} (hcs : ∀ i, i < bl → F 32 0 0 i = nI (cs i) ∧ cs i < 1000) {rd : Nat × xFm} (hrd : rd = rdM cs bl 0 (m0 F)) : mCon l D aC mX6_wholeOutputs [.ref (ad 30 0 0)] h (mRi (opI (woM rd bl)) (fun h' => ∃ G : xFm, xR yV ad h0 G W pm h' ∧ pO F G ∧ (rd.1 = bl → G = rd.2))) := by
  refine mCon.of [some (.ref (ad 30 0 0))] (by decide +kernel) rfl (Nat.le_of_ble_eq_true rfl) ?_
  intro K el eD eC hK hZ
  subst el eD eC
  have hI9 : mI rd.2 := by rw [hrd]; exact rdM_I m0_I
  have hl9 : rd.1 ≤ bl := by have := rdM_le (cs := cs) (n := bl) (i := 0) (F := m0 F); rw [← hrd] at this; omega
  have hs9 := hI9.2.1
  have hr9 := hI9.2.2.2.2.2.1
  refine mJ_aload_n hK dX6_wholeOutputs_0 rfl ?_
  refine mJ_cVi hK dX6_wholeOutputs_1 lX6_181 (by unfold mFit; decide) (by decide) (k_X6_rightLength hR (bl := bl) hbl hbl40 (cs := cs) hcs hrd) rfl rfl (Nat.le_of_ble_eq_true rfl) (hR.1 _ _ _ (by unfold yV; omega)) ⟨_, _, rfl⟩ (fun h hE => ?_)
  obtain ⟨G, hR, hp, hg9⟩ := hE
  refine mJ_aload_n hK dX6_wholeOutputs_4 rfl ?_
  refine xJ_getx (nI bl) hR hK dX6_wholeOutputs_5 fX6_124 (by unfold yV; omega) (fun _ _ => rfl) (by decide) rfl (by rw [hp.2 1 (by omega)]; exact hbl) ?_
  refine mJ_nge (tgt := 13) hK dX6_wholeOutputs_8 (by decide) (by omega) (by omega) (fun c_8 => ?_) (fun c_8 => ?_)
  · have hb9 : rd.1 = bl := by omega
    have hG := hg9 hb9
    subst hG
    refine mJ_aload_n hK dX6_wholeOutputs_13 rfl ?_
    refine xJ_getx (nI (stM rd.2)) hR hK dX6_wholeOutputs_14 fX6_140 (by unfold yV; omega) (fun _ _ => rfl) (by decide) rfl (hI9.1) ?_
    refine mJ_bipush (v := nI 9) hK dX6_wholeOutputs_17 (by decide) ?_
    refine mJ_nne (tgt := 29) hK dX6_wholeOutputs_19 (by decide) (by omega) (by omega) (fun c_19 => ?_) (fun c_19 => ?_)
    · refine mJ_aload_n hK dX6_wholeOutputs_29 rfl ?_
      refine xJ_getx (nI (stM rd.2)) hR hK dX6_wholeOutputs_30 fX6_140 (by unfold yV; omega) (fun _ _ => rfl) (by decide) rfl (hI9.1) ?_
      refine mJ_iconst (v := nI 5) hK dX6_wholeOutputs_33 (by decide) ?_
      refine mJ_nne (tgt := 48) hK dX6_wholeOutputs_34 (by decide) (by omega) (by omega) (fun c_34 => ?_) (fun c_34 => ?_)
      · refine mJ_iconst (v := -1) hK dX6_wholeOutputs_48 (by decide) ?_
        refine mJ_iret hK dX6_wholeOutputs_49 rfl hZ (by decide) (by decide) ?_
        exact ⟨by rw [woM, if_pos hb9, if_neg (by omega), if_neg (by omega)]; rfl, _, hR, hp, fun _ => rfl⟩
      · refine mJ_aload_n hK dX6_wholeOutputs_37 rfl ?_
        refine xJ_geti hR hK dX6_wholeOutputs_38 fX6_156 (by unfold yV; omega) (fun _ _ => rfl) (by decide) rfl ?_
        refine mJ_if_ne (tgt := 48) hK dX6_wholeOutputs_41 (by decide) (fun c_41 => ?_) (fun c_41 => ?_)
        · refine mJ_iconst (v := -1) hK dX6_wholeOutputs_48 (by decide) ?_
          refine mJ_iret hK dX6_wholeOutputs_49 rfl hZ (by decide) (by decide) ?_
          exact ⟨by rw [woM, if_pos hb9, if_neg (by omega), if_neg (fun z => c_41 z.2)]; rfl, _, hR, hp, fun _ => rfl⟩
        · refine mJ_iconst (v := nI 0) hK dX6_wholeOutputs_44 (by decide) ?_
          refine mJ_goto (tgt := 49) hK dX6_wholeOutputs_45 (by decide) ?_
          refine mJ_iret hK dX6_wholeOutputs_49 rfl hZ (by decide) (by decide) ?_
          exact ⟨by rw [woM, if_pos hb9, if_neg (by omega), if_pos ⟨by omega, c_41⟩]; rfl, _, hR, hp, fun _ => rfl⟩
    · refine mJ_aload_n hK dX6_wholeOutputs_22 rfl ?_
      refine xJ_getx (nI (roM rd.2)) hR hK dX6_wholeOutputs_23 fX6_143 (by unfold yV; omega) (fun _ _ => rfl) (by decide) rfl (hI9.2.2.2.2.1) ?_
      refine mJ_iconst (v := nI 1) hK dX6_wholeOutputs_26 (by decide) ?_
      refine mJ_iaddN hK dX6_wholeOutputs_27 ?_
      refine mJ_iret hK dX6_wholeOutputs_28 rfl hZ (by decide) (by decide) ?_
      exact ⟨by rw [woM, if_pos hb9, if_pos (by omega)]; rfl, _, hR, hp, fun _ => rfl⟩
  · refine mJ_iconst (v := -1) hK dX6_wholeOutputs_11 (by decide) ?_
    refine mJ_iret hK dX6_wholeOutputs_12 rfl hZ (by decide) (by decide) ?_
    exact ⟨by rw [woM, if_neg (by omega)]; rfl, G, hR, hp, hg9⟩
