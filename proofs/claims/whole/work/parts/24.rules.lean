theorem xC_pm {ad : xAd} {pm pm' : Nat → Nat} {r : Nat → Int32} {w : Nat → Int64} {i j : Nat} : ∀ q, q < 30 → q ≠ 2 → q ≠ 3 → xC ad pm r w q i j = xC ad pm' r w q i j := by
  intro q h1 h2 h3
  match q, h1, h2, h3 with
  | 0, _, _, _ => rfl
  | 1, _, _, _ => rfl
  | 4, _, _, _ => rfl
  | 5, _, _, _ => rfl
  | 6, _, _, _ => rfl
  | 7, _, _, _ => rfl
  | 8, _, _, _ => rfl
  | 9, _, _, _ => rfl
  | 10, _, _, _ => rfl
  | 11, _, _, _ => rfl
  | 12, _, _, _ => rfl
  | 13, _, _, _ => rfl
  | 14, _, _, _ => rfl
  | 15, _, _, _ => rfl
  | 16, _, _, _ => rfl
  | 17, _, _, _ => rfl
  | 18, _, _, _ => rfl
  | 19, _, _, _ => rfl
  | 20, _, _, _ => rfl
  | 21, _, _, _ => rfl
  | 22, _, _, _ => rfl
  | 23, _, _, _ => rfl
  | 24, _, _, _ => rfl
  | 25, _, _, _ => rfl
  | 26, _, _, _ => rfl
  | 27, _, _, _ => rfl
  | 28, _, _, _ => rfl
  | 29, _, _, _ => rfl
  | 2, _, h, _ => exact absurd rfl h
  | 3, _, _, h => exact absurd rfl h
  | q + 30, h, _, _ => exact absurd h (by omega)
theorem xR.pmS {ad : xAd} {h0 h : mH} {F : xFm} {W : xWm} {pm : Nat → Nat} (hR : xR xV ad h0 F W pm h) {m : Nat} (hm : m < 8) (p : Nat) : xR xV ad h0 F W (va_up pm m p) (mset h (ad 3 0 0) (.inl (3, 8, .inr (.inr (.inr (.inr (va_up (fun n => some (ad 17 (if n < 8 then pm n else 0) 0)) m (some (ad 17 p 0))))))))) := by
  have hv0 : xV 3 0 0 := by unfold xV; omega
  refine ⟨fun k i j hv => ?_, hR.2.1, fun a ha => ?_⟩
  · by_cases e : k = 3 ∧ i = 0 ∧ j = 0
    · obtain ⟨rfl, rfl, rfl⟩ := e
      rw [mset_s]
      have hf : (va_up (fun n => some (ad 17 (if n < 8 then pm n else 0) 0)) m (some (ad 17 p 0))) = (fun n => some (ad 17 (if n < 8 then va_up pm m p n else 0) 0)) := by
        funext n
        by_cases hn : n = m
        · subst hn
          simp [va_up, hm]
        · simp [va_up, hn]
      rw [hf]
      rfl
    · rw [mset_n (fun z => e (hR.2.1 _ _ _ _ _ _ hv hv0 z)), hR.1 k i j hv]
      congr 1
      by_cases e2 : k = 2
      · subst e2
        have h8 : va_up pm m p 8 = pm 8 := by
          unfold va_up
          rw [if_neg (by omega)]
        show Sum.inr (2, _) = Sum.inr (2, _)
        congr 2
        refine lr_ext fun n hn => ?_
        match n, hn with
        | 0, _ => exact congrArg (fun z => Value.ref (ad 17 z 0)) h8.symm
        | 1, _ => rfl
        | 2, _ => rfl
        | 3, _ => rfl
      · refine xC_pm k (by unfold xV at hv; omega) e2 (fun z => e ⟨z, ?_⟩)
        subst z
        unfold xV at hv
        omega
  · rw [mset_n (ha 3 0 0 hv0)]
    exact hR.2.2 a ha
section
variable {K : mK} {μ : mM} {cells slots pc : Nat} {L : List (Option Value)} {S : List Value} {h : mH} {ad : xAd} {h0 : mH} {F : xFm} {W : xWm} {pm : Nat → Nat}
theorem xJ_putrule {idx p : Nat} (hR : xR xV ad h0 F W pm h) (hK : mCx K μ) (hd : decode μ.2.1 pc = .ok (.putfield idx, 3)) (hl : mFL μ.1.cls idx 2 0) (kk : ∀ h', xR xV ad h0 F W (va_up pm 8 p) h' → mJ K cells slots (pc + 3) L S h') : mJ K cells slots pc L (.ref (ad 17 p 0) :: .ref (ad 2 0 0) :: S) h :=
  mJ_put hK hd hl sX2_0 rfl rfl ((hR.1 2 0 0 (by unfold xV; omega)).trans rfl) (by decide) (kk _ (hR.pm8 p))
theorem xJ_astR {x : Int32} {m p : Nat} (hR : xR xV ad h0 F W pm h) (hK : mCx K μ) (hd : decode μ.2.1 pc = .ok (.aastore, 1)) (hp : p < 9) (hx : x = nI m) (hm : m < 8) (kk : ∀ h', xR xV ad h0 F W (va_up pm m p) h' → mJ K cells slots (pc + 1) L S h') : mJ K cells slots pc L (.ref (ad 17 p 0) :: .int x :: .ref (ad 3 0 0) :: S) h :=
  mJ_aastRN m hK hd ((hR.1 3 0 0 (by unfold xV; omega)).trans rfl) ((hR.1 17 p 0 (by unfold xV; omega)).trans rfl) hx hm (by decide) (kk _ (hR.pmS hm p))
end
theorem rdF_inv {F : xFm} {r : Nat} {cs : Nat → Nat} : ∀ (n i : Nat) (G : xFm), rI G r → sRw F G r → rI (rdF r cs n i G).2 r ∧ sRw F (rdF r cs n i G).2 r ∧ i ≤ (rdF r cs n i G).1 ∧ (rdF r cs n i G).1 ≤ i + n
  | 0, i, G, h1, h2 => ⟨h1, h2, Nat.le_refl _, Nat.le_refl _⟩
  | n + 1, i, G, h1, h2 => by
    cases hh : accF G r (cs i) with
    | none =>
      have e : rdF r cs (n + 1) i G = (i, G) := by
        rw [show rdF r cs (n + 1) i G = (match accF G r (cs i) with | none => (i, G) | some G9 => rdF r cs n (i + 1) G9) from rfl, hh]
      rw [e]
      exact ⟨h1, h2, Nat.le_refl _, by omega⟩
    | some G9 =>
      have e : rdF r cs (n + 1) i G = rdF r cs n (i + 1) G9 := by
        rw [show rdF r cs (n + 1) i G = (match accF G r (cs i) with | none => (i, G) | some G9 => rdF r cs n (i + 1) G9) from rfl, hh]
      rw [e]
      obtain ⟨a, b, c, d⟩ := rdF_inv (F := F) n (i + 1) G9 (rI_acc h1 hh) (h2.tr (accF_rows hh))
      exact ⟨a, b, by omega, by omega⟩
theorem k_X5_readBufferR {l : Launch} {D : va_G} {aC : Nat → ClassId} {ad : xAd} {h0 h : mH} {F : xFm} {W : xWm} {pm : Nat → Nat} (hR : xR xV ad h0 F W pm h) {bl : Nat} (hbl : F 0 0 0 1 = nI bl) (hbl40 : bl ≤ 40) {cs : Nat → Nat} (hcs : ∀ i, i < bl → F 1 0 0 i = nI (cs i) ∧ cs i < 1000) (hr : pm 8 < 9) {rd : Nat × xFm} (hrd : rd = rdF (pm 8) cs bl 0 (xGo (xCl F (pm 8)) (nI 0))) : mCon l D aC mX5_readBuffer [.ref (ad 0 0 0)] h (mRi (nI rd.1) (fun h' => xR xV ad h0 rd.2 W pm h')) := by
  subst hrd
  exact k_X5_readBuffer hR hbl hbl40 hcs hr
set_option maxRecDepth 100000 in
set_option maxHeartbeats 4000000 in
theorem k_X2_exchange {l : Launch} {D : va_G} {aC : Nat → ClassId} {ad : xAd} {h0 h : mH} {F : xFm} {W : xWm} {pm : Nat → Nat} (hR : xR xV ad h0 F W pm h) (hr : pm 8 < 9) {p : Nat} (hp : p < 9) : mCon l D aC mX2_exchange [.ref (ad 2 0 0), .ref (ad 17 p 0)] h (mRa (ad 17 (pm 8) 0) (fun h' => xR xV ad h0 F W (va_up pm 8 p) h')) := by
  refine mCon.of [some (.ref (ad 2 0 0)), some (.ref (ad 17 p 0)), none] (by decide +kernel) rfl (Nat.le_of_ble_eq_true rfl) ?_
  intro K el eD eC hK hZ
  subst el eD eC
  refine mJ_aload_n hK dX2_exchange_0 rfl ?_
  refine xJ_getr hR hK dX2_exchange_1 fX2_12 (by unfold xV; omega) (fun _ _ => rfl) (by decide) (fun _ _ => rfl) ?_
  refine mJ_astore_n hK dX2_exchange_4 (by decide) rfl ?_
  refine mJ_aload_n hK dX2_exchange_5 rfl ?_
  refine mJ_aload_n hK dX2_exchange_6 rfl ?_
  refine xJ_putrule hR hK dX2_exchange_7 fX2_12 (fun h hR => ?_)
  refine mJ_aload_n hK dX2_exchange_10 rfl ?_
  refine mJ_aret hK dX2_exchange_11 rfl (Or.inl ⟨_, rfl⟩) hZ (by decide) (by decide) ?_
  exact ⟨rfl, hR⟩

set_option maxRecDepth 100000 in
set_option maxHeartbeats 4000000 in
theorem k_X5_addRule {l : Launch} {D : va_G} {aC : Nat → ClassId} {ad : xAd} {h0 h : mH} {F : xFm} {W : xWm} {pm : Nat → Nat} (hR : xR xV ad h0 F W pm h) {bl : Nat} (hbl : F 0 0 0 1 = nI bl) (hbl40 : bl ≤ 40) {cs : Nat → Nat} (hcs : ∀ i, i < bl → F 1 0 0 i = nI (cs i) ∧ cs i < 1000) {rn : Nat} (hrn : F 0 0 0 4 = nI rn) (hrn8 : rn ≤ 8) (hpm : ∀ i, i < 9 → pm i < 9) {rd : Nat × xFm} (hrd : rd = rdF (pm 8) cs bl 0 (xGo (xCl F (pm 8)) (nI 0))) (h1 : rd.1 = bl) (h2 : pC rd.2 = 5 ∨ pC rd.2 = 10) (hrn7 : rn < 8) : mCon l D aC mX5_addRule [.ref (ad 0 0 0)] h (mRi (nI rn) (fun h' => xR xV ad h0 (fr (fr rd.2 12 0 0 (upd (rd.2 12 0 0) rn (nI 0))) 0 0 0 (upd (upd (upd (rd.2 0 0 0) 4 (nI (rn + 1))) 1 (nI 0)) 8 (nI 0))) W (va_up (va_up pm 8 (pm rn)) rn (pm 8)) h')) := by
  refine mCon.of [some (.ref (ad 0 0 0)), none] (by decide +kernel) rfl (Nat.le_of_ble_eq_true rfl) ?_
  intro K el eD eC hK hZ
  subst el eD eC
  obtain ⟨hI, hs9, -, hle⟩ := rdF_inv (F := F) (r := pm 8) (cs := cs) bl 0 _ rI_0 sRw_0
  rw [← hrd] at hI hs9 hle
  have hG1 : rd.2 0 0 0 1 = nI bl := by rw [hs9 0 0 0 (by omega) (by omega)]; exact hbl
  have hG4 : rd.2 0 0 0 4 = nI rn := by rw [hs9 0 0 0 (by omega) (by omega)]; exact hrn
  have hp10 := hI.2.1
  have hr : pm 8 < 9 := hpm 8 (by omega)
  refine mJ_aload_n hK dX5_addRule_0 rfl ?_
  refine mJ_cVi hK dX5_addRule_1 lX5_62 (by unfold mFit; decide) (by decide) (k_X5_readBufferR hR hbl hbl40 hcs hr hrd) rfl rfl (Nat.le_of_ble_eq_true rfl) (hR.1 _ _ _ (by unfold xV; omega)) ⟨_, _, rfl⟩ (fun h hR => ?_)
  refine mJ_aload_n hK dX5_addRule_4 rfl ?_
  refine xJ_getx (nI bl) hR hK dX5_addRule_5 fX5_53 (by unfold xV; omega) (fun _ _ => rfl) (by decide) rfl (by first | exact hG1 | (simp [fr, upd]; exact hG1)) ?_
  refine mJ_nlt (tgt := 21) hK dX5_addRule_8 (by decide) (by omega) (by omega) (fun c_8 => ?_) (fun c_8 => ?_)
  · exact absurd c_8 (by omega)
  · refine mJ_aload_n hK dX5_addRule_11 rfl ?_
    refine xJ_getr hR hK dX5_addRule_12 fX5_16 (by unfold xV; omega) (fun _ _ => rfl) (by decide) (fun _ _ => rfl) ?_
    refine mJ_cVi hK dX5_addRule_15 lX5_66 (by unfold mFit; decide) (by decide) (k_X2_isComplete hR hI.1 (by omega)) rfl rfl (Nat.le_of_ble_eq_true rfl) (hR.1 _ _ _ (by unfold xV; omega)) ⟨_, _, rfl⟩ (fun h e9 => ?_)
    subst e9
    refine mJ_ifb_ne (tgt := 31) hK dX5_addRule_18 (by decide) (fun c_18 => ?_) (fun c_18 => ?_)
    · refine mJ_aload_n hK dX5_addRule_31 rfl ?_
      refine xJ_getx (nI rn) hR hK dX5_addRule_32 fX5_72 (by unfold xV; omega) (fun _ _ => rfl) (by decide) rfl (by first | exact hG4 | (simp [fr, upd]; exact hG4)) ?_
      refine mJ_bipush (v := nI 8) hK dX5_addRule_35 (by decide) ?_
      refine mJ_nlt (tgt := 50) hK dX5_addRule_37 (by decide) (by omega) (by omega) (fun c_37 => ?_) (fun c_37 => ?_)
      · refine mJ_aload_n hK dX5_addRule_50 rfl ?_
        refine xJ_getx (nI rn) hR hK dX5_addRule_51 fX5_72 (by unfold xV; omega) (fun _ _ => rfl) (by decide) rfl (by first | exact hG4 | (simp [fr, upd]; exact hG4)) ?_
        refine mJ_istore_n hK dX5_addRule_54 (by decide) rfl ?_
        refine mJ_aload_n hK dX5_addRule_55 rfl ?_
        refine xJ_getr hR hK dX5_addRule_56 fX5_22 (by unfold xV; omega) (fun _ _ => rfl) (by decide) (fun _ _ => rfl) ?_
        refine mJ_iload_n hK dX5_addRule_59 rfl ?_
        refine mJ_aload_n hK dX5_addRule_60 rfl ?_
        refine xJ_getr hR hK dX5_addRule_61 fX5_16 (by unfold xV; omega) (fun _ _ => rfl) (by decide) (fun _ _ => rfl) ?_
        refine mJ_aload_n hK dX5_addRule_64 rfl ?_
        refine xJ_getr hR hK dX5_addRule_65 fX5_22 (by unfold xV; omega) (fun _ _ => rfl) (by decide) (fun _ _ => rfl) ?_
        refine mJ_iload_n hK dX5_addRule_68 rfl ?_
        refine xJ_aldR rn hR hK dX5_addRule_69 (by unfold xV; omega) rfl (by omega) ?_
        refine mJ_cVa hK dX5_addRule_70 lX5_77 (by unfold mFit; decide) (by decide) (k_X2_exchange hR hr (hpm rn (by omega))) rfl rfl (Nat.le_of_ble_eq_true rfl) (hR.1 _ _ _ (by unfold xV; omega)) ⟨_, _, rfl⟩ (fun h hR => ?_)
        refine xJ_astR hR hK dX5_addRule_73 hr rfl (by omega) (fun h hR => ?_)
        refine mJ_aload_n hK dX5_addRule_74 rfl ?_
        refine xJ_getr hR hK dX5_addRule_75 fX5_29 (by unfold xV; omega) (fun _ _ => rfl) (by decide) (fun _ _ => rfl) ?_
        refine xJ_getr hR hK dX5_addRule_78 fX5_81 (by unfold xV; omega) (fun _ _ => rfl) (by decide) (fun _ _ => rfl) ?_
        refine mJ_iload_n hK dX5_addRule_81 rfl ?_
        refine mJ_iconst (v := nI 0) hK dX5_addRule_82 (by decide) ?_
        refine xJ_iast rn hR hK dX5_addRule_83 (by unfold xV; omega) (fun _ _ => rfl) rfl (by omega) (by decide) (fun h hR => ?_)
        refine mJ_aload_n hK dX5_addRule_84 rfl ?_
        refine mJ_dup hK dX5_addRule_85 rfl ?_
        refine xJ_getx (nI rn) hR hK dX5_addRule_86 fX5_72 (by unfold xV; omega) (fun _ _ => rfl) (by decide) rfl (by first | exact hG4 | (simp [fr, upd]; exact hG4)) ?_
        refine mJ_iconst (v := nI 1) hK dX5_addRule_89 (by decide) ?_
        refine mJ_iaddN hK dX5_addRule_90 ?_
        refine xJ_puti hR hK dX5_addRule_91 fX5_72 sX5_4 rfl rfl (by unfold xV; omega) (fun _ _ => rfl) (by decide) rfl (fun h hR => ?_)
        refine mJ_aload_n hK dX5_addRule_94 rfl ?_
        refine mJ_iconst (v := nI 0) hK dX5_addRule_95 (by decide) ?_
        refine xJ_puti hR hK dX5_addRule_96 fX5_53 sX5_1 rfl rfl (by unfold xV; omega) (fun _ _ => rfl) (by decide) rfl (fun h hR => ?_)
        refine mJ_aload_n hK dX5_addRule_99 rfl ?_
        refine mJ_iconst (v := nI 0) hK dX5_addRule_100 (by decide) ?_
        refine xJ_puti hR hK dX5_addRule_101 fX5_84 sX5_8 (by decide) (by decide) (by unfold xV; omega) (fun _ _ => rfl) (by decide) rfl (fun h hR => ?_)
        refine mJ_iload_n hK dX5_addRule_104 rfl ?_
        refine mJ_iret hK dX5_addRule_105 rfl hZ (by decide) (by decide) ?_
        simp only [fr_s, fr_fr] at hR
        exact ⟨rfl, hR⟩
      · exact absurd c_37 (by omega)
    · exact absurd h2 c_18

set_option maxRecDepth 100000 in
set_option maxHeartbeats 4000000 in
theorem k_X5_addRule_x1 {l : Launch} {D : va_G} {aC : Nat → ClassId} {ad : xAd} {h0 h : mH} {F : xFm} {W : xWm} {pm : Nat → Nat} (hR : xR xV ad h0 F W pm h) {bl : Nat} (hbl : F 0 0 0 1 = nI bl) (hbl40 : bl ≤ 40) {cs : Nat → Nat} (hcs : ∀ i, i < bl → F 1 0 0 i = nI (cs i) ∧ cs i < 1000) {rn : Nat} (hrn : F 0 0 0 4 = nI rn) (hrn8 : rn ≤ 8) (hpm : ∀ i, i < 9 → pm i < 9) {rd : Nat × xFm} (hrd : rd = rdF (pm 8) cs bl 0 (xGo (xCl F (pm 8)) (nI 0))) (h1 : ¬ (rd.1 = bl ∧ (pC rd.2 = 5 ∨ pC rd.2 = 10))) : mXon l D aC mX5_addRule [.ref (ad 0 0 0)] h (fun _ _ => False) (fun E h' => E = "java/lang/IllegalArgumentException" ∧ xR xV ad h0 rd.2 W pm h') := by
  refine mXon.of [some (.ref (ad 0 0 0)), none] (by decide +kernel) rfl (Nat.le_of_ble_eq_true rfl) ?_
  intro K el eD eC hK hZ hX
  subst el eD eC
  obtain ⟨hI, hs9, -, hle⟩ := rdF_inv (F := F) (r := pm 8) (cs := cs) bl 0 _ rI_0 sRw_0
  rw [← hrd] at hI hs9 hle
  have hG1 : rd.2 0 0 0 1 = nI bl := by rw [hs9 0 0 0 (by omega) (by omega)]; exact hbl
  have hG4 : rd.2 0 0 0 4 = nI rn := by rw [hs9 0 0 0 (by omega) (by omega)]; exact hrn
  have hp10 := hI.2.1
  have hr : pm 8 < 9 := hpm 8 (by omega)
  refine mJ_aload_n hK dX5_addRule_0 rfl ?_
  refine mJ_cVi hK dX5_addRule_1 lX5_62 (by unfold mFit; decide) (by decide) (k_X5_readBufferR hR hbl hbl40 hcs hr hrd) rfl rfl (Nat.le_of_ble_eq_true rfl) (hR.1 _ _ _ (by unfold xV; omega)) ⟨_, _, rfl⟩ (fun h hR => ?_)
  refine mJ_aload_n hK dX5_addRule_4 rfl ?_
  refine xJ_getx (nI bl) hR hK dX5_addRule_5 fX5_53 (by unfold xV; omega) (fun _ _ => rfl) (by decide) rfl (by first | exact hG1 | (simp [fr, upd]; exact hG1)) ?_
  refine mJ_nlt (tgt := 21) hK dX5_addRule_8 (by decide) (by omega) (by omega) (fun c_8 => ?_) (fun c_8 => ?_)
  · refine mJ_throw (text := "the buffer is not a rule") hK hX tw_46 (by decide +kernel) dX5_addRule_21 dX5_addRule_24 dX5_addRule_25 dX5_addRule_27 dX5_addRule_30 (by decide) (Nat.le_of_ble_eq_true rfl) (by decide) (by decide) ?_
    exact ⟨rfl, hR⟩
  · refine mJ_aload_n hK dX5_addRule_11 rfl ?_
    refine xJ_getr hR hK dX5_addRule_12 fX5_16 (by unfold xV; omega) (fun _ _ => rfl) (by decide) (fun _ _ => rfl) ?_
    refine mJ_cVi hK dX5_addRule_15 lX5_66 (by unfold mFit; decide) (by decide) (k_X2_isComplete hR hI.1 (by omega)) rfl rfl (Nat.le_of_ble_eq_true rfl) (hR.1 _ _ _ (by unfold xV; omega)) ⟨_, _, rfl⟩ (fun h e9 => ?_)
    subst e9
    refine mJ_ifb_ne (tgt := 31) hK dX5_addRule_18 (by decide) (fun c_18 => ?_) (fun c_18 => ?_)
    · exact absurd ⟨by omega, c_18⟩ h1
    · refine mJ_throw (text := "the buffer is not a rule") hK hX tw_46 (by decide +kernel) dX5_addRule_21 dX5_addRule_24 dX5_addRule_25 dX5_addRule_27 dX5_addRule_30 (by decide) (Nat.le_of_ble_eq_true rfl) (by decide) (by decide) ?_
      exact ⟨rfl, hR⟩

set_option maxRecDepth 100000 in
set_option maxHeartbeats 4000000 in
theorem k_X5_addRule_x2 {l : Launch} {D : va_G} {aC : Nat → ClassId} {ad : xAd} {h0 h : mH} {F : xFm} {W : xWm} {pm : Nat → Nat} (hR : xR xV ad h0 F W pm h) {bl : Nat} (hbl : F 0 0 0 1 = nI bl) (hbl40 : bl ≤ 40) {cs : Nat → Nat} (hcs : ∀ i, i < bl → F 1 0 0 i = nI (cs i) ∧ cs i < 1000) {rn : Nat} (hrn : F 0 0 0 4 = nI rn) (hrn8 : rn ≤ 8) (hpm : ∀ i, i < 9 → pm i < 9) {rd : Nat × xFm} (hrd : rd = rdF (pm 8) cs bl 0 (xGo (xCl F (pm 8)) (nI 0))) (h1 : rd.1 = bl) (h2 : pC rd.2 = 5 ∨ pC rd.2 = 10) (hrn9 : rn = 8) : mXon l D aC mX5_addRule [.ref (ad 0 0 0)] h (fun _ _ => False) (fun E h' => E = "java/lang/IllegalStateException" ∧ xR xV ad h0 rd.2 W pm h') := by
  refine mXon.of [some (.ref (ad 0 0 0)), none] (by decide +kernel) rfl (Nat.le_of_ble_eq_true rfl) ?_
  intro K el eD eC hK hZ hX
  subst el eD eC
  obtain ⟨hI, hs9, -, hle⟩ := rdF_inv (F := F) (r := pm 8) (cs := cs) bl 0 _ rI_0 sRw_0
  rw [← hrd] at hI hs9 hle
  have hG1 : rd.2 0 0 0 1 = nI bl := by rw [hs9 0 0 0 (by omega) (by omega)]; exact hbl
  have hG4 : rd.2 0 0 0 4 = nI rn := by rw [hs9 0 0 0 (by omega) (by omega)]; exact hrn
  have hp10 := hI.2.1
  have hr : pm 8 < 9 := hpm 8 (by omega)
  refine mJ_aload_n hK dX5_addRule_0 rfl ?_
  refine mJ_cVi hK dX5_addRule_1 lX5_62 (by unfold mFit; decide) (by decide) (k_X5_readBufferR hR hbl hbl40 hcs hr hrd) rfl rfl (Nat.le_of_ble_eq_true rfl) (hR.1 _ _ _ (by unfold xV; omega)) ⟨_, _, rfl⟩ (fun h hR => ?_)
  refine mJ_aload_n hK dX5_addRule_4 rfl ?_
  refine xJ_getx (nI bl) hR hK dX5_addRule_5 fX5_53 (by unfold xV; omega) (fun _ _ => rfl) (by decide) rfl (by first | exact hG1 | (simp [fr, upd]; exact hG1)) ?_
  refine mJ_nlt (tgt := 21) hK dX5_addRule_8 (by decide) (by omega) (by omega) (fun c_8 => ?_) (fun c_8 => ?_)
  · exact absurd c_8 (by omega)
  · refine mJ_aload_n hK dX5_addRule_11 rfl ?_
    refine xJ_getr hR hK dX5_addRule_12 fX5_16 (by unfold xV; omega) (fun _ _ => rfl) (by decide) (fun _ _ => rfl) ?_
    refine mJ_cVi hK dX5_addRule_15 lX5_66 (by unfold mFit; decide) (by decide) (k_X2_isComplete hR hI.1 (by omega)) rfl rfl (Nat.le_of_ble_eq_true rfl) (hR.1 _ _ _ (by unfold xV; omega)) ⟨_, _, rfl⟩ (fun h e9 => ?_)
    subst e9
    refine mJ_ifb_ne (tgt := 31) hK dX5_addRule_18 (by decide) (fun c_18 => ?_) (fun c_18 => ?_)
    · refine mJ_aload_n hK dX5_addRule_31 rfl ?_
      refine xJ_getx (nI rn) hR hK dX5_addRule_32 fX5_72 (by unfold xV; omega) (fun _ _ => rfl) (by decide) rfl (by first | exact hG4 | (simp [fr, upd]; exact hG4)) ?_
      refine mJ_bipush (v := nI 8) hK dX5_addRule_35 (by decide) ?_
      refine mJ_nlt (tgt := 50) hK dX5_addRule_37 (by decide) (by omega) (by omega) (fun c_37 => ?_) (fun c_37 => ?_)
      · exact absurd c_37 (by omega)
      · refine mJ_throw (text := "there are 8 rules") hK hX tw_57 (by decide +kernel) dX5_addRule_40 dX5_addRule_43 dX5_addRule_44 dX5_addRule_46 dX5_addRule_49 (by decide) (Nat.le_of_ble_eq_true rfl) (by decide) (by decide) ?_
        exact ⟨rfl, hR⟩
    · exact absurd h2 c_18

def rvF (F : xFm) (i e rn : Nat) : xFm := fr (fr F 0 0 0 (upd (F 0 0 0) 4 (nI (rn - 1)))) 12 0 0 (sh (F 12 0 0) i e)
theorem rvF_s {F : xFm} {i e rn : Nat} (h : i ≤ e) : fr (rvF F i e rn) 12 0 0 (upd (rvF F i e rn 12 0 0) e (rvF F i e rn 12 0 0 (e + 1))) = rvF F i (e + 1) rn := by
  unfold rvF
  rw [fr_fr]
  congr 1
  rw [fr_s, sh_step h]
theorem rvF_0 {F : xFm} {i rn : Nat} : fr F 0 0 0 (upd (F 0 0 0) 4 (nI (rn - 1))) = rvF F i i rn := by
  unfold rvF
  rw [sh_0]
  funext a b c
  unfold fr
  split
  · split
    · omega
    · rename_i h1 h2
      obtain ⟨rfl, rfl, rfl⟩ := h1
      rfl
  · split
    · rename_i h1 h2
      obtain ⟨rfl, rfl, rfl⟩ := h2
      rfl
    · rfl
theorem shp_step {a : Nat → Nat} {b e : Nat} (h : b ≤ e) : va_up (sh a b e) e (sh a b e (e + 1)) = sh a b (e + 1) := by
  funext j
  unfold va_up sh
  by_cases h1 : j = e
  · subst h1
    rw [if_pos rfl, if_neg (by omega), if_pos (by omega)]
  · rw [if_neg h1]
    by_cases h2 : b ≤ j ∧ j < e
    · rw [if_pos h2, if_pos (by omega)]
    · rw [if_neg h2, if_neg (by omega)]
theorem sh_lt {pm : Nat → Nat} (hpm : ∀ i, i < 9 → pm i < 9) {b e j : Nat} (he : e < 8) (hj : j < 9) : sh pm b e j < 9 := by
  unfold sh
  split
  · exact hpm _ (by omega)
  · exact hpm j hj
def rvE (F : xFm) (i rn : Nat) : xFm := fr (fr (rvF F i (rn - 1) rn) 7 0 0 (if nI i ≤ F 7 0 0 4 then upd (F 7 0 0) 4 (F 7 0 0 4 - nI 1) else F 7 0 0)) 0 0 0 (upd (upd (F 0 0 0) 4 (nI (rn - 1))) 8 (nI 0))
set_option maxRecDepth 100000 in
set_option maxHeartbeats 4000000 in
theorem lp_X5_removeRule {K : mK} (hK : mCx K mX5_removeRule) {ad : xAd} {h0 : mH} {F : xFm} {W : xWm} {pm : Nat → Nat} {rn : Nat} (hrn8 : rn ≤ 8) (hpm : ∀ i, i < 9 → pm i < 9) {i : Nat} (hi : i < rn) (hZ : mRt K mX5_removeRule (mRi (nI (rn - 1)) (fun h' => xR xV ad h0 (rvE F i rn) W (va_up (sh pm i (rn - 1)) (rn - 1) (pm i)) h'))) : ∀ (fu : Nat) (e : Nat) (h : mH), rn - e < fu → (i ≤ e) → (e ≤ rn - 1) → (xR xV ad h0 (rvF F i e rn) W (sh pm i e) h) → mJ K 1 6 24 [some (.ref (ad 0 0 0)), some (.int (nI i)), some (.ref (ad 17 (pm i) 0)), some (.int (nI e))] [] h := by
  intro fu
  induction fu with
  | zero =>
    intro e h hm0
    exact absurd hm0 (by omega)
  | succ fu ih =>
    intro e h hm0 h1 h2 hR
    refine mJ_iload_n hK dX5_removeRule_24 rfl ?_
    refine mJ_aload_n hK dX5_removeRule_25 rfl ?_
    refine xJ_getx (nI (rn - 1)) hR hK dX5_removeRule_26 fX5_72 (by unfold xV; omega) (fun _ _ => rfl) (by decide) rfl (by simp [rvF, fr, upd]) ?_
    refine mJ_nge (tgt := 72) hK dX5_removeRule_29 (by decide) (by omega) (by omega) (fun c_29 => ?_) (fun c_29 => ?_)
    · refine mJ_aload_n hK dX5_removeRule_72 rfl ?_
      refine xJ_getr hR hK dX5_removeRule_73 fX5_22 (by unfold xV; omega) (fun _ _ => rfl) (by decide) (fun _ _ => rfl) ?_
      refine mJ_aload_n hK dX5_removeRule_76 rfl ?_
      refine xJ_getx (nI (rn - 1)) hR hK dX5_removeRule_77 fX5_72 (by unfold xV; omega) (fun _ _ => rfl) (by decide) rfl (by simp [rvF, fr, upd]) ?_
      refine mJ_aload_n hK dX5_removeRule_80 rfl ?_
      refine xJ_astR hR hK dX5_removeRule_81 (hpm i (by omega)) rfl (by omega) (fun h hR => ?_)
      refine mJ_aload_n hK dX5_removeRule_82 rfl ?_
      refine xJ_getr hR hK dX5_removeRule_83 fX5_29 (by unfold xV; omega) (fun _ _ => rfl) (by decide) (fun _ _ => rfl) ?_
      refine xJ_geti hR hK dX5_removeRule_86 fX5_92 (by unfold xV; omega) (fun _ _ => rfl) (by decide) rfl ?_
      refine mJ_iload_n hK dX5_removeRule_89 rfl ?_
      refine mJ_icmp_lt (tgt := 106) hK dX5_removeRule_90 (by decide) (fun c_90 => ?_) (fun c_90 => ?_)
      · refine mJ_aload_n hK dX5_removeRule_106 rfl ?_
        refine mJ_iconst (v := nI 0) hK dX5_removeRule_107 (by decide) ?_
        refine xJ_puti hR hK dX5_removeRule_108 fX5_84 sX5_8 (by decide) (by decide) (by unfold xV; omega) (fun _ _ => rfl) (by decide) rfl (fun h hR => ?_)
        refine mJ_aload_n hK dX5_removeRule_111 rfl ?_
        refine xJ_getx (nI (rn - 1)) hR hK dX5_removeRule_112 fX5_72 (by unfold xV; omega) (fun _ _ => rfl) (by decide) rfl (by simp [rvF, fr, upd]) ?_
        refine mJ_iret hK dX5_removeRule_115 rfl hZ (by decide) (by decide) ?_
        have : e = rn - 1 := by omega
        subst this
        refine ⟨rfl, xR_ext hR ?_⟩
        have z4 : rvF F i (rn - 1) rn 7 0 0 = F 7 0 0 := rfl
        simp only [z4, fr_s] at *
        unfold rvE
        first | rw [if_pos (Int32.not_lt.mp c_90)] | rw [if_neg (Int32.not_le.mpr c_90)]
        funext a b c
        by_cases e1 : a = 0 ∧ b = 0 ∧ c = 0
        · obtain ⟨rfl, rfl, rfl⟩ := e1
          simp only [fr_s]
          rfl
        · rw [fr_n e1, fr_n e1]
          all_goals
            by_cases e2 : a = 7 ∧ b = 0 ∧ c = 0
            · obtain ⟨rfl, rfl, rfl⟩ := e2
              simp [rvF, fr]
            · first | rfl | rw [fr_n e2]
      · refine mJ_aload_n hK dX5_removeRule_93 rfl ?_
        refine xJ_getr hR hK dX5_removeRule_94 fX5_29 (by unfold xV; omega) (fun _ _ => rfl) (by decide) (fun _ _ => rfl) ?_
        refine mJ_dup hK dX5_removeRule_97 rfl ?_
        refine xJ_geti hR hK dX5_removeRule_98 fX5_92 (by unfold xV; omega) (fun _ _ => rfl) (by decide) rfl ?_
        refine mJ_iconst (v := nI 1) hK dX5_removeRule_101 (by decide) ?_
        refine mJ_isub hK dX5_removeRule_102 ?_
        refine xJ_puti hR hK dX5_removeRule_103 fX5_92 sX3_4 rfl rfl (by unfold xV; omega) (fun _ _ => rfl) (by decide) rfl (fun h hR => ?_)
        refine mJ_aload_n hK dX5_removeRule_106 rfl ?_
        refine mJ_iconst (v := nI 0) hK dX5_removeRule_107 (by decide) ?_
        refine xJ_puti hR hK dX5_removeRule_108 fX5_84 sX5_8 (by decide) (by decide) (by unfold xV; omega) (fun _ _ => rfl) (by decide) rfl (fun h hR => ?_)
        refine mJ_aload_n hK dX5_removeRule_111 rfl ?_
        refine xJ_getx (nI (rn - 1)) hR hK dX5_removeRule_112 fX5_72 (by unfold xV; omega) (fun _ _ => rfl) (by decide) rfl (by simp [rvF, fr, upd]) ?_
        refine mJ_iret hK dX5_removeRule_115 rfl hZ (by decide) (by decide) ?_
        have : e = rn - 1 := by omega
        subst this
        refine ⟨rfl, xR_ext hR ?_⟩
        have z4 : rvF F i (rn - 1) rn 7 0 0 = F 7 0 0 := rfl
        simp only [z4, fr_s] at *
        unfold rvE
        first | rw [if_pos (Int32.not_lt.mp c_90)] | rw [if_neg (Int32.not_le.mpr c_90)]
        funext a b c
        by_cases e1 : a = 0 ∧ b = 0 ∧ c = 0
        · obtain ⟨rfl, rfl, rfl⟩ := e1
          simp only [fr_s]
          rfl
        · rw [fr_n e1, fr_n e1]
          all_goals
            by_cases e2 : a = 7 ∧ b = 0 ∧ c = 0
            · obtain ⟨rfl, rfl, rfl⟩ := e2
              simp [rvF, fr]
            · first | rfl | rw [fr_n e2]
    · refine mJ_aload_n hK dX5_removeRule_32 rfl ?_
      refine xJ_getr hR hK dX5_removeRule_33 fX5_22 (by unfold xV; omega) (fun _ _ => rfl) (by decide) (fun _ _ => rfl) ?_
      refine mJ_iload_n hK dX5_removeRule_36 rfl ?_
      refine mJ_aload_n hK dX5_removeRule_37 rfl ?_
      refine xJ_getr hR hK dX5_removeRule_38 fX5_22 (by unfold xV; omega) (fun _ _ => rfl) (by decide) (fun _ _ => rfl) ?_
      refine mJ_iload_n hK dX5_removeRule_41 rfl ?_
      refine mJ_iconst (v := nI 1) hK dX5_removeRule_42 (by decide) ?_
      refine mJ_iaddN hK dX5_removeRule_43 ?_
      refine xJ_aldR (e + 1) hR hK dX5_removeRule_44 (by unfold xV; omega) rfl (by omega) ?_
      refine xJ_astR hR hK dX5_removeRule_45 (sh_lt hpm (by omega) (by omega)) rfl (by omega) (fun h hR => ?_)
      refine mJ_aload_n hK dX5_removeRule_46 rfl ?_
      refine xJ_getr hR hK dX5_removeRule_47 fX5_29 (by unfold xV; omega) (fun _ _ => rfl) (by decide) (fun _ _ => rfl) ?_
      refine xJ_getr hR hK dX5_removeRule_50 fX5_81 (by unfold xV; omega) (fun _ _ => rfl) (by decide) (fun _ _ => rfl) ?_
      refine mJ_iload_n hK dX5_removeRule_53 rfl ?_
      refine mJ_aload_n hK dX5_removeRule_54 rfl ?_
      refine xJ_getr hR hK dX5_removeRule_55 fX5_29 (by unfold xV; omega) (fun _ _ => rfl) (by decide) (fun _ _ => rfl) ?_
      refine xJ_getr hR hK dX5_removeRule_58 fX5_81 (by unfold xV; omega) (fun _ _ => rfl) (by decide) (fun _ _ => rfl) ?_
      refine mJ_iload_n hK dX5_removeRule_61 rfl ?_
      refine mJ_iconst (v := nI 1) hK dX5_removeRule_62 (by decide) ?_
      refine mJ_iaddN hK dX5_removeRule_63 ?_
      refine xJ_iald (e + 1) hR hK dX5_removeRule_64 (by unfold xV; omega) (fun _ _ => rfl) rfl (by omega) (by decide) ?_
      refine xJ_iast e hR hK dX5_removeRule_65 (by unfold xV; omega) (fun _ _ => rfl) rfl (by omega) (by decide) (fun h hR => ?_)
      refine mJ_iincN hK dX5_removeRule_66 rfl rfl (by decide) rfl ?_
      refine mJ_goto (tgt := 24) hK dX5_removeRule_69 (by decide) ?_
      rw [shp_step h1] at hR
      exact ih (e + 1) _ (by omega) (by omega) (by omega) (xR_ext hR (rvF_s h1))

set_option maxRecDepth 100000 in
set_option maxHeartbeats 4000000 in
theorem k_X5_removeRule {l : Launch} {D : va_G} {aC : Nat → ClassId} {ad : xAd} {h0 h : mH} {F : xFm} {W : xWm} {pm : Nat → Nat} (hR : xR xV ad h0 F W pm h) {rn : Nat} (hrn : F 0 0 0 4 = nI rn) (hrn8 : rn ≤ 8) (hpm : ∀ i, i < 9 → pm i < 9) {i : Nat} (hi : i < rn) : mCon l D aC mX5_removeRule [.ref (ad 0 0 0), .int (nI i)] h (mRi (nI (rn - 1)) (fun h' => xR xV ad h0 (rvE F i rn) W (va_up (sh pm i (rn - 1)) (rn - 1) (pm i)) h')) := by
  refine mCon.of [some (.ref (ad 0 0 0)), some (.int (nI i)), none, none] (by decide +kernel) rfl (Nat.le_of_ble_eq_true rfl) ?_
  intro K el eD eC hK hZ
  subst el eD eC
  refine mJ_aload_n hK dX5_removeRule_0 rfl ?_
  refine mJ_iload_n hK dX5_removeRule_1 rfl ?_
  refine mJ_cVv hK dX5_removeRule_2 lX5_88 (by unfold mFit; decide) (by decide) (k_X5_requireRule hR hrn hrn8 hi) rfl rfl (Nat.le_of_ble_eq_true rfl) (hR.1 _ _ _ (by unfold xV; omega)) ⟨_, _, rfl⟩ (fun h e9 => ?_)
  subst e9
  refine mJ_aload_n hK dX5_removeRule_5 rfl ?_
  refine xJ_getr hR hK dX5_removeRule_6 fX5_22 (by unfold xV; omega) (fun _ _ => rfl) (by decide) (fun _ _ => rfl) ?_
  refine mJ_iload_n hK dX5_removeRule_9 rfl ?_
  refine xJ_aldR i hR hK dX5_removeRule_10 (by unfold xV; omega) rfl (by omega) ?_
  refine mJ_astore_n hK dX5_removeRule_11 (by decide) rfl ?_
  refine mJ_aload_n hK dX5_removeRule_12 rfl ?_
  refine mJ_dup hK dX5_removeRule_13 rfl ?_
  refine xJ_getx (nI rn) hR hK dX5_removeRule_14 fX5_72 (by unfold xV; omega) (fun _ _ => rfl) (by decide) rfl (by first | exact hrn | (simp [fr, upd]; exact hrn)) ?_
  refine mJ_iconst (v := nI 1) hK dX5_removeRule_17 (by decide) ?_
  refine mJ_isubN hK dX5_removeRule_18 (by omega) ?_
  refine xJ_puti hR hK dX5_removeRule_19 fX5_72 sX5_4 rfl rfl (by unfold xV; omega) (fun _ _ => rfl) (by decide) rfl (fun h hR => ?_)
  refine mJ_iload_n hK dX5_removeRule_22 rfl ?_
  refine mJ_istore_n hK dX5_removeRule_23 (by decide) rfl ?_
  have e0 : pm = sh pm i i := sh_0.symm
  rw [e0] at hR
  exact lp_X5_removeRule hK hrn8 hpm hi hZ (rn + 1) i _ (by omega) (by omega) (by omega) (xR_ext hR rvF_0)

set_option maxRecDepth 100000 in
set_option maxHeartbeats 4000000 in
theorem k_X5_removeRule_x {l : Launch} {D : va_G} {aC : Nat → ClassId} {ad : xAd} {h0 h : mH} {F : xFm} {W : xWm} {pm : Nat → Nat} (hR : xR xV ad h0 F W pm h) {rn : Nat} (hrn : F 0 0 0 4 = nI rn) (hrn8 : rn ≤ 8) {x : Int32} (hx : ¬ (0 ≤ x ∧ x < nI rn)) : mXon l D aC mX5_removeRule [.ref (ad 0 0 0), .int x] h (fun _ _ => False) (fun E h' => E = "java/lang/IndexOutOfBoundsException" ∧ h' = h) := by
  refine mXon.of [some (.ref (ad 0 0 0)), some (.int x), none, none] (by decide +kernel) rfl (Nat.le_of_ble_eq_true rfl) ?_
  intro K el eD eC hK hZ hX
  subst el eD eC
  refine mJ_aload_n hK dX5_removeRule_0 rfl ?_
  refine mJ_iload_n hK dX5_removeRule_1 rfl ?_
  exact mJ_xV hK hX dX5_removeRule_2 lX5_88 (by unfold mFit; decide) (by decide) (k_X5_requireRule_x hR hrn hrn8 hx) (fun _ _ z => z) rfl rfl (Nat.le_of_ble_eq_true rfl) (hR.1 _ _ _ (by unfold xV; omega)) ⟨_, _, rfl⟩
