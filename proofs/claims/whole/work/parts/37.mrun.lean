theorem mF0_ch {F : xFm} {c1 ch : Nat → Int32} : mF0 (fr F 66 0 0 c1) ch = mF0 F ch := by
  unfold mF0
  rw [fr_fr]
  rfl
theorem fr_66 {F : xFm} {c1 : Nat → Int32} {x : Int32} : fr (fr F 66 0 0 c1) 30 0 0 (upd (F 30 0 0) 0 x) = fr (tS F x) 66 0 0 c1 := by
  funext k i j
  by_cases z1 : k = 66 ∧ i = 0 ∧ j = 0
  · obtain ⟨rfl, rfl, rfl⟩ := z1
    rfl
  · by_cases z2 : k = 30 ∧ i = 0 ∧ j = 0
    · obtain ⟨rfl, rfl, rfl⟩ := z2
      rfl
    · unfold tS
      rw [fr_n z2, fr_n z1, fr_n z1, fr_n z2]
set_option maxRecDepth 100000 in
set_option maxHeartbeats 4000000 in
theorem k_X6_fire_n {l : Launch} {D : va_G} {aC : Nat → ClassId} {ad : xAd} {h0 h : mH} {F : xFm} {W : xWm} {pm : Nat → Nat} (hR : xR yV ad h0 F W pm h) {rn : Nat} (hrn : F 30 0 0 3 = nI rn) (hrn8 : rn ≤ 8) {q : Nat → Nat} (hq : ∀ c, c < 8 → F 44 0 0 c = nI (q c) ∧ q c ≤ 8) {ga gb om : Nat → Nat} {mt : Nat → Option (Nat → Nat)} (hM : rM F q rn ga gb om mt) {po : Nat} (hpo : F 30 0 0 13 = nI po) (hpo2 : po ≤ 2) {st : Nat} (hst : F 30 0 0 12 + nI 1 = nI st) (hst8 : st ≤ 8) {s0 : Nat} (hs0 : s0 = if po = 1 then st else 0) (hnx : nxL (enM F q om mt) (F 41 0 0) po rn s0 rn 0 none = none) : mCon l D aC mX6_fire [.ref (ad 30 0 0)] h (mRi (-1) (fun h' => ∃ ch : Nat → Int32, xR yV ad h0 (fr (tS F (nI 0)) 66 0 0 ch) W pm h')) := by
  refine mCon.of [some (.ref (ad 30 0 0)), none] (by decide +kernel) rfl (Nat.le_of_ble_eq_true rfl) ?_
  intro K el eD eC hK hZ
  subst el eD eC
  refine mJ_aload_n hK dX6_fire_0 rfl ?_
  refine mJ_iconst (v := nI 0) hK dX6_fire_1 (by decide) ?_
  refine xJ_puti hR hK dX6_fire_2 fX6_117 sX6_0 rfl rfl (by unfold yV; omega) (fun _ _ => rfl) (by decide) rfl (fun h hR => ?_)
  refine mJ_aload_n hK dX6_fire_5 rfl ?_
  refine mJ_cVi hK dX6_fire_6 lX6_245 (by unfold mFit; decide) (by decide) (k_X6_nextNow hR (rn := rn) hrn hrn8 (q := q) hq (om := om) (mt := mt) (ga := ga) (gb := gb) hM (po := po) hpo hpo2 (st := st) hst hst8 hs0) rfl rfl (Nat.le_of_ble_eq_true rfl) (hR.1 _ _ _ (by unfold yV; omega)) ⟨_, _, rfl⟩ (fun h hE => ?_)
  obtain ⟨c1, hR⟩ := hE
  have hR : xR yV ad h0 (fr (tS F (nI 0)) 66 0 0 c1) W pm h := hR
  have hnx9 : nxL (enM (fr F 30 0 0 (upd (F 30 0 0) 0 (nI 0))) q om mt) (fr F 30 0 0 (upd (F 30 0 0) 0 (nI 0)) 41 0 0) po rn s0 rn 0 none = _ := hnx
  rw [hnx9]
  refine mJ_istore_n hK dX6_fire_9 (by decide) rfl ?_
  refine mJ_iload_n hK dX6_fire_10 rfl ?_
  refine mJ_iconst (v := -1) hK dX6_fire_11 (by decide) ?_
  refine mJ_icmp_eq (tgt := 20) hK dX6_fire_12 (by decide) (fun c_12 => ?_) (fun c_12 => ?_)
  · refine mJ_iload_n hK dX6_fire_20 rfl ?_
    refine mJ_iret hK dX6_fire_21 rfl hZ (by decide) (by decide) ?_
    exact ⟨rfl, c1, hR⟩
  · exact absurd rfl c_12

set_option maxRecDepth 100000 in
set_option maxHeartbeats 4000000 in
theorem k_X6_fire_s {l : Launch} {D : va_G} {aC : Nat → ClassId} {ad : xAd} {h0 h : mH} {F : xFm} {W : xWm} {pm : Nat → Nat} (hR : xR yV ad h0 F W pm h) {rn : Nat} (hrn : F 30 0 0 3 = nI rn) (hrn8 : rn ≤ 8) {q : Nat → Nat} (hq : ∀ c, c < 8 → F 44 0 0 c = nI (q c) ∧ q c ≤ 8) {ga gb om : Nat → Nat} {mt : Nat → Option (Nat → Nat)} (hM : rM F q rn ga gb om mt) {po : Nat} (hpo : F 30 0 0 13 = nI po) (hpo2 : po ≤ 2) {st : Nat} (hst : F 30 0 0 12 + nI 1 = nI st) (hst8 : st ≤ 8) {s0 : Nat} (hs0 : s0 = if po = 1 then st else 0) {k : Nat} (hk : k < rn) {cn : Nat → Nat} (hmt : mt k = some cn) {g : Nat} (hg : F 30 0 0 19 = nI g) (hgb : g < 1000000) (hO : ∀ (ch : Nat → Int32), (∀ c, c < 8 → ch c = nI (cn c)) → ∀ o, o < om k → moOk (moN k g o (mcN cn q g k (mF0 (tS F (nI 0)) ch, W) 8).1) k g o) (hnx : nxL (enM F q om mt) (F 41 0 0) po rn s0 rn 0 none = some k) : mCon l D aC mX6_fire [.ref (ad 30 0 0)] h (mRi (nI k) (fun h' => ∃ ch : Nat → Int32, (∀ c, c < 8 → ch c = nI (cn c)) ∧ xR yV ad h0 (mEnd (moN k g (om k) (mcN cn q g k (mF0 (tS F (nI 0)) ch, W) 8).1) k) (mcN cn q g k (mF0 (tS F (nI 0)) ch, W) 8).2 pm h')) := by
  refine mCon.of [some (.ref (ad 30 0 0)), none] (by decide +kernel) rfl (Nat.le_of_ble_eq_true rfl) ?_
  intro K el eD eC hK hZ
  subst el eD eC
  refine mJ_aload_n hK dX6_fire_0 rfl ?_
  refine mJ_iconst (v := nI 0) hK dX6_fire_1 (by decide) ?_
  refine xJ_puti hR hK dX6_fire_2 fX6_117 sX6_0 rfl rfl (by unfold yV; omega) (fun _ _ => rfl) (by decide) rfl (fun h hR => ?_)
  refine mJ_aload_n hK dX6_fire_5 rfl ?_
  refine mJ_cVi hK dX6_fire_6 lX6_245 (by unfold mFit; decide) (by decide) (k_X6_nextNow hR (rn := rn) hrn hrn8 (q := q) hq (om := om) (mt := mt) (ga := ga) (gb := gb) hM (po := po) hpo hpo2 (st := st) hst hst8 hs0) rfl rfl (Nat.le_of_ble_eq_true rfl) (hR.1 _ _ _ (by unfold yV; omega)) ⟨_, _, rfl⟩ (fun h hE => ?_)
  obtain ⟨c1, hR⟩ := hE
  have hR : xR yV ad h0 (fr (tS F (nI 0)) 66 0 0 c1) W pm h := hR
  have hnx9 : nxL (enM (fr F 30 0 0 (upd (F 30 0 0) 0 (nI 0))) q om mt) (fr F 30 0 0 (upd (F 30 0 0) 0 (nI 0)) 41 0 0) po rn s0 rn 0 none = _ := hnx
  rw [hnx9]
  refine mJ_istore_n hK dX6_fire_9 (by decide) rfl ?_
  refine mJ_iload_n hK dX6_fire_10 rfl ?_
  refine mJ_iconst (v := -1) hK dX6_fire_11 (by decide) ?_
  refine mJ_icmp_eq (tgt := 20) hK dX6_fire_12 (by decide) (fun c_12 => ?_) (fun c_12 => ?_)
  · exact absurd c_12 (nI_m1 (by omega))
  · refine mJ_aload_n hK dX6_fire_15 rfl ?_
    refine mJ_iload_n hK dX6_fire_16 rfl ?_
    refine mJ_cVv hK dX6_fire_17 lX6_266 (by unfold mFit; decide) (by decide) (k_X6_fireNow hR (rn := rn) hrn hrn8 hk (q := q) hq (om := om) (mt := mt) (ga := ga) (gb := gb) hM hg hgb hmt (fun ch hc => by rw [mF0_ch]; exact hO ch hc)) rfl rfl (Nat.le_of_ble_eq_true rfl) (hR.1 _ _ _ (by unfold yV; omega)) ⟨_, _, rfl⟩ (fun h hE => ?_)
    obtain ⟨ch, hc9, hR⟩ := hE
    rw [mF0_ch] at hR
    refine mJ_iload_n hK dX6_fire_20 rfl ?_
    refine mJ_iret hK dX6_fire_21 rfl hZ (by decide) (by decide) ?_
    exact ⟨rfl, ch, hc9, hR⟩

set_option maxRecDepth 100000 in
set_option maxHeartbeats 4000000 in
theorem k_X6_fireRule {l : Launch} {D : va_G} {aC : Nat → ClassId} {ad : xAd} {h0 h : mH} {F : xFm} {W : xWm} {pm : Nat → Nat} (hR : xR yV ad h0 F W pm h) {rn : Nat} (hrn : F 30 0 0 3 = nI rn) (hrn8 : rn ≤ 8) {q : Nat → Nat} (hq : ∀ c, c < 8 → F 44 0 0 c = nI (q c) ∧ q c ≤ 8) {ga gb om : Nat → Nat} {mt : Nat → Option (Nat → Nat)} (hM : rM F q rn ga gb om mt) {k : Nat} (hk : k < rn) {cn : Nat → Nat} (hmt : mt k = some cn) {g : Nat} (hg : F 30 0 0 19 = nI g) (hgb : g < 1000000) (hO : ∀ (ch : Nat → Int32), (∀ c, c < 8 → ch c = nI (cn c)) → ∀ o, o < om k → moOk (moN k g o (mcN cn q g k (mF0 (tS F (nI 0)) ch, W) 8).1) k g o) (hen : enM F q om mt k = true) : mCon l D aC mX6_fireRule [.ref (ad 30 0 0), .int (nI k)] h (fun r h' => ∃ ch : Nat → Int32, r = some (.int ((mEnd (moN k g (om k) (mcN cn q g k (mF0 (tS F (nI 0)) ch, W) 8).1) k) 41 0 0 k)) ∧ (∀ c, c < 8 → ch c = nI (cn c)) ∧ xR yV ad h0 (mEnd (moN k g (om k) (mcN cn q g k (mF0 (tS F (nI 0)) ch, W) 8).1) k) (mcN cn q g k (mF0 (tS F (nI 0)) ch, W) 8).2 pm h') := by
  refine mCon.of [some (.ref (ad 30 0 0)), some (.int (nI k))] (by decide +kernel) rfl (Nat.le_of_ble_eq_true rfl) ?_
  intro K el eD eC hK hZ
  subst el eD eC
  refine mJ_aload_n hK dX6_fireRule_0 rfl ?_
  refine mJ_aload_n hK dX6_fireRule_1 rfl ?_
  refine mJ_iload_n hK dX6_fireRule_2 rfl ?_
  refine mJ_cVi hK dX6_fireRule_3 lX6_194 (by unfold mFit; decide) (by decide) (k_X6_isRule hR hrn hrn8 _) rfl rfl (Nat.le_of_ble_eq_true rfl) (hR.1 _ _ _ (by unfold yV; omega)) ⟨_, _, rfl⟩ (fun h e9 => ?_)
  subst e9
  refine mJ_ifb_ne (tgt := 13) hK dX6_fireRule_6 (by decide) (fun c_6 => ?_) (fun c_6 => ?_)
  · refine mJ_aload_n hK dX6_fireRule_13 rfl ?_
    refine mJ_iload_n hK dX6_fireRule_14 rfl ?_
    refine mJ_cVi hK dX6_fireRule_15 lX6_239 (by unfold mFit; decide) (by decide) (k_X6_isEnabled hR hrn hrn8 hk hq hM) rfl rfl (Nat.le_of_ble_eq_true rfl) (hR.1 _ _ _ (by unfold yV; omega)) ⟨_, _, rfl⟩ (fun h hE => ?_)
    obtain ⟨c1, hR⟩ := hE
    refine mJ_ifb_eq (tgt := 25) hK dX6_fireRule_18 (by decide) (fun c_18 => ?_) (fun c_18 => ?_)
    · exact absurd hen c_18
    · refine mJ_iconst (v := nI 0) hK dX6_fireRule_21 (by decide) ?_
      refine mJ_goto (tgt := 26) hK dX6_fireRule_22 (by decide) ?_
      refine xJ_puti hR hK dX6_fireRule_26 fX6_117 sX6_0 rfl rfl (by unfold yV; omega) (fun _ _ => rfl) (by decide) rfl (fun h hR => ?_)
      have hR : xR yV ad h0 (fr (tS F (nI 0)) 66 0 0 c1) W pm h := xR_ext hR fr_66
      refine mJ_aload_n hK dX6_fireRule_29 rfl ?_
      refine xJ_getx (nI 0) hR hK dX6_fireRule_30 fX6_117 (by unfold yV; omega) (fun _ _ => rfl) (by decide) rfl (by simp [fr, upd, tS]) ?_
      refine mJ_nif_le (tgt := 38) hK dX6_fireRule_33 (by decide) (by omega) (fun c_33 => ?_) (fun c_33 => ?_)
      · refine mJ_aload_n hK dX6_fireRule_38 rfl ?_
        refine mJ_iload_n hK dX6_fireRule_39 rfl ?_
        refine mJ_cVv hK dX6_fireRule_40 lX6_266 (by unfold mFit; decide) (by decide) (k_X6_fireNow hR (rn := rn) hrn hrn8 hk (q := q) hq (om := om) (mt := mt) (ga := ga) (gb := gb) hM hg hgb hmt (fun ch hc => by rw [mF0_ch]; exact hO ch hc)) rfl rfl (Nat.le_of_ble_eq_true rfl) (hR.1 _ _ _ (by unfold yV; omega)) ⟨_, _, rfl⟩ (fun h hE => ?_)
        obtain ⟨ch, hc9, hR⟩ := hE
        rw [mF0_ch] at hR
        refine mJ_aload_n hK dX6_fireRule_43 rfl ?_
        refine xJ_getr hR hK dX6_fireRule_44 fX6_34 (by unfold yV; omega) (fun _ _ => rfl) (by decide) (fun _ _ => rfl) ?_
        refine mJ_iload_n hK dX6_fireRule_47 rfl ?_
        refine xJ_iald k hR hK dX6_fireRule_48 (by unfold yV; omega) (fun _ _ => rfl) rfl (by omega) (by decide) ?_
        refine mJ_iret hK dX6_fireRule_49 rfl hZ (by decide) (by decide) ?_
        exact ⟨ch, rfl, hc9, hR⟩
      · exact absurd c_33 (by omega)
  · exact (c_6 ⟨nI_pos' (by omega), nI_lt hk (by omega)⟩).elim

set_option maxRecDepth 100000 in
set_option maxHeartbeats 4000000 in
theorem k_X6_fireRule_x1 {l : Launch} {D : va_G} {aC : Nat → ClassId} {ad : xAd} {h0 h : mH} {F : xFm} {W : xWm} {pm : Nat → Nat} (hR : xR yV ad h0 F W pm h) {rn : Nat} (hrn : F 30 0 0 3 = nI rn) (hrn8 : rn ≤ 8) {x : Int32} (hx : ¬ (0 ≤ x ∧ x < nI rn)) : mCon l D aC mX6_fireRule [.ref (ad 30 0 0), .int x] h (mRi (nI 0) (fun h' => xR yV ad h0 (tS F (nI 1)) W pm h')) := by
  refine mCon.of [some (.ref (ad 30 0 0)), some (.int x)] (by decide +kernel) rfl (Nat.le_of_ble_eq_true rfl) ?_
  intro K el eD eC hK hZ
  subst el eD eC
  refine mJ_aload_n hK dX6_fireRule_0 rfl ?_
  refine mJ_aload_n hK dX6_fireRule_1 rfl ?_
  refine mJ_iload_n hK dX6_fireRule_2 rfl ?_
  refine mJ_cVi hK dX6_fireRule_3 lX6_194 (by unfold mFit; decide) (by decide) (k_X6_isRule hR hrn hrn8 _) rfl rfl (Nat.le_of_ble_eq_true rfl) (hR.1 _ _ _ (by unfold yV; omega)) ⟨_, _, rfl⟩ (fun h e9 => ?_)
  subst e9
  refine mJ_ifb_ne (tgt := 13) hK dX6_fireRule_6 (by decide) (fun c_6 => ?_) (fun c_6 => ?_)
  · exact absurd c_6 hx
  · refine mJ_iconst (v := nI 1) hK dX6_fireRule_9 (by decide) ?_
    refine mJ_goto (tgt := 26) hK dX6_fireRule_10 (by decide) ?_
    refine xJ_puti hR hK dX6_fireRule_26 fX6_117 sX6_0 rfl rfl (by unfold yV; omega) (fun _ _ => rfl) (by decide) rfl (fun h hR => ?_)
    refine mJ_aload_n hK dX6_fireRule_29 rfl ?_
    refine xJ_getx (nI 1) hR hK dX6_fireRule_30 fX6_117 (by unfold yV; omega) (fun _ _ => rfl) (by decide) rfl (by simp [fr, upd]) ?_
    refine mJ_nif_le (tgt := 38) hK dX6_fireRule_33 (by decide) (by omega) (fun c_33 => ?_) (fun c_33 => ?_)
    · exact absurd c_33 (by omega)
    · refine mJ_iconst (v := nI 0) hK dX6_fireRule_36 (by decide) ?_
      refine mJ_iret hK dX6_fireRule_37 rfl hZ (by decide) (by decide) ?_
      exact ⟨rfl, hR⟩

set_option maxRecDepth 100000 in
set_option maxHeartbeats 4000000 in
theorem k_X6_fireRule_x2 {l : Launch} {D : va_G} {aC : Nat → ClassId} {ad : xAd} {h0 h : mH} {F : xFm} {W : xWm} {pm : Nat → Nat} (hR : xR yV ad h0 F W pm h) {rn : Nat} (hrn : F 30 0 0 3 = nI rn) (hrn8 : rn ≤ 8) {q : Nat → Nat} (hq : ∀ c, c < 8 → F 44 0 0 c = nI (q c) ∧ q c ≤ 8) {ga gb om : Nat → Nat} {mt : Nat → Option (Nat → Nat)} (hM : rM F q rn ga gb om mt) {k : Nat} (hk : k < rn) (hen : ¬ enM F q om mt k = true) : mCon l D aC mX6_fireRule [.ref (ad 30 0 0), .int (nI k)] h (mRi (nI 0) (fun h' => ∃ ch : Nat → Int32, xR yV ad h0 (fr (tS F (nI 2)) 66 0 0 ch) W pm h')) := by
  refine mCon.of [some (.ref (ad 30 0 0)), some (.int (nI k))] (by decide +kernel) rfl (Nat.le_of_ble_eq_true rfl) ?_
  intro K el eD eC hK hZ
  subst el eD eC
  refine mJ_aload_n hK dX6_fireRule_0 rfl ?_
  refine mJ_aload_n hK dX6_fireRule_1 rfl ?_
  refine mJ_iload_n hK dX6_fireRule_2 rfl ?_
  refine mJ_cVi hK dX6_fireRule_3 lX6_194 (by unfold mFit; decide) (by decide) (k_X6_isRule hR hrn hrn8 _) rfl rfl (Nat.le_of_ble_eq_true rfl) (hR.1 _ _ _ (by unfold yV; omega)) ⟨_, _, rfl⟩ (fun h e9 => ?_)
  subst e9
  refine mJ_ifb_ne (tgt := 13) hK dX6_fireRule_6 (by decide) (fun c_6 => ?_) (fun c_6 => ?_)
  · refine mJ_aload_n hK dX6_fireRule_13 rfl ?_
    refine mJ_iload_n hK dX6_fireRule_14 rfl ?_
    refine mJ_cVi hK dX6_fireRule_15 lX6_239 (by unfold mFit; decide) (by decide) (k_X6_isEnabled hR hrn hrn8 hk hq hM) rfl rfl (Nat.le_of_ble_eq_true rfl) (hR.1 _ _ _ (by unfold yV; omega)) ⟨_, _, rfl⟩ (fun h hE => ?_)
    obtain ⟨c1, hR⟩ := hE
    refine mJ_ifb_eq (tgt := 25) hK dX6_fireRule_18 (by decide) (fun c_18 => ?_) (fun c_18 => ?_)
    · refine mJ_iconst (v := nI 2) hK dX6_fireRule_25 (by decide) ?_
      refine xJ_puti hR hK dX6_fireRule_26 fX6_117 sX6_0 rfl rfl (by unfold yV; omega) (fun _ _ => rfl) (by decide) rfl (fun h hR => ?_)
      have hR : xR yV ad h0 (fr (tS F (nI 2)) 66 0 0 c1) W pm h := xR_ext hR fr_66
      refine mJ_aload_n hK dX6_fireRule_29 rfl ?_
      refine xJ_getx (nI 2) hR hK dX6_fireRule_30 fX6_117 (by unfold yV; omega) (fun _ _ => rfl) (by decide) rfl (by simp [fr, upd, tS]) ?_
      refine mJ_nif_le (tgt := 38) hK dX6_fireRule_33 (by decide) (by omega) (fun c_33 => ?_) (fun c_33 => ?_)
      · exact absurd c_33 (by omega)
      · refine mJ_iconst (v := nI 0) hK dX6_fireRule_36 (by decide) ?_
        refine mJ_iret hK dX6_fireRule_37 rfl hZ (by decide) (by decide) ?_
        exact ⟨rfl, c1, hR⟩
    · exact absurd c_18 hen
  · exact (c_6 ⟨nI_pos' (by omega), nI_lt hk (by omega)⟩).elim

set_option maxRecDepth 100000 in
set_option maxHeartbeats 4000000 in
theorem lp_X6_run {K : mK} (hK : mCx K mX6_run) {a : Nat} {lim n : Nat} (hlim : lim ≤ 100) {nx : Nat → Option Nat} {I J : Nat → mH → Prop} {P : mH → Prop} (hth : ∀ h e, I e h ∨ J e h → ∃ fs : List Value, h a = some (.inr (6, fs))) (hf : ∀ e h, e < lim → I e h → mCon (kl K) (kD K) (kC K) mX6_nextNow [.ref a] h (mRi (opI (nx e)) (J e))) (hk9 : ∀ e k, nx e = some k → k < 2 ^ 31) (hS : ∀ e h k, nx e = some k → J e h → mCon (kl K) (kD K) (kC K) mX6_fireNow [.ref a, .int (nI k)] h (mRv (I (e + 1)))) (hN : ∀ e h, nx e = none → J e h → P h) (hL : ∀ h, I lim h → P h) (hZ : mRt K mX6_run (mRi (nI n) P)) : ∀ (fu : Nat) (e : Nat) (h : mH), lim - e < fu → (e < lim) → (n = rnC nx (lim - e) e) → (J e h) → mJ K 0 0 37 [some (.ref a), some (.int (nI lim)), some (.int (nI e)), some (.int (opI (nx e)))] [] h := by
  intro fu
  induction fu with
  | zero =>
    intro e h hm0
    exact absurd hm0 (by omega)
  | succ fu ih =>
    intro e h hm0 he hn hJ
    rcases hx : nx e with _ | k9
    · refine mJ_iload_n hK dX6_run_37 rfl ?_
      refine mJ_iconst (v := -1) hK dX6_run_38 (by decide) ?_
      refine mJ_icmp_eq (tgt := 67) hK dX6_run_39 (by decide) (fun c_39 => ?_) (fun c_39 => ?_)
      · refine mJ_iload_n hK dX6_run_67 rfl ?_
        refine mJ_iret hK dX6_run_68 rfl hZ (by decide) (by decide) ?_
        exact ⟨by rw [hn, rnC_n (by omega) (by rw [hx]; decide)], hN e h hx hJ⟩
      · exact absurd rfl c_39
    · refine mJ_iload_n hK dX6_run_37 rfl ?_
      refine mJ_iconst (v := -1) hK dX6_run_38 (by decide) ?_
      refine mJ_icmp_eq (tgt := 67) hK dX6_run_39 (by decide) (fun c_39 => ?_) (fun c_39 => ?_)
      · exact absurd c_39 (nI_m1 (hk9 e k9 hx))
      · obtain ⟨fs, hfs⟩ := hth h e (Or.inr hJ)
        refine mJ_aload_n hK dX6_run_42 rfl ?_
        refine mJ_iload_n hK dX6_run_43 rfl ?_
        refine mJ_cVv hK dX6_run_44 lX6_266 (by unfold mFit; decide) (by decide) (hS e h k9 hx hJ) rfl rfl (Nat.le_of_ble_eq_true rfl) hfs ⟨_, _, rfl⟩ (fun h hI => ?_)
        refine mJ_iincN hK dX6_run_47 rfl rfl (by decide) rfl ?_
        refine mJ_iload_n hK dX6_run_50 rfl ?_
        refine mJ_iload_n hK dX6_run_51 rfl ?_
        refine mJ_nge (tgt := 62) hK dX6_run_52 (by decide) (by omega) (by omega) (fun c_52 => ?_) (fun c_52 => ?_)
        · refine mJ_iconst (v := -1) hK dX6_run_62 (by decide) ?_
          refine mJ_istore_n hK dX6_run_63 (by decide) rfl ?_
          refine mJ_goto (tgt := 37) hK dX6_run_64 (by decide) ?_
          refine mJ_iload_n hK dX6_run_37 rfl ?_
          refine mJ_iconst (v := -1) hK dX6_run_38 (by decide) ?_
          refine mJ_icmp_eq (tgt := 67) hK dX6_run_39 (by decide) (fun c_39 => ?_) (fun c_39 => ?_)
          · refine mJ_iload_n hK dX6_run_67 rfl ?_
            refine mJ_iret hK dX6_run_68 rfl hZ (by decide) (by decide) ?_
            have : lim = e + 1 := by omega
            subst this
            exact ⟨by rw [hn, rnC_s (by omega) (by rw [hx]; rfl), Nat.sub_self]; rfl, hL h hI⟩
          · exact absurd rfl c_39
        · obtain ⟨fs, hfs⟩ := hth h (e + 1) (Or.inl hI)
          refine mJ_aload_n hK dX6_run_55 rfl ?_
          refine mJ_cVi hK dX6_run_56 lX6_245 (by unfold mFit; decide) (by decide) (hf (e + 1) h (by omega) hI) rfl rfl (Nat.le_of_ble_eq_true rfl) hfs ⟨_, _, rfl⟩ (fun h hJ => ?_)
          refine mJ_goto (tgt := 63) hK dX6_run_59 (by decide) ?_
          refine mJ_istore_n hK dX6_run_63 (by decide) rfl ?_
          refine mJ_goto (tgt := 37) hK dX6_run_64 (by decide) ?_
          exact ih (e + 1) h (by omega) (by omega) (by rw [hn, rnC_s (by omega) (by rw [hx]; rfl)]) hJ

set_option maxRecDepth 100000 in
set_option maxHeartbeats 4000000 in
theorem k_X6_run {l : Launch} {D : va_G} {aC : Nat → ClassId} {ad : xAd} {h0 h : mH} {F : xFm} {W : xWm} {pm : Nat → Nat} (hR : xR yV ad h0 F W pm h) {lim n : Nat} (hlim : lim ≤ 100) {nx : Nat → Option Nat} {I J : Nat → mH → Prop} {P : mH → Prop} (hth : ∀ h e, I e h ∨ J e h → ∃ fs : List Value, h (ad 30 0 0) = some (.inr (6, fs))) (hf : ∀ e h, e < lim → I e h → mCon l D aC mX6_nextNow [.ref (ad 30 0 0)] h (mRi (opI (nx e)) (J e))) (hk9 : ∀ e k, nx e = some k → k < 2 ^ 31) (hS : ∀ e h k, nx e = some k → J e h → mCon l D aC mX6_fireNow [.ref (ad 30 0 0), .int (nI k)] h (mRv (I (e + 1)))) (hN : ∀ e h, nx e = none → J e h → P h) (hL : ∀ h, I lim h → P h) (hl1 : 1 ≤ lim) (hn : n = rnC nx lim 0) (hI : ∀ h', xR yV ad h0 (tS F (nI 0)) W pm h' → I 0 h') : mCon l D aC mX6_run [.ref (ad 30 0 0), .int (nI lim)] h (mRi (nI n) P) := by
  refine mCon.of [some (.ref (ad 30 0 0)), some (.int (nI lim)), none, none] (by decide +kernel) rfl (Nat.le_of_ble_eq_true rfl) ?_
  intro K el eD eC hK hZ
  subst el eD eC
  refine mJ_aload_n hK dX6_run_0 rfl ?_
  refine mJ_iload_n hK dX6_run_1 rfl ?_
  refine mJ_iconst (v := nI 1) hK dX6_run_2 (by decide) ?_
  refine mJ_bipush (v := nI 100) hK dX6_run_3 (by decide) ?_
  refine mJ_cSi hK dX6_run_5 lX6_120 (by unfold mFit; decide) (by decide) (k_X6_withinN (by omega) (by omega) (by omega)) rfl rfl (Nat.le_of_ble_eq_true rfl) (fun h e9 => ?_)
  subst e9
  refine mJ_ifb_eq (tgt := 15) hK dX6_run_8 (by decide) (fun c_8 => ?_) (fun c_8 => ?_)
  · exact absurd c_8 (by omega)
  · refine mJ_iconst (v := nI 0) hK dX6_run_11 (by decide) ?_
    refine mJ_goto (tgt := 16) hK dX6_run_12 (by decide) ?_
    refine xJ_puti hR hK dX6_run_16 fX6_117 sX6_0 rfl rfl (by unfold yV; omega) (fun _ _ => rfl) (by decide) rfl (fun h hR => ?_)
    refine mJ_iconst (v := nI 0) hK dX6_run_19 (by decide) ?_
    refine mJ_istore_n hK dX6_run_20 (by decide) rfl ?_
    refine mJ_aload_n hK dX6_run_21 rfl ?_
    refine xJ_getx (nI 0) hR hK dX6_run_22 fX6_117 (by unfold yV; omega) (fun _ _ => rfl) (by decide) rfl (by simp [fr, upd]) ?_
    refine mJ_nif_le (tgt := 32) hK dX6_run_25 (by decide) (by omega) (fun c_25 => ?_) (fun c_25 => ?_)
    · have hI0 := hI _ hR
      refine mJ_aload_n hK dX6_run_32 rfl ?_
      refine mJ_cVi hK dX6_run_33 lX6_245 (by unfold mFit; decide) (by decide) (hf 0 h (by omega) hI0) rfl rfl (Nat.le_of_ble_eq_true rfl) (hR.1 _ _ _ (by unfold yV; omega)) ⟨_, _, rfl⟩ (fun h hJ => ?_)
      refine mJ_istore_n hK dX6_run_36 (by decide) rfl ?_
      exact lp_X6_run hK hlim hth hf hk9 hS hN hL hZ (lim + 1) 0 h (by omega) (by omega) hn hJ
    · exact absurd c_25 (by omega)

set_option maxRecDepth 100000 in
set_option maxHeartbeats 4000000 in
theorem k_X6_run_x {l : Launch} {D : va_G} {aC : Nat → ClassId} {ad : xAd} {h0 h : mH} {F : xFm} {W : xWm} {pm : Nat → Nat} (hR : xR yV ad h0 F W pm h) {x : Int32} (hx : ¬ (nI 1 ≤ x ∧ x ≤ nI 100)) : mCon l D aC mX6_run [.ref (ad 30 0 0), .int x] h (mRi (nI 0) (fun h' => xR yV ad h0 (tS F (nI 1)) W pm h')) := by
  refine mCon.of [some (.ref (ad 30 0 0)), some (.int x), none, none] (by decide +kernel) rfl (Nat.le_of_ble_eq_true rfl) ?_
  intro K el eD eC hK hZ
  subst el eD eC
  refine mJ_aload_n hK dX6_run_0 rfl ?_
  refine mJ_iload_n hK dX6_run_1 rfl ?_
  refine mJ_iconst (v := nI 1) hK dX6_run_2 (by decide) ?_
  refine mJ_bipush (v := nI 100) hK dX6_run_3 (by decide) ?_
  refine mJ_cSi hK dX6_run_5 lX6_120 (by unfold mFit; decide) (by decide) (k_X6_within _ _ _) rfl rfl (Nat.le_of_ble_eq_true rfl) (fun h e9 => ?_)
  subst e9
  refine mJ_ifb_eq (tgt := 15) hK dX6_run_8 (by decide) (fun c_8 => ?_) (fun c_8 => ?_)
  · refine mJ_iconst (v := nI 1) hK dX6_run_15 (by decide) ?_
    refine xJ_puti hR hK dX6_run_16 fX6_117 sX6_0 rfl rfl (by unfold yV; omega) (fun _ _ => rfl) (by decide) rfl (fun h hR => ?_)
    refine mJ_iconst (v := nI 0) hK dX6_run_19 (by decide) ?_
    refine mJ_istore_n hK dX6_run_20 (by decide) rfl ?_
    refine mJ_aload_n hK dX6_run_21 rfl ?_
    refine xJ_getx (nI 1) hR hK dX6_run_22 fX6_117 (by unfold yV; omega) (fun _ _ => rfl) (by decide) rfl (by simp [fr, upd]) ?_
    refine mJ_nif_le (tgt := 32) hK dX6_run_25 (by decide) (by omega) (fun c_25 => ?_) (fun c_25 => ?_)
    · exact absurd c_25 (by omega)
    · refine mJ_iconst (v := -1) hK dX6_run_28 (by decide) ?_
      refine mJ_goto (tgt := 36) hK dX6_run_29 (by decide) ?_
      refine mJ_istore_n hK dX6_run_36 (by decide) rfl ?_
      refine mJ_iload_n hK dX6_run_37 rfl ?_
      refine mJ_iconst (v := -1) hK dX6_run_38 (by decide) ?_
      refine mJ_icmp_eq (tgt := 67) hK dX6_run_39 (by decide) (fun c_39 => ?_) (fun c_39 => ?_)
      · refine mJ_iload_n hK dX6_run_67 rfl ?_
        refine mJ_iret hK dX6_run_68 rfl hZ (by decide) (by decide) ?_
        exact ⟨rfl, hR⟩
      · exact absurd rfl c_39
  · exact absurd c_8 hx
