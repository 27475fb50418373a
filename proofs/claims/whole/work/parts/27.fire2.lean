theorem nxL_e {en : Nat → Bool} {fi : Nat → Int32} {po rn s0 n i : Nat} {b : Option Nat} : nxL en fi po rn s0 (n + 1) i b = if en ((s0 + i) % rn) = true then (if po = 2 then nxL en fi po rn s0 n (i + 1) (match b with | none => some ((s0 + i) % rn) | some b9 => if fi ((s0 + i) % rn) < fi b9 then some ((s0 + i) % rn) else some b9) else some ((s0 + i) % rn)) else nxL en fi po rn s0 n (i + 1) b := rfl
theorem nxL_in {en : Nat → Bool} {fi : Nat → Int32} {po rn s0 : Nat} (h0 : 0 < rn) : ∀ (n i : Nat) (b : Option Nat), (∀ k, b = some k → k < rn ∧ en k = true) → ∀ k, nxL en fi po rn s0 n i b = some k → k < rn ∧ en k = true
  | 0, i, b, hb, k, h => hb k h
  | n + 1, i, b, hb, k, h => by
    have e := nxL_e (en := en) (fi := fi) (po := po) (rn := rn) (s0 := s0) (n := n) (i := i) (b := b)
    rw [e] at h
    have hm : (s0 + i) % rn < rn := Nat.mod_lt _ h0
    split at h
    · rename_i h1
      split at h
      · refine nxL_in h0 n (i + 1) _ ?_ k h
        intro k9 hk9
        split at hk9
        · cases hk9
          exact ⟨hm, h1⟩
        · split at hk9
          · cases hk9
            exact ⟨hm, h1⟩
          · exact hb k9 hk9
      · cases h
        exact ⟨hm, h1⟩
    · exact nxL_in h0 n (i + 1) b hb k h
set_option maxRecDepth 100000 in
set_option maxHeartbeats 4000000 in
theorem k_X5_fire_n {l : Launch} {D : va_G} {aC : Nat → ClassId} {ad : xAd} {h0 h : mH} {F : xFm} {W : xWm} {pm : Nat → Nat} (hR : xR xV ad h0 F W pm h) {rn : Nat} (hrn : F 0 0 0 4 = nI rn) (hrn8 : rn ≤ 8) (hpm : ∀ i, i < 9 → pm i < 9) {q : Nat → Nat} (hq : ∀ c, c < 8 → F 13 0 c 3 = nI (q c) ∧ q c ≤ 8) (hw : ∀ i, i < rn → rwf F (pm i)) (hrd : ∀ i, i < rn → rdy F q (pm i)) {po : Nat} (hpo : F 0 0 0 5 = nI po) (hpo2 : po ≤ 2) {st : Nat} (hst : F 7 0 0 4 + nI 1 = nI st) (hst8 : st ≤ 8) {s0 : Nat} (hs0 : s0 = if po = 1 then st else 0) (hnx : nxL (fun i => enF F q (pm i)) (F 12 0 0) po rn s0 rn 0 none = none) : mCon l D aC mX5_fire [.ref (ad 0 0 0)] h (mRi (-1) (fun h' => ∃ ch : Nat → Int32, xR xV ad h0 (fr F 4 0 0 ch) W pm h')) := by
  refine mCon.of [some (.ref (ad 0 0 0)), none] (by decide +kernel) rfl (Nat.le_of_ble_eq_true rfl) ?_
  intro K el eD eC hK hZ
  subst el eD eC
  refine mJ_aload_n hK dX5_fire_0 rfl ?_
  refine mJ_cVi hK dX5_fire_1 lX5_172 (by unfold mFit; decide) (by decide) (k_X5_nextRule hR hrn hrn8 hpm hq hw hrd hpo hpo2 hst hst8 hs0) rfl rfl (Nat.le_of_ble_eq_true rfl) (hR.1 _ _ _ (by unfold xV; omega)) ⟨_, _, rfl⟩ (fun h hE => ?_)
  obtain ⟨c1, hR⟩ := hE
  rw [hnx]
  refine mJ_istore_n hK dX5_fire_4 (by decide) rfl ?_
  refine mJ_iload_n hK dX5_fire_5 rfl ?_
  refine mJ_iconst (v := -1) hK dX5_fire_6 (by decide) ?_
  refine mJ_icmp_eq (tgt := 15) hK dX5_fire_7 (by decide) (fun c_7 => ?_) (fun c_7 => ?_)
  · refine mJ_iload_n hK dX5_fire_15 rfl ?_
    refine mJ_iret hK dX5_fire_16 rfl hZ (by decide) (by decide) ?_
    exact ⟨rfl, c1, hR⟩
  · exact absurd rfl c_7

set_option maxRecDepth 100000 in
set_option maxHeartbeats 4000000 in
theorem k_X5_fire_s {l : Launch} {D : va_G} {aC : Nat → ClassId} {ad : xAd} {h0 h : mH} {F : xFm} {W : xWm} {pm : Nat → Nat} (hR : xR xV ad h0 F W pm h) {rn : Nat} (hrn : F 0 0 0 4 = nI rn) (hrn8 : rn ≤ 8) (hpm : ∀ i, i < 9 → pm i < 9) {q : Nat → Nat} (hq : ∀ c, c < 8 → F 13 0 c 3 = nI (q c) ∧ q c ≤ 8) (hw : ∀ i, i < rn → rwf F (pm i)) (hrd : ∀ i, i < rn → rdy F q (pm i)) {po : Nat} (hpo : F 0 0 0 5 = nI po) (hpo2 : po ≤ 2) {st : Nat} (hst : F 7 0 0 4 + nI 1 = nI st) (hst8 : st ≤ 8) {s0 : Nat} (hs0 : s0 = if po = 1 then st else 0) {k : Nat} (hk : k < rn) {i j : Nat} (hfm : fmF F q (pm k) = some (i, j)) {cn : Nat → Nat} (ecn : cn = chN (gL F (pm k)) (gR F (pm k)) i j) (hcn : ∀ c, c < 8 → usP (F 17 (pm k) 0 0) (nI c) → cn c < q c) {g : Nat} (hg : F 9 0 0 2 = nI g) (hgb : g < 1000000) (hO : ∀ (ch : Nat → Int32), (∀ c, c < 8 → ch c = nI (cn c)) → ∀ o, o < oC F (pm k) → coOk (coN (pm k) g o (tkN cn q g (pm k) (feF F ch k, W) 8).1) (pm k) g o) (hmo : ∀ (ch : Nat → Int32) (o : Nat), o ≤ oC F (pm k) → coN (pm k) g o (tkN cn q g (pm k) (feF F ch k, W) 8).1 (17) (pm k) 0 5 = nI (oC F (pm k))) (hnx : nxL (fun i => enF F q (pm i)) (F 12 0 0) po rn s0 rn 0 none = some k) : mCon l D aC mX5_fire [.ref (ad 0 0 0)] h (mRi (nI k) (fun h' => ∃ ch : Nat → Int32, (∀ c, c < 8 → ch c = nI (cn c)) ∧ xR xV ad h0 (coN (pm k) g (oC F (pm k)) (tkN cn q g (pm k) (feF F ch k, W) 8).1) (tkN cn q g (pm k) (feF F ch k, W) 8).2 pm h')) := by
  refine mCon.of [some (.ref (ad 0 0 0)), none] (by decide +kernel) rfl (Nat.le_of_ble_eq_true rfl) ?_
  intro K el eD eC hK hZ
  subst el eD eC
  refine mJ_aload_n hK dX5_fire_0 rfl ?_
  refine mJ_cVi hK dX5_fire_1 lX5_172 (by unfold mFit; decide) (by decide) (k_X5_nextRule hR hrn hrn8 hpm hq hw hrd hpo hpo2 hst hst8 hs0) rfl rfl (Nat.le_of_ble_eq_true rfl) (hR.1 _ _ _ (by unfold xV; omega)) ⟨_, _, rfl⟩ (fun h hE => ?_)
  obtain ⟨c1, hR⟩ := hE
  rw [hnx]
  refine mJ_istore_n hK dX5_fire_4 (by decide) rfl ?_
  refine mJ_iload_n hK dX5_fire_5 rfl ?_
  refine mJ_iconst (v := -1) hK dX5_fire_6 (by decide) ?_
  refine mJ_icmp_eq (tgt := 15) hK dX5_fire_7 (by decide) (fun c_7 => ?_) (fun c_7 => ?_)
  · exact absurd c_7 (nI_m1 (by omega))
  · refine mJ_aload_n hK dX5_fire_10 rfl ?_
    refine mJ_iload_n hK dX5_fire_11 rfl ?_
    refine mJ_cVv hK dX5_fire_12 lX5_175 (by unfold mFit; decide) (by decide) (k_X5_fireEnabled hR hrn8 hpm hq hk (hw k hk) hfm ecn hcn hg hgb (fun ch hc => by rw [feF_ch]; exact hO ch hc) (fun ch o ho => by rw [feF_ch]; exact hmo ch o ho)) rfl rfl (Nat.le_of_ble_eq_true rfl) (hR.1 _ _ _ (by unfold xV; omega)) ⟨_, _, rfl⟩ (fun h hE => ?_)
    obtain ⟨ch, hc9, hR⟩ := hE
    rw [feF_ch] at hR
    refine mJ_iload_n hK dX5_fire_15 rfl ?_
    refine mJ_iret hK dX5_fire_16 rfl hZ (by decide) (by decide) ?_
    exact ⟨rfl, ch, hc9, hR⟩

set_option maxRecDepth 100000 in
set_option maxHeartbeats 4000000 in
theorem k_X5_fireRule {l : Launch} {D : va_G} {aC : Nat → ClassId} {ad : xAd} {h0 h : mH} {F : xFm} {W : xWm} {pm : Nat → Nat} (hR : xR xV ad h0 F W pm h) {rn : Nat} (hrn : F 0 0 0 4 = nI rn) (hrn8 : rn ≤ 8) (hpm : ∀ i, i < 9 → pm i < 9) {q : Nat → Nat} (hq : ∀ c, c < 8 → F 13 0 c 3 = nI (q c) ∧ q c ≤ 8) (hw : ∀ i, i < rn → rwf F (pm i)) (hrd : ∀ i, i < rn → rdy F q (pm i)) {k : Nat} (hk : k < rn) {i j : Nat} (hfm : fmF F q (pm k) = some (i, j)) {cn : Nat → Nat} (ecn : cn = chN (gL F (pm k)) (gR F (pm k)) i j) (hcn : ∀ c, c < 8 → usP (F 17 (pm k) 0 0) (nI c) → cn c < q c) {g : Nat} (hg : F 9 0 0 2 = nI g) (hgb : g < 1000000) (hO : ∀ (ch : Nat → Int32), (∀ c, c < 8 → ch c = nI (cn c)) → ∀ o, o < oC F (pm k) → coOk (coN (pm k) g o (tkN cn q g (pm k) (feF F ch k, W) 8).1) (pm k) g o) (hmo : ∀ (ch : Nat → Int32) (o : Nat), o ≤ oC F (pm k) → coN (pm k) g o (tkN cn q g (pm k) (feF F ch k, W) 8).1 (17) (pm k) 0 5 = nI (oC F (pm k))) (hen : enF F q (pm k) = true) : mCon l D aC mX5_fireRule [.ref (ad 0 0 0), .int (nI k)] h (fun r h' => ∃ ch : Nat → Int32, r = some (.int (coN (pm k) g (oC F (pm k)) (tkN cn q g (pm k) (feF F ch k, W) 8).1 12 0 0 k)) ∧ (∀ c, c < 8 → ch c = nI (cn c)) ∧ xR xV ad h0 (coN (pm k) g (oC F (pm k)) (tkN cn q g (pm k) (feF F ch k, W) 8).1) (tkN cn q g (pm k) (feF F ch k, W) 8).2 pm h') := by
  refine mCon.of [some (.ref (ad 0 0 0)), some (.int (nI k))] (by decide +kernel) rfl (Nat.le_of_ble_eq_true rfl) ?_
  intro K el eD eC hK hZ
  subst el eD eC
  refine mJ_aload_n hK dX5_fireRule_0 rfl ?_
  refine mJ_iload_n hK dX5_fireRule_1 rfl ?_
  refine mJ_cVv hK dX5_fireRule_2 lX5_88 (by unfold mFit; decide) (by decide) (k_X5_requireRule hR hrn hrn8 hk) rfl rfl (Nat.le_of_ble_eq_true rfl) (hR.1 _ _ _ (by unfold xV; first | omega | (have := hpm k (by omega); omega))) ⟨_, _, rfl⟩ (fun h e9 => ?_)
  subst e9
  refine mJ_aload_n hK dX5_fireRule_5 rfl ?_
  refine mJ_aload_n hK dX5_fireRule_6 rfl ?_
  refine xJ_getr hR hK dX5_fireRule_7 fX5_22 (by unfold xV; first | omega | (have := hpm k (by omega); omega)) (fun _ _ => rfl) (by decide) (fun _ _ => rfl) ?_
  refine mJ_iload_n hK dX5_fireRule_10 rfl ?_
  refine xJ_aldR k hR hK dX5_fireRule_11 (by unfold xV; first | omega | (have := hpm k (by omega); omega)) rfl (by omega) ?_
  refine mJ_cVi hK dX5_fireRule_12 lX5_157 (by unfold mFit; decide) (by decide) (k_X5_isEnabled hR (hpm k (by omega)) hq (hw k hk) (hrd k hk)) rfl rfl (Nat.le_of_ble_eq_true rfl) (hR.1 _ _ _ (by unfold xV; first | omega | (have := hpm k (by omega); omega))) ⟨_, _, rfl⟩ (fun h hE => ?_)
  obtain ⟨c1, hR⟩ := hE
  refine mJ_ifb_ne (tgt := 28) hK dX5_fireRule_15 (by decide) (fun c_15 => ?_) (fun c_15 => ?_)
  · refine mJ_aload_n hK dX5_fireRule_28 rfl ?_
    refine mJ_iload_n hK dX5_fireRule_29 rfl ?_
    refine mJ_cVv hK dX5_fireRule_30 lX5_175 (by unfold mFit; decide) (by decide) (k_X5_fireEnabled hR hrn8 hpm hq hk (hw k hk) hfm ecn hcn hg hgb (fun ch hc => by rw [feF_ch]; exact hO ch hc) (fun ch o ho => by rw [feF_ch]; exact hmo ch o ho)) rfl rfl (Nat.le_of_ble_eq_true rfl) (hR.1 _ _ _ (by unfold xV; first | omega | (have := hpm k (by omega); omega))) ⟨_, _, rfl⟩ (fun h hE => ?_)
    obtain ⟨ch, hc9, hR⟩ := hE
    rw [feF_ch] at hR
    refine mJ_aload_n hK dX5_fireRule_33 rfl ?_
    refine xJ_getr hR hK dX5_fireRule_34 fX5_29 (by unfold xV; first | omega | (have := hpm k (by omega); omega)) (fun _ _ => rfl) (by decide) (fun _ _ => rfl) ?_
    refine xJ_getr hR hK dX5_fireRule_37 fX5_81 (by unfold xV; first | omega | (have := hpm k (by omega); omega)) (fun _ _ => rfl) (by decide) (fun _ _ => rfl) ?_
    refine mJ_iload_n hK dX5_fireRule_40 rfl ?_
    refine xJ_iald k hR hK dX5_fireRule_41 (by unfold xV; first | omega | (have := hpm k (by omega); omega)) (fun _ _ => rfl) rfl (by omega) (by decide) ?_
    refine mJ_iret hK dX5_fireRule_42 rfl hZ (by decide) (by decide) ?_
    exact ⟨ch, rfl, hc9, hR⟩
  · exact absurd hen c_15

set_option maxRecDepth 100000 in
set_option maxHeartbeats 4000000 in
theorem k_X5_fireRule_x1 {l : Launch} {D : va_G} {aC : Nat → ClassId} {ad : xAd} {h0 h : mH} {F : xFm} {W : xWm} {pm : Nat → Nat} (hR : xR xV ad h0 F W pm h) {rn : Nat} (hrn : F 0 0 0 4 = nI rn) (hrn8 : rn ≤ 8) {x : Int32} (hx : ¬ (0 ≤ x ∧ x < nI rn)) : mXon l D aC mX5_fireRule [.ref (ad 0 0 0), .int x] h (fun _ _ => False) (fun E h' => E = "java/lang/IndexOutOfBoundsException" ∧ h' = h) := by
  refine mXon.of [some (.ref (ad 0 0 0)), some (.int x)] (by decide +kernel) rfl (Nat.le_of_ble_eq_true rfl) ?_
  intro K el eD eC hK hZ hX
  subst el eD eC
  refine mJ_aload_n hK dX5_fireRule_0 rfl ?_
  refine mJ_iload_n hK dX5_fireRule_1 rfl ?_
  exact mJ_xV hK hX dX5_fireRule_2 lX5_88 (by unfold mFit; decide) (by decide) (k_X5_requireRule_x hR hrn hrn8 hx) (fun _ _ z => z) rfl rfl (Nat.le_of_ble_eq_true rfl) (hR.1 _ _ _ (by unfold xV; omega)) ⟨_, _, rfl⟩

set_option maxRecDepth 100000 in
set_option maxHeartbeats 4000000 in
theorem k_X5_fireRule_x2 {l : Launch} {D : va_G} {aC : Nat → ClassId} {ad : xAd} {h0 h : mH} {F : xFm} {W : xWm} {pm : Nat → Nat} (hR : xR xV ad h0 F W pm h) {rn : Nat} (hrn : F 0 0 0 4 = nI rn) (hrn8 : rn ≤ 8) (hpm : ∀ i, i < 9 → pm i < 9) {q : Nat → Nat} (hq : ∀ c, c < 8 → F 13 0 c 3 = nI (q c) ∧ q c ≤ 8) (hw : ∀ i, i < rn → rwf F (pm i)) (hrd : ∀ i, i < rn → rdy F q (pm i)) {k : Nat} (hk : k < rn) (hen : ¬ enF F q (pm k) = true) : mXon l D aC mX5_fireRule [.ref (ad 0 0 0), .int (nI k)] h (fun _ _ => False) (fun E h' => E = "java/lang/IllegalStateException" ∧ ∃ ch : Nat → Int32, xR xV ad h0 (fr F 4 0 0 ch) W pm h') := by
  refine mXon.of [some (.ref (ad 0 0 0)), some (.int (nI k))] (by decide +kernel) rfl (Nat.le_of_ble_eq_true rfl) ?_
  intro K el eD eC hK hZ hX
  subst el eD eC
  refine mJ_aload_n hK dX5_fireRule_0 rfl ?_
  refine mJ_iload_n hK dX5_fireRule_1 rfl ?_
  refine mJ_cVv hK dX5_fireRule_2 lX5_88 (by unfold mFit; decide) (by decide) (k_X5_requireRule hR hrn hrn8 hk) rfl rfl (Nat.le_of_ble_eq_true rfl) (hR.1 _ _ _ (by unfold xV; first | omega | (have := hpm k (by omega); omega))) ⟨_, _, rfl⟩ (fun h e9 => ?_)
  subst e9
  refine mJ_aload_n hK dX5_fireRule_5 rfl ?_
  refine mJ_aload_n hK dX5_fireRule_6 rfl ?_
  refine xJ_getr hR hK dX5_fireRule_7 fX5_22 (by unfold xV; first | omega | (have := hpm k (by omega); omega)) (fun _ _ => rfl) (by decide) (fun _ _ => rfl) ?_
  refine mJ_iload_n hK dX5_fireRule_10 rfl ?_
  refine xJ_aldR k hR hK dX5_fireRule_11 (by unfold xV; first | omega | (have := hpm k (by omega); omega)) rfl (by omega) ?_
  refine mJ_cVi hK dX5_fireRule_12 lX5_157 (by unfold mFit; decide) (by decide) (k_X5_isEnabled hR (hpm k (by omega)) hq (hw k hk) (hrd k hk)) rfl rfl (Nat.le_of_ble_eq_true rfl) (hR.1 _ _ _ (by unfold xV; first | omega | (have := hpm k (by omega); omega))) ⟨_, _, rfl⟩ (fun h hE => ?_)
  obtain ⟨c1, hR⟩ := hE
  refine mJ_ifb_ne (tgt := 28) hK dX5_fireRule_15 (by decide) (fun c_15 => ?_) (fun c_15 => ?_)
  · exact absurd c_15 hen
  · refine mJ_throw (text := "the rule is not enabled") hK hX tw_57 (by decide +kernel) dX5_fireRule_18 dX5_fireRule_21 dX5_fireRule_22 dX5_fireRule_24 dX5_fireRule_27 (by decide) (Nat.le_of_ble_eq_true rfl) (by decide) (by decide) ?_
    exact ⟨rfl, c1, hR⟩

def mtR (F : xFm) (q : Nat → Nat) (r c : Nat) : Int32 := match fmF F q r with
  | some (i, j) => chs (gL F r) (gR F r) i j c
  | none => -1
set_option maxRecDepth 100000 in
set_option maxHeartbeats 4000000 in
theorem k_X5_matchOf {l : Launch} {D : va_G} {aC : Nat → ClassId} {ad : xAd} {h0 h : mH} {F : xFm} {W : xWm} {pm : Nat → Nat} (hR : xR xV ad h0 F W pm h) {rn : Nat} (hrn : F 0 0 0 4 = nI rn) (hrn8 : rn ≤ 8) (hpm : ∀ i, i < 9 → pm i < 9) {q : Nat → Nat} (hq : ∀ c, c < 8 → F 13 0 c 3 = nI (q c) ∧ q c ≤ 8) (hw : ∀ i, i < rn → rwf F (pm i)) {k : Nat} (hk : k < rn) {c : Nat} (hc : c < 8) (hu : usP (F 17 (pm k) 0 0) (nI c)) : mCon l D aC mX5_matchOf [.ref (ad 0 0 0), .int (nI k), .int (nI c)] h (mRi (mtR F q (pm k) c) (fun h' => ∃ ch : Nat → Int32, xR xV ad h0 (fr F 4 0 0 ch) W pm h')) := by
  refine mCon.of [some (.ref (ad 0 0 0)), some (.int (nI k)), some (.int (nI c))] (by decide +kernel) rfl (Nat.le_of_ble_eq_true rfl) ?_
  intro K el eD eC hK hZ
  subst el eD eC
  refine mJ_aload_n hK dX5_matchOf_0 rfl ?_
  refine mJ_iload_n hK dX5_matchOf_1 rfl ?_
  refine mJ_cVv hK dX5_matchOf_2 lX5_88 (by unfold mFit; decide) (by decide) (k_X5_requireRule hR hrn hrn8 hk) rfl rfl (Nat.le_of_ble_eq_true rfl) (hR.1 _ _ _ (by unfold xV; first | omega | (have := hpm k (by omega); omega))) ⟨_, _, rfl⟩ (fun h e9 => ?_)
  subst e9
  refine mJ_iload_n hK dX5_matchOf_5 rfl ?_
  refine mJ_cSi hK dX5_matchOf_6 lX5_161 (by unfold mFit; decide) (by decide) (k_X5_isChannelN (by omega)) rfl rfl (Nat.le_of_ble_eq_true rfl) (fun h e9 => ?_)
  subst e9
  refine mJ_ifb_eq (tgt := 25) hK dX5_matchOf_9 (by decide) (fun c_9 => ?_) (fun c_9 => ?_)
  · exact absurd c_9 (by omega)
  · refine mJ_aload_n hK dX5_matchOf_12 rfl ?_
    refine xJ_getr hR hK dX5_matchOf_13 fX5_22 (by unfold xV; first | omega | (have := hpm k (by omega); omega)) (fun _ _ => rfl) (by decide) (fun _ _ => rfl) ?_
    refine mJ_iload_n hK dX5_matchOf_16 rfl ?_
    refine xJ_aldR k hR hK dX5_matchOf_17 (by unfold xV; first | omega | (have := hpm k (by omega); omega)) rfl (by omega) ?_
    refine mJ_iload_n hK dX5_matchOf_18 rfl ?_
    refine mJ_cVi hK dX5_matchOf_19 lX5_164 (by unfold mFit; decide) (by decide) (k_X1_uses hR (hpm k (by omega)) _) rfl rfl (Nat.le_of_ble_eq_true rfl) (hR.1 _ _ _ (by unfold xV; first | omega | (have := hpm k (by omega); omega))) ⟨_, _, rfl⟩ (fun h e9 => ?_)
    subst e9
    refine mJ_ifb_ne (tgt := 35) hK dX5_matchOf_22 (by decide) (fun c_22 => ?_) (fun c_22 => ?_)
    · refine mJ_aload_n hK dX5_matchOf_35 rfl ?_
      refine mJ_aload_n hK dX5_matchOf_36 rfl ?_
      refine xJ_getr hR hK dX5_matchOf_37 fX5_22 (by unfold xV; first | omega | (have := hpm k (by omega); omega)) (fun _ _ => rfl) (by decide) (fun _ _ => rfl) ?_
      refine mJ_iload_n hK dX5_matchOf_40 rfl ?_
      refine xJ_aldR k hR hK dX5_matchOf_41 (by unfold xV; first | omega | (have := hpm k (by omega); omega)) rfl (by omega) ?_
      refine mJ_cVi hK dX5_matchOf_42 lX5_169 (by unfold mFit; decide) (by decide) (k_X5_findMatchF hR (hpm k (by omega)) hq (hw k hk)) rfl rfl (Nat.le_of_ble_eq_true rfl) (hR.1 _ _ _ (by unfold xV; first | omega | (have := hpm k (by omega); omega))) ⟨_, _, rfl⟩ (fun h hE => ?_)
      obtain ⟨ch, hR, hch⟩ := hE
      refine mJ_ifb_eq (tgt := 57) hK dX5_matchOf_45 (by decide) (fun c_45 => ?_) (fun c_45 => ?_)
      · refine mJ_iconst (v := -1) hK dX5_matchOf_57 (by decide) ?_
        refine mJ_iret hK dX5_matchOf_58 rfl hZ (by decide) (by decide) ?_
        refine ⟨congrArg (fun z9 => some (Value.int z9)) ?_, ch, hR⟩
        unfold mtR
        cases hf : fmF F q (pm k) with
        | none => first | rfl | (rw [hf] at c_45; exact absurd c_45 (by decide))
        | some ij => first | (rw [hf] at c_45; exact absurd rfl c_45) | (obtain ⟨i9, j9⟩ := ij; rw [fr_s]; exact hch i9 j9 hf c hc)
      · refine mJ_aload_n hK dX5_matchOf_48 rfl ?_
        refine xJ_getr hR hK dX5_matchOf_49 fX5_36 (by unfold xV; first | omega | (have := hpm k (by omega); omega)) (fun _ _ => rfl) (by decide) (fun _ _ => rfl) ?_
        refine mJ_iload_n hK dX5_matchOf_52 rfl ?_
        refine xJ_iald c hR hK dX5_matchOf_53 (by unfold xV; first | omega | (have := hpm k (by omega); omega)) (fun _ _ => rfl) rfl (by omega) (by decide) ?_
        refine mJ_goto (tgt := 58) hK dX5_matchOf_54 (by decide) ?_
        refine mJ_iret hK dX5_matchOf_58 rfl hZ (by decide) (by decide) ?_
        refine ⟨congrArg (fun z9 => some (Value.int z9)) ?_, ch, hR⟩
        unfold mtR
        cases hf : fmF F q (pm k) with
        | none => first | rfl | (rw [hf] at c_45; exact absurd c_45 (by decide))
        | some ij => first | (rw [hf] at c_45; exact absurd rfl c_45) | (obtain ⟨i9, j9⟩ := ij; rw [fr_s]; exact hch i9 j9 hf c hc)
    · exact absurd hu c_22

set_option maxRecDepth 100000 in
set_option maxHeartbeats 4000000 in
theorem k_X5_matchOf_x1 {l : Launch} {D : va_G} {aC : Nat → ClassId} {ad : xAd} {h0 h : mH} {F : xFm} {W : xWm} {pm : Nat → Nat} (hR : xR xV ad h0 F W pm h) {rn : Nat} (hrn : F 0 0 0 4 = nI rn) (hrn8 : rn ≤ 8) {x : Int32} (hx : ¬ (0 ≤ x ∧ x < nI rn)) (y : Int32) : mXon l D aC mX5_matchOf [.ref (ad 0 0 0), .int x, .int y] h (fun _ _ => False) (fun E h' => E = "java/lang/IndexOutOfBoundsException" ∧ h' = h) := by
  refine mXon.of [some (.ref (ad 0 0 0)), some (.int x), some (.int y)] (by decide +kernel) rfl (Nat.le_of_ble_eq_true rfl) ?_
  intro K el eD eC hK hZ hX
  subst el eD eC
  refine mJ_aload_n hK dX5_matchOf_0 rfl ?_
  refine mJ_iload_n hK dX5_matchOf_1 rfl ?_
  exact mJ_xV hK hX dX5_matchOf_2 lX5_88 (by unfold mFit; decide) (by decide) (k_X5_requireRule_x hR hrn hrn8 hx) (fun _ _ z => z) rfl rfl (Nat.le_of_ble_eq_true rfl) (hR.1 _ _ _ (by unfold xV; omega)) ⟨_, _, rfl⟩

set_option maxRecDepth 100000 in
set_option maxHeartbeats 4000000 in
theorem k_X5_matchOf_x2 {l : Launch} {D : va_G} {aC : Nat → ClassId} {ad : xAd} {h0 h : mH} {F : xFm} {W : xWm} {pm : Nat → Nat} (hR : xR xV ad h0 F W pm h) {rn : Nat} (hrn : F 0 0 0 4 = nI rn) (hrn8 : rn ≤ 8) (hpm : ∀ i, i < 9 → pm i < 9) {k : Nat} (hk : k < rn) {y : Int32} (hy : ¬ ((0 ≤ y ∧ y < nI 8) ∧ usP (F 17 (pm k) 0 0) y)) : mXon l D aC mX5_matchOf [.ref (ad 0 0 0), .int (nI k), .int y] h (fun _ _ => False) (fun E h' => E = "java/lang/IllegalArgumentException" ∧ h' = h) := by
  refine mXon.of [some (.ref (ad 0 0 0)), some (.int (nI k)), some (.int y)] (by decide +kernel) rfl (Nat.le_of_ble_eq_true rfl) ?_
  intro K el eD eC hK hZ hX
  subst el eD eC
  refine mJ_aload_n hK dX5_matchOf_0 rfl ?_
  refine mJ_iload_n hK dX5_matchOf_1 rfl ?_
  refine mJ_cVv hK dX5_matchOf_2 lX5_88 (by unfold mFit; decide) (by decide) (k_X5_requireRule hR hrn hrn8 hk) rfl rfl (Nat.le_of_ble_eq_true rfl) (hR.1 _ _ _ (by unfold xV; first | omega | (have := hpm k (by omega); omega))) ⟨_, _, rfl⟩ (fun h e9 => ?_)
  subst e9
  refine mJ_iload_n hK dX5_matchOf_5 rfl ?_
  refine mJ_cSi hK dX5_matchOf_6 lX5_161 (by unfold mFit; decide) (by decide) (k_X5_isChannel _) rfl rfl (Nat.le_of_ble_eq_true rfl) (fun h e9 => ?_)
  subst e9
  refine mJ_ifb_eq (tgt := 25) hK dX5_matchOf_9 (by decide) (fun c_9 => ?_) (fun c_9 => ?_)
  · refine mJ_throw (text := "the channel is not in the pattern") hK hX tw_46 (by decide +kernel) dX5_matchOf_25 dX5_matchOf_28 dX5_matchOf_29 dX5_matchOf_31 dX5_matchOf_34 (by decide) (Nat.le_of_ble_eq_true rfl) (by decide) (by decide) ?_
    exact ⟨rfl, rfl⟩
  · refine mJ_aload_n hK dX5_matchOf_12 rfl ?_
    refine xJ_getr hR hK dX5_matchOf_13 fX5_22 (by unfold xV; first | omega | (have := hpm k (by omega); omega)) (fun _ _ => rfl) (by decide) (fun _ _ => rfl) ?_
    refine mJ_iload_n hK dX5_matchOf_16 rfl ?_
    refine xJ_aldR k hR hK dX5_matchOf_17 (by unfold xV; first | omega | (have := hpm k (by omega); omega)) rfl (by omega) ?_
    refine mJ_iload_n hK dX5_matchOf_18 rfl ?_
    refine mJ_cVi hK dX5_matchOf_19 lX5_164 (by unfold mFit; decide) (by decide) (k_X1_uses hR (hpm k (by omega)) _) rfl rfl (Nat.le_of_ble_eq_true rfl) (hR.1 _ _ _ (by unfold xV; first | omega | (have := hpm k (by omega); omega))) ⟨_, _, rfl⟩ (fun h e9 => ?_)
    subst e9
    refine mJ_ifb_ne (tgt := 35) hK dX5_matchOf_22 (by decide) (fun c_22 => ?_) (fun c_22 => ?_)
    · exact absurd ⟨c_9, c_22⟩ hy
    · refine mJ_throw (text := "the channel is not in the pattern") hK hX tw_46 (by decide +kernel) dX5_matchOf_25 dX5_matchOf_28 dX5_matchOf_29 dX5_matchOf_31 dX5_matchOf_34 (by decide) (Nat.le_of_ble_eq_true rfl) (by decide) (by decide) ?_
      exact ⟨rfl, rfl⟩

set_option maxRecDepth 100000 in
set_option maxHeartbeats 4000000 in
theorem k_X5_isStuck {l : Launch} {D : va_G} {aC : Nat → ClassId} {ad : xAd} {h0 h : mH} {F : xFm} {W : xWm} {pm : Nat → Nat} (hR : xR xV ad h0 F W pm h) {rn : Nat} (hrn : F 0 0 0 4 = nI rn) (hrn8 : rn ≤ 8) (hpm : ∀ i, i < 9 → pm i < 9) {q : Nat → Nat} (hq : ∀ c, c < 8 → F 13 0 c 3 = nI (q c) ∧ q c ≤ 8) (hw : ∀ i, i < rn → rwf F (pm i)) (hrd : ∀ i, i < rn → rdy F q (pm i)) : mCon l D aC mX5_isStuck [.ref (ad 0 0 0)] h (mRi (bI (¬ wtM q = 0 ∧ bmk (fun i => enF F q (pm i)) rn = 0)) (fun h' => ∃ ch : Nat → Int32, xR xV ad h0 (fr F 4 0 0 ch) W pm h')) := by
  refine mCon.of [some (.ref (ad 0 0 0))] (by decide +kernel) rfl (Nat.le_of_ble_eq_true rfl) ?_
  intro K el eD eC hK hZ
  subst el eD eC
  refine mJ_aload_n hK dX5_isStuck_0 rfl ?_
  refine mJ_cVi hK dX5_isStuck_1 lX5_151 (by unfold mFit; decide) (by decide) (k_X5_waitingChannels hR hq) rfl rfl (Nat.le_of_ble_eq_true rfl) (hR.1 _ _ _ (by unfold xV; omega)) ⟨_, _, rfl⟩ (fun h e9 => ?_)
  subst e9
  refine mJ_if_eq (tgt := 18) hK dX5_isStuck_4 (by decide) (fun c_4 => ?_) (fun c_4 => ?_)
  · refine mJ_iconst (v := nI 0) hK dX5_isStuck_18 (by decide) ?_
    refine mJ_zret hK dX5_isStuck_19 rfl (by decide) hZ (by decide) (by decide) ?_
    first | exact ⟨congrArg (fun z9 => some (Value.int z9)) (b1 ⟨c_4, c_11⟩), c1, hR⟩ | exact ⟨congrArg (fun z9 => some (Value.int z9)) (b0 (fun z9 => c_11 z9.2)), c1, hR⟩ | exact ⟨congrArg (fun z9 => some (Value.int z9)) (b0 (fun z9 => z9.1 c_4)), F 4 0 0, by rw [fr_self]; exact hR⟩
  · refine mJ_aload_n hK dX5_isStuck_7 rfl ?_
    refine mJ_cVi hK dX5_isStuck_8 lX5_185 (by unfold mFit; decide) (by decide) (k_X5_enabledRules hR hrn hrn8 hpm hq hw hrd) rfl rfl (Nat.le_of_ble_eq_true rfl) (hR.1 _ _ _ (by unfold xV; omega)) ⟨_, _, rfl⟩ (fun h hE => ?_)
    obtain ⟨c1, hR⟩ := hE
    refine mJ_if_ne (tgt := 18) hK dX5_isStuck_11 (by decide) (fun c_11 => ?_) (fun c_11 => ?_)
    · refine mJ_iconst (v := nI 0) hK dX5_isStuck_18 (by decide) ?_
      refine mJ_zret hK dX5_isStuck_19 rfl (by decide) hZ (by decide) (by decide) ?_
      first | exact ⟨congrArg (fun z9 => some (Value.int z9)) (b1 ⟨c_4, c_11⟩), c1, hR⟩ | exact ⟨congrArg (fun z9 => some (Value.int z9)) (b0 (fun z9 => c_11 z9.2)), c1, hR⟩ | exact ⟨congrArg (fun z9 => some (Value.int z9)) (b0 (fun z9 => z9.1 c_4)), F 4 0 0, by rw [fr_self]; exact hR⟩
    · refine mJ_iconst (v := nI 1) hK dX5_isStuck_14 (by decide) ?_
      refine mJ_goto (tgt := 19) hK dX5_isStuck_15 (by decide) ?_
      refine mJ_zret hK dX5_isStuck_19 rfl (by decide) hZ (by decide) (by decide) ?_
      first | exact ⟨congrArg (fun z9 => some (Value.int z9)) (b1 ⟨c_4, c_11⟩), c1, hR⟩ | exact ⟨congrArg (fun z9 => some (Value.int z9)) (b0 (fun z9 => c_11 z9.2)), c1, hR⟩ | exact ⟨congrArg (fun z9 => some (Value.int z9)) (b0 (fun z9 => z9.1 c_4)), F 4 0 0, by rw [fr_self]; exact hR⟩
