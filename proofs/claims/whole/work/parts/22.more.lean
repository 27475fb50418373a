def nxL (en : Nat → Bool) (fi : Nat → Int32) (po rn s0 : Nat) : Nat → Nat → Option Nat → Option Nat
  | 0, _, b => b
  | n + 1, i, b => if en ((s0 + i) % rn) = true then (if po = 2 then nxL en fi po rn s0 n (i + 1) (match b with | none => some ((s0 + i) % rn) | some b9 => if fi ((s0 + i) % rn) < fi b9 then some ((s0 + i) % rn) else some b9) else some ((s0 + i) % rn)) else nxL en fi po rn s0 n (i + 1) b
theorem nxL_s {en : Nat → Bool} {fi : Nat → Int32} {po rn s0 i : Nat} {b : Option Nat} (h : i < rn) : nxL en fi po rn s0 (rn - i) i b = if en ((s0 + i) % rn) = true then (if po = 2 then nxL en fi po rn s0 (rn - (i + 1)) (i + 1) (match b with | none => some ((s0 + i) % rn) | some b9 => if fi ((s0 + i) % rn) < fi b9 then some ((s0 + i) % rn) else some b9) else some ((s0 + i) % rn)) else nxL en fi po rn s0 (rn - (i + 1)) (i + 1) b := by
  obtain ⟨n, hn⟩ : ∃ n, rn - i = n + 1 := ⟨rn - i - 1, by omega⟩
  have hn2 : rn - (i + 1) = n := by omega
  rw [hn, hn2]
  rfl
set_option maxRecDepth 100000 in
set_option maxHeartbeats 4000000 in
theorem lp_X5_nextRule {K : mK} (hK : mCx K mX5_nextRule) {ad : xAd} {h0 : mH} {F : xFm} {W : xWm} {pm : Nat → Nat} {rn : Nat} (hrn : F 0 0 0 4 = nI rn) (hrn8 : rn ≤ 8) (hpm : ∀ i, i < 9 → pm i < 9) {q : Nat → Nat} (hq : ∀ c, c < 8 → F 13 0 c 3 = nI (q c) ∧ q c ≤ 8) (hw : ∀ i, i < rn → rwf F (pm i)) (hrd : ∀ i, i < rn → rdy F q (pm i)) {po : Nat} (hpo : F 0 0 0 5 = nI po) (hpo2 : po ≤ 2) {s0 : Nat} (hs0 : s0 ≤ 8) {nx : Option Nat} (hZ : mRt K mX5_nextRule (mRi (opI nx) (fun h' => ∃ ch : Nat → Int32, xR xV ad h0 (fr F 4 0 0 ch) W pm h'))) : ∀ (fu : Nat) (i : Nat) (b : Option Nat) (u : Option Value) (ch : Nat → Int32) (h : mH), rn - i < fu → (i ≤ rn) → (∀ b9, b = some b9 → b9 < rn) → (nx = nxL (fun i => enF F q (pm i)) (F 12 0 0) po rn s0 (rn - i) i b) → (xR xV ad h0 (fr F 4 0 0 ch) W pm h) → mJ K 0 0 26 [some (.ref (ad 0 0 0)), some (.int (nI s0)), some (.int (opI b)), some (.int (nI i)), u] [] h := by
  intro fu
  induction fu with
  | zero =>
    intro i b u ch h hm0
    exact absurd hm0 (by omega)
  | succ fu ih =>
    intro i b u ch h hm0 hi hb hnx hR
    rcases b with _ | b9
    · refine mJ_iload_n hK dX5_nextRule_26 rfl ?_
      refine mJ_aload_n hK dX5_nextRule_27 rfl ?_
      refine xJ_getx (nI rn) hR hK dX5_nextRule_28 fX5_72 (by unfold xV; first | omega | (have := hpm k (by omega); omega)) (fun _ _ => rfl) (by decide) rfl (by first | exact hrn | (simp [fr, upd]; exact hrn)) ?_
      refine mJ_nge (tgt := 105) hK dX5_nextRule_31 (by decide) (by omega) (by omega) (fun c_31 => ?_) (fun c_31 => ?_)
      · refine mJ_iload_n hK dX5_nextRule_105 rfl ?_
        refine mJ_iret hK dX5_nextRule_106 rfl hZ (by decide) (by decide) ?_
        have : i = rn := by omega
        subst this
        rw [Nat.sub_self] at hnx
        exact ⟨congrArg (fun z9 => some (Value.int z9)) (by rw [hnx]; rfl), _, hR⟩
      · refine mJ_iload_n hK dX5_nextRule_34 rfl ?_
        refine mJ_iload_n hK dX5_nextRule_35 rfl ?_
        refine mJ_iaddN hK dX5_nextRule_36 ?_
        refine mJ_aload_n hK dX5_nextRule_37 rfl ?_
        refine xJ_getx (nI rn) hR hK dX5_nextRule_38 fX5_72 (by unfold xV; first | omega | (have := hpm k (by omega); omega)) (fun _ _ => rfl) (by decide) rfl (by first | exact hrn | (simp [fr, upd]; exact hrn)) ?_
        refine mJ_iremN hK dX5_nextRule_41 (by omega) (by omega) (by omega) ?_
        generalize hk0 : (s0 + i) % rn = k
        have hk : k < rn := by rw [← hk0]; exact Nat.mod_lt _ (by omega)
        refine mJ_istore hK dX5_nextRule_42 (by decide) rfl ?_
        refine mJ_aload_n hK dX5_nextRule_44 rfl ?_
        refine mJ_aload_n hK dX5_nextRule_45 rfl ?_
        refine xJ_getr hR hK dX5_nextRule_46 fX5_22 (by unfold xV; first | omega | (have := hpm k (by omega); omega)) (fun _ _ => rfl) (by decide) (fun _ _ => rfl) ?_
        refine mJ_iload hK dX5_nextRule_49 rfl ?_
        refine xJ_aldR k hR hK dX5_nextRule_51 (by unfold xV; first | omega | (have := hpm k (by omega); omega)) rfl (by omega) ?_
        refine mJ_cVi hK dX5_nextRule_52 lX5_157 (by unfold mFit; decide) (by decide) (k_X5_isEnabled hR (hpm k (by omega)) hq (hw k (by omega)) (hrd k (by omega))) rfl rfl (Nat.le_of_ble_eq_true rfl) (hR.1 _ _ _ (by unfold xV; first | omega | (have := hpm k (by omega); omega))) ⟨_, _, rfl⟩ (fun h hE => ?_)
        obtain ⟨ch9, hR⟩ := hE
        rw [fr_fr] at hR
        rw [enF_ch]
        refine mJ_ifb_eq (tgt := 99) hK dX5_nextRule_55 (by decide) (fun c_55 => ?_) (fun c_55 => ?_)
        · refine mJ_iincN hK dX5_nextRule_99 rfl rfl (by decide) rfl ?_
          refine mJ_goto (tgt := 26) hK dX5_nextRule_102 (by decide) ?_
          refine ih (i + 1) none (some (.int (nI k))) _ _ (by omega) (by omega) (fun _ z9 => by cases z9) ?_ hR
          rw [hnx, nxL_s c_31, hk0, if_neg c_55]
        · refine mJ_aload_n hK dX5_nextRule_58 rfl ?_
          refine xJ_getx (nI po) hR hK dX5_nextRule_59 fX5_100 (by unfold xV; first | omega | (have := hpm k (by omega); omega)) (fun _ _ => rfl) (by decide) rfl (hpo) ?_
          refine mJ_iconst (v := nI 2) hK dX5_nextRule_62 (by decide) ?_
          refine mJ_neq (tgt := 69) hK dX5_nextRule_63 (by decide) (by omega) (by omega) (fun c_63 => ?_) (fun c_63 => ?_)
          · refine mJ_iload_n hK dX5_nextRule_69 rfl ?_
            refine mJ_iconst (v := -1) hK dX5_nextRule_70 (by decide) ?_
            refine mJ_icmp_eq (tgt := 96) hK dX5_nextRule_71 (by decide) (fun c_71 => ?_) (fun c_71 => ?_)
            · refine mJ_iload hK dX5_nextRule_96 rfl ?_
              refine mJ_istore_n hK dX5_nextRule_98 (by decide) rfl ?_
              refine mJ_iincN hK dX5_nextRule_99 rfl rfl (by decide) rfl ?_
              refine mJ_goto (tgt := 26) hK dX5_nextRule_102 (by decide) ?_
              refine ih (i + 1) (some k) (some (.int (nI k))) _ _ (by omega) (by omega) (fun _ z9 => by cases z9; exact hk) ?_ hR
              rw [hnx, nxL_s c_31, hk0, if_pos c_55, if_pos c_63]
            · exact absurd rfl c_71
          · refine mJ_iload hK dX5_nextRule_66 rfl ?_
            refine mJ_iret hK dX5_nextRule_68 rfl hZ (by decide) (by decide) ?_
            exact ⟨congrArg (fun z9 => some (Value.int z9)) (by rw [hnx, nxL_s c_31, hk0, if_pos c_55, if_neg c_63]; rfl), _, hR⟩
    · have hb9 := hb b9 rfl
      refine mJ_iload_n hK dX5_nextRule_26 rfl ?_
      refine mJ_aload_n hK dX5_nextRule_27 rfl ?_
      refine xJ_getx (nI rn) hR hK dX5_nextRule_28 fX5_72 (by unfold xV; first | omega | (have := hpm k (by omega); omega)) (fun _ _ => rfl) (by decide) rfl (by first | exact hrn | (simp [fr, upd]; exact hrn)) ?_
      refine mJ_nge (tgt := 105) hK dX5_nextRule_31 (by decide) (by omega) (by omega) (fun c_31 => ?_) (fun c_31 => ?_)
      · refine mJ_iload_n hK dX5_nextRule_105 rfl ?_
        refine mJ_iret hK dX5_nextRule_106 rfl hZ (by decide) (by decide) ?_
        have : i = rn := by omega
        subst this
        rw [Nat.sub_self] at hnx
        exact ⟨congrArg (fun z9 => some (Value.int z9)) (by rw [hnx]; rfl), _, hR⟩
      · refine mJ_iload_n hK dX5_nextRule_34 rfl ?_
        refine mJ_iload_n hK dX5_nextRule_35 rfl ?_
        refine mJ_iaddN hK dX5_nextRule_36 ?_
        refine mJ_aload_n hK dX5_nextRule_37 rfl ?_
        refine xJ_getx (nI rn) hR hK dX5_nextRule_38 fX5_72 (by unfold xV; first | omega | (have := hpm k (by omega); omega)) (fun _ _ => rfl) (by decide) rfl (by first | exact hrn | (simp [fr, upd]; exact hrn)) ?_
        refine mJ_iremN hK dX5_nextRule_41 (by omega) (by omega) (by omega) ?_
        generalize hk0 : (s0 + i) % rn = k
        have hk : k < rn := by rw [← hk0]; exact Nat.mod_lt _ (by omega)
        refine mJ_istore hK dX5_nextRule_42 (by decide) rfl ?_
        refine mJ_aload_n hK dX5_nextRule_44 rfl ?_
        refine mJ_aload_n hK dX5_nextRule_45 rfl ?_
        refine xJ_getr hR hK dX5_nextRule_46 fX5_22 (by unfold xV; first | omega | (have := hpm k (by omega); omega)) (fun _ _ => rfl) (by decide) (fun _ _ => rfl) ?_
        refine mJ_iload hK dX5_nextRule_49 rfl ?_
        refine xJ_aldR k hR hK dX5_nextRule_51 (by unfold xV; first | omega | (have := hpm k (by omega); omega)) rfl (by omega) ?_
        refine mJ_cVi hK dX5_nextRule_52 lX5_157 (by unfold mFit; decide) (by decide) (k_X5_isEnabled hR (hpm k (by omega)) hq (hw k (by omega)) (hrd k (by omega))) rfl rfl (Nat.le_of_ble_eq_true rfl) (hR.1 _ _ _ (by unfold xV; first | omega | (have := hpm k (by omega); omega))) ⟨_, _, rfl⟩ (fun h hE => ?_)
        obtain ⟨ch9, hR⟩ := hE
        rw [fr_fr] at hR
        rw [enF_ch]
        refine mJ_ifb_eq (tgt := 99) hK dX5_nextRule_55 (by decide) (fun c_55 => ?_) (fun c_55 => ?_)
        · refine mJ_iincN hK dX5_nextRule_99 rfl rfl (by decide) rfl ?_
          refine mJ_goto (tgt := 26) hK dX5_nextRule_102 (by decide) ?_
          refine ih (i + 1) (some b9) (some (.int (nI k))) _ _ (by omega) (by omega) hb ?_ hR
          rw [hnx, nxL_s c_31, hk0, if_neg c_55]
        · refine mJ_aload_n hK dX5_nextRule_58 rfl ?_
          refine xJ_getx (nI po) hR hK dX5_nextRule_59 fX5_100 (by unfold xV; first | omega | (have := hpm k (by omega); omega)) (fun _ _ => rfl) (by decide) rfl (hpo) ?_
          refine mJ_iconst (v := nI 2) hK dX5_nextRule_62 (by decide) ?_
          refine mJ_neq (tgt := 69) hK dX5_nextRule_63 (by decide) (by omega) (by omega) (fun c_63 => ?_) (fun c_63 => ?_)
          · refine mJ_iload_n hK dX5_nextRule_69 rfl ?_
            refine mJ_iconst (v := -1) hK dX5_nextRule_70 (by decide) ?_
            refine mJ_icmp_eq (tgt := 96) hK dX5_nextRule_71 (by decide) (fun c_71 => ?_) (fun c_71 => ?_)
            · exact absurd c_71 (nI_m1 (by have := hb b9 rfl; omega))
            · refine mJ_aload_n hK dX5_nextRule_74 rfl ?_
              refine xJ_getr hR hK dX5_nextRule_75 fX5_29 (by unfold xV; first | omega | (have := hpm k (by omega); omega)) (fun _ _ => rfl) (by decide) (fun _ _ => rfl) ?_
              refine xJ_getr hR hK dX5_nextRule_78 fX5_81 (by unfold xV; first | omega | (have := hpm k (by omega); omega)) (fun _ _ => rfl) (by decide) (fun _ _ => rfl) ?_
              refine mJ_iload hK dX5_nextRule_81 rfl ?_
              refine xJ_iald k hR hK dX5_nextRule_83 (by unfold xV; first | omega | (have := hpm k (by omega); omega)) (fun _ _ => rfl) rfl (by omega) (by decide) ?_
              refine mJ_aload_n hK dX5_nextRule_84 rfl ?_
              refine xJ_getr hR hK dX5_nextRule_85 fX5_29 (by unfold xV; first | omega | (have := hpm k (by omega); omega)) (fun _ _ => rfl) (by decide) (fun _ _ => rfl) ?_
              refine xJ_getr hR hK dX5_nextRule_88 fX5_81 (by unfold xV; first | omega | (have := hpm k (by omega); omega)) (fun _ _ => rfl) (by decide) (fun _ _ => rfl) ?_
              refine mJ_iload_n hK dX5_nextRule_91 rfl ?_
              refine xJ_iald b9 hR hK dX5_nextRule_92 (by unfold xV; first | omega | (have := hpm k (by omega); omega)) (fun _ _ => rfl) rfl (by omega) (by decide) ?_
              refine mJ_icmp_ge (tgt := 99) hK dX5_nextRule_93 (by decide) (fun c_93 => ?_) (fun c_93 => ?_)
              · refine mJ_iincN hK dX5_nextRule_99 rfl rfl (by decide) rfl ?_
                refine mJ_goto (tgt := 26) hK dX5_nextRule_102 (by decide) ?_
                refine ih (i + 1) (some b9) (some (.int (nI k))) _ _ (by omega) (by omega) hb ?_ hR
                rw [hnx, nxL_s c_31, hk0, if_pos c_55, if_pos c_63]
                dsimp only
                rw [if_neg (show ¬ F 12 0 0 k < F 12 0 0 b9 from Int32.not_lt.mpr c_93)]
              · refine mJ_iload hK dX5_nextRule_96 rfl ?_
                refine mJ_istore_n hK dX5_nextRule_98 (by decide) rfl ?_
                refine mJ_iincN hK dX5_nextRule_99 rfl rfl (by decide) rfl ?_
                refine mJ_goto (tgt := 26) hK dX5_nextRule_102 (by decide) ?_
                refine ih (i + 1) (some k) (some (.int (nI k))) _ _ (by omega) (by omega) (fun _ z9 => by cases z9; exact hk) ?_ hR
                rw [hnx, nxL_s c_31, hk0, if_pos c_55, if_pos c_63]
                dsimp only
                rw [if_pos (show F 12 0 0 k < F 12 0 0 b9 from Int32.not_le.mp c_93)]
          · refine mJ_iload hK dX5_nextRule_66 rfl ?_
            refine mJ_iret hK dX5_nextRule_68 rfl hZ (by decide) (by decide) ?_
            exact ⟨congrArg (fun z9 => some (Value.int z9)) (by rw [hnx, nxL_s c_31, hk0, if_pos c_55, if_neg c_63]; rfl), _, hR⟩

set_option maxRecDepth 100000 in
set_option maxHeartbeats 4000000 in
theorem k_X5_nextRule {l : Launch} {D : va_G} {aC : Nat → ClassId} {ad : xAd} {h0 h : mH} {F : xFm} {W : xWm} {pm : Nat → Nat} (hR : xR xV ad h0 F W pm h) {rn : Nat} (hrn : F 0 0 0 4 = nI rn) (hrn8 : rn ≤ 8) (hpm : ∀ i, i < 9 → pm i < 9) {q : Nat → Nat} (hq : ∀ c, c < 8 → F 13 0 c 3 = nI (q c) ∧ q c ≤ 8) (hw : ∀ i, i < rn → rwf F (pm i)) (hrd : ∀ i, i < rn → rdy F q (pm i)) {po : Nat} (hpo : F 0 0 0 5 = nI po) (hpo2 : po ≤ 2) {st : Nat} (hst : F 7 0 0 4 + nI 1 = nI st) (hst8 : st ≤ 8) {s0 : Nat} (hs0 : s0 = if po = 1 then st else 0) : mCon l D aC mX5_nextRule [.ref (ad 0 0 0)] h (mRi (opI (nxL (fun i => enF F q (pm i)) (F 12 0 0) po rn s0 rn 0 none)) (fun h' => ∃ ch : Nat → Int32, xR xV ad h0 (fr F 4 0 0 ch) W pm h')) := by
  refine mCon.of [some (.ref (ad 0 0 0)), none, none, none, none] (by decide +kernel) rfl (Nat.le_of_ble_eq_true rfl) ?_
  intro K el eD eC hK hZ
  subst el eD eC
  refine mJ_aload_n hK dX5_nextRule_0 rfl ?_
  refine xJ_getx (nI po) hR hK dX5_nextRule_1 fX5_100 (by unfold xV; omega) (fun _ _ => rfl) (by decide) rfl (hpo) ?_
  refine mJ_iconst (v := nI 1) hK dX5_nextRule_4 (by decide) ?_
  refine mJ_nne (tgt := 20) hK dX5_nextRule_5 (by decide) (by omega) (by omega) (fun c_5 => ?_) (fun c_5 => ?_)
  · refine mJ_iconst (v := nI 0) hK dX5_nextRule_20 (by decide) ?_
    refine mJ_istore_n hK dX5_nextRule_21 (by decide) rfl ?_
    refine mJ_iconst (v := -1) hK dX5_nextRule_22 (by decide) ?_
    refine mJ_istore_n hK dX5_nextRule_23 (by decide) rfl ?_
    refine mJ_iconst (v := nI 0) hK dX5_nextRule_24 (by decide) ?_
    refine mJ_istore_n hK dX5_nextRule_25 (by decide) rfl ?_
    have e0 : s0 = 0 := by rw [hs0]; first | exact if_pos (by omega) | exact if_neg (by omega)
    subst e0
    exact lp_X5_nextRule hK hrn hrn8 hpm hq hw hrd hpo hpo2 (by omega) hZ (rn + 1) 0 none none (F 4 0 0) _ (by omega) (by omega) (fun _ z9 => by cases z9) rfl (by rw [fr_self]; exact hR)
  · refine mJ_aload_n hK dX5_nextRule_8 rfl ?_
    refine xJ_getr hR hK dX5_nextRule_9 fX5_29 (by unfold xV; omega) (fun _ _ => rfl) (by decide) (fun _ _ => rfl) ?_
    refine xJ_geti hR hK dX5_nextRule_12 fX5_92 (by unfold xV; omega) (fun _ _ => rfl) (by decide) rfl ?_
    refine mJ_iconst (v := nI 1) hK dX5_nextRule_15 (by decide) ?_
    refine mJ_iadd hK dX5_nextRule_16 ?_
    rw [hst]
    refine mJ_goto (tgt := 21) hK dX5_nextRule_17 (by decide) ?_
    refine mJ_istore_n hK dX5_nextRule_21 (by decide) rfl ?_
    refine mJ_iconst (v := -1) hK dX5_nextRule_22 (by decide) ?_
    refine mJ_istore_n hK dX5_nextRule_23 (by decide) rfl ?_
    refine mJ_iconst (v := nI 0) hK dX5_nextRule_24 (by decide) ?_
    refine mJ_istore_n hK dX5_nextRule_25 (by decide) rfl ?_
    have e0 : s0 = st := by rw [hs0]; first | exact if_pos (by omega) | exact if_neg (by omega)
    subst e0
    exact lp_X5_nextRule hK hrn hrn8 hpm hq hw hrd hpo hpo2 (by omega) hZ (rn + 1) 0 none none (F 4 0 0) _ (by omega) (by omega) (fun _ z9 => by cases z9) rfl (by rw [fr_self]; exact hR)

set_option maxRecDepth 100000 in
set_option maxHeartbeats 4000000 in
theorem k_X5_save {l : Launch} {D : va_G} {aC : Nat → ClassId} {ad : xAd} {h0 h : mH} {F : xFm} {W : xWm} {pm : Nat → Nat} (hR : xR xV ad h0 F W pm h) : mCon l D aC mX5_save [.ref (ad 0 0 0)] h (mRi (msm (fun c => xSc F 1 0 13 0 c 3) 8) (fun h' => xR xV ad h0 (fr (xSc F 1 0) 0 0 0 (upd (xSc F 1 0 0 0 0) 8 (nI 1))) (xWpE W 1 0 8) pm h')) := by
  refine mCon.of [some (.ref (ad 0 0 0))] (by decide +kernel) rfl (Nat.le_of_ble_eq_true rfl) ?_
  intro K el eD eC hK hZ
  subst el eD eC
  refine mJ_aload_n hK dX5_save_0 rfl ?_
  refine xJ_getr hR hK dX5_save_1 fX5_33 (by unfold xV; omega) (fun _ _ => rfl) (by decide) (fun _ _ => rfl) ?_
  refine mJ_aload_n hK dX5_save_4 rfl ?_
  refine xJ_getr hR hK dX5_save_5 fX5_29 (by unfold xV; omega) (fun _ _ => rfl) (by decide) (fun _ _ => rfl) ?_
  refine mJ_cVv hK dX5_save_8 lX5_206 (by unfold mFit; decide) (by decide) (k_X3_copyFrom hR (s := 1) (t := 0) (by omega) (by omega) (by omega)) rfl rfl (Nat.le_of_ble_eq_true rfl) (hR.1 _ _ _ (by unfold xV; omega)) ⟨_, _, rfl⟩ (fun h hR => ?_)
  refine mJ_aload_n hK dX5_save_11 rfl ?_
  refine mJ_iconst (v := nI 1) hK dX5_save_12 (by decide) ?_
  refine xJ_puti hR hK dX5_save_13 fX5_84 sX5_8 (by decide) (by decide) (by unfold xV; omega) (fun _ _ => rfl) (by decide) rfl (fun h hR => ?_)
  refine mJ_aload_n hK dX5_save_16 rfl ?_
  refine xJ_getr hR hK dX5_save_17 fX5_29 (by unfold xV; omega) (fun _ _ => rfl) (by decide) (fun _ _ => rfl) ?_
  refine mJ_cVi hK dX5_save_20 lX5_210 (by unfold mFit; decide) (by decide) (k_X3_messageCount hR (s := 0) (by omega)) rfl rfl (Nat.le_of_ble_eq_true rfl) (hR.1 _ _ _ (by unfold xV; omega)) ⟨_, _, rfl⟩ (fun h e9 => ?_)
  subst e9
  refine mJ_iret hK dX5_save_23 rfl hZ (by decide) (by decide) ?_
  exact ⟨rfl, hR⟩

set_option maxRecDepth 100000 in
set_option maxHeartbeats 4000000 in
theorem k_X5_restore {l : Launch} {D : va_G} {aC : Nat → ClassId} {ad : xAd} {h0 h : mH} {F : xFm} {W : xWm} {pm : Nat → Nat} (hR : xR xV ad h0 F W pm h) (hk : F 0 0 0 8 = nI 1) : mCon l D aC mX5_restore [.ref (ad 0 0 0)] h (mRi (msm (fun c => xSc F 0 1 13 0 c 3) 8) (fun h' => xR xV ad h0 (xSc F 0 1) (xWpE W 0 1 8) pm h')) := by
  refine mCon.of [some (.ref (ad 0 0 0))] (by decide +kernel) rfl (Nat.le_of_ble_eq_true rfl) ?_
  intro K el eD eC hK hZ
  subst el eD eC
  refine mJ_aload_n hK dX5_restore_0 rfl ?_
  refine xJ_getx (nI 1) hR hK dX5_restore_1 fX5_84 (by unfold xV; omega) (fun _ _ => rfl) (by decide) rfl (hk) ?_
  refine mJ_nif_ne (tgt := 17) hK dX5_restore_4 (by decide) (by omega) (fun c_4 => ?_) (fun c_4 => ?_)
  · refine mJ_aload_n hK dX5_restore_17 rfl ?_
    refine xJ_getr hR hK dX5_restore_18 fX5_29 (by unfold xV; omega) (fun _ _ => rfl) (by decide) (fun _ _ => rfl) ?_
    refine mJ_aload_n hK dX5_restore_21 rfl ?_
    refine xJ_getr hR hK dX5_restore_22 fX5_33 (by unfold xV; omega) (fun _ _ => rfl) (by decide) (fun _ _ => rfl) ?_
    refine mJ_cVv hK dX5_restore_25 lX5_206 (by unfold mFit; decide) (by decide) (k_X3_copyFrom hR (s := 0) (t := 1) (by omega) (by omega) (by omega)) rfl rfl (Nat.le_of_ble_eq_true rfl) (hR.1 _ _ _ (by unfold xV; omega)) ⟨_, _, rfl⟩ (fun h hR => ?_)
    refine mJ_aload_n hK dX5_restore_28 rfl ?_
    refine xJ_getr hR hK dX5_restore_29 fX5_29 (by unfold xV; omega) (fun _ _ => rfl) (by decide) (fun _ _ => rfl) ?_
    refine mJ_cVi hK dX5_restore_32 lX5_210 (by unfold mFit; decide) (by decide) (k_X3_messageCount hR (s := 0) (by omega)) rfl rfl (Nat.le_of_ble_eq_true rfl) (hR.1 _ _ _ (by unfold xV; omega)) ⟨_, _, rfl⟩ (fun h e9 => ?_)
    subst e9
    refine mJ_iret hK dX5_restore_35 rfl hZ (by decide) (by decide) ?_
    exact ⟨rfl, hR⟩
  · exact absurd c_4 (by omega)

set_option maxRecDepth 100000 in
set_option maxHeartbeats 4000000 in
theorem k_X5_restore_x {l : Launch} {D : va_G} {aC : Nat → ClassId} {ad : xAd} {h0 h : mH} {F : xFm} {W : xWm} {pm : Nat → Nat} (hR : xR xV ad h0 F W pm h) (hk : F 0 0 0 8 = nI 0) : mXon l D aC mX5_restore [.ref (ad 0 0 0)] h (fun _ _ => False) (fun E h' => E = "java/lang/IllegalStateException" ∧ h' = h) := by
  refine mXon.of [some (.ref (ad 0 0 0))] (by decide +kernel) rfl (Nat.le_of_ble_eq_true rfl) ?_
  intro K el eD eC hK hZ hX
  subst el eD eC
  refine mJ_aload_n hK dX5_restore_0 rfl ?_
  refine xJ_getx (nI 0) hR hK dX5_restore_1 fX5_84 (by unfold xV; omega) (fun _ _ => rfl) (by decide) rfl (hk) ?_
  refine mJ_nif_ne (tgt := 17) hK dX5_restore_4 (by decide) (by omega) (fun c_4 => ?_) (fun c_4 => ?_)
  · exact absurd c_4 (by omega)
  · refine mJ_throw (text := "there is no saved state") hK hX tw_57 (by decide +kernel) dX5_restore_7 dX5_restore_10 dX5_restore_11 dX5_restore_13 dX5_restore_16 (by decide) (Nat.le_of_ble_eq_true rfl) (by decide) (by decide) ?_
    exact ⟨rfl, rfl⟩

def xTi (F : xFm) : xFm := fr F 7 0 0 (upd (F 7 0 0) 3 (F 7 0 0 3 + nI 1))
set_option maxRecDepth 100000 in
set_option maxHeartbeats 4000000 in
theorem k_X5_send_s {l : Launch} {D : va_G} {aC : Nat → ClassId} {ad : xAd} {h0 h : mH} {F : xFm} {W : xWm} {pm : Nat → Nat} (hR : xR xV ad h0 F W pm h) {c : Nat} (hc4 : c < 4) {n : Nat} (hn : F 13 0 c 3 = nI n) (hn8 : n ≤ 8) (hn9 : n < 8) {x : Int32} (hx1 : -9999 ≤ x) (hx2 : x ≤ nI 9999) {g : Nat} (hg : F 9 0 0 2 = nI g) (hgb : g < 1000000) : mCon l D aC mX5_send [.ref (ad 0 0 0), .int (nI c), .int x] h (mRi (nI g) (fun h' => xR xV ad h0 (xPut (xGv (xTi F) 0 g) 0 c n x (F 7 0 0 3 + nI 1) (nI g)) W pm h')) := by
  refine mCon.of [some (.ref (ad 0 0 0)), some (.int (nI c)), some (.int x), none, none] (by decide +kernel) rfl (Nat.le_of_ble_eq_true rfl) ?_
  intro K el eD eC hK hZ
  subst el eD eC
  have hc : c < 8 := by omega
  refine mJ_iload_n hK dX5_send_0 rfl ?_
  refine mJ_cSv hK dX5_send_1 lX5_103 (by unfold mFit; decide) (by decide) (k_X5_requireChannel hc) rfl rfl (Nat.le_of_ble_eq_true rfl) (fun h e9 => ?_)
  subst e9
  refine mJ_iload_n hK dX5_send_4 rfl ?_
  refine mJ_sipush (v := -9999) hK dX5_send_5 (by decide) ?_
  refine mJ_icmp_lt (tgt := 18) hK dX5_send_8 (by decide) (fun c_8 => ?_) (fun c_8 => ?_)
  · exact absurd hx1 (Int32.not_le.mpr c_8)
  · refine mJ_iload_n hK dX5_send_11 rfl ?_
    refine mJ_sipush (v := nI 9999) hK dX5_send_12 (by decide) ?_
    refine mJ_icmp_le (tgt := 28) hK dX5_send_15 (by decide) (fun c_15 => ?_) (fun c_15 => ?_)
    · refine mJ_aload_n hK dX5_send_28 rfl ?_
      refine xJ_getr hR hK dX5_send_29 fX5_29 (by unfold xV; omega) (fun _ _ => rfl) (by decide) (fun _ _ => rfl) ?_
      refine xJ_getr hR hK dX5_send_32 fX5_108 (by unfold xV; omega) (fun _ _ => rfl) (by decide) (fun _ _ => rfl) ?_
      refine mJ_iload_n hK dX5_send_35 rfl ?_
      refine xJ_aldC c hR hK dX5_send_36 (by unfold xV; omega) rfl (by omega) ?_
      refine mJ_astore_n hK dX5_send_37 (by decide) rfl ?_
      refine mJ_aload_n hK dX5_send_38 rfl ?_
      refine mJ_cVi hK dX5_send_39 lX5_112 (by unfold mFit; decide) (by decide) (k_X0_isFull hR (by omega) hc hn hn8) rfl rfl (Nat.le_of_ble_eq_true rfl) (hR.1 _ _ _ (by unfold xV; omega)) ⟨_, _, rfl⟩ (fun h e9 => ?_)
      subst e9
      refine mJ_ifb_eq (tgt := 55) hK dX5_send_42 (by decide) (fun c_42 => ?_) (fun c_42 => ?_)
      · refine mJ_aload_n hK dX5_send_55 rfl ?_
        refine xJ_getr hR hK dX5_send_56 fX5_29 (by unfold xV; omega) (fun _ _ => rfl) (by decide) (fun _ _ => rfl) ?_
        refine mJ_dup hK dX5_send_59 rfl ?_
        refine xJ_geti hR hK dX5_send_60 fX5_119 (by unfold xV; omega) (fun _ _ => rfl) (by decide) rfl ?_
        refine mJ_iconst (v := nI 1) hK dX5_send_63 (by decide) ?_
        refine mJ_iadd hK dX5_send_64 ?_
        refine xJ_puti hR hK dX5_send_65 fX5_119 sX3_3 rfl rfl (by unfold xV; omega) (fun _ _ => rfl) (by decide) rfl (fun h hR => ?_)
        refine mJ_iload_n hK dX5_send_68 rfl ?_
        refine mJ_iconst (v := nI 4) hK dX5_send_69 (by decide) ?_
        refine mJ_nge (tgt := 86) hK dX5_send_70 (by decide) (by omega) (by omega) (fun c_70 => ?_) (fun c_70 => ?_)
        · exact absurd c_70 (by omega)
        · refine mJ_aload_n hK dX5_send_73 rfl ?_
          refine xJ_getr hR hK dX5_send_74 fX5_29 (by unfold xV; omega) (fun _ _ => rfl) (by decide) (fun _ _ => rfl) ?_
          refine xJ_getr hR hK dX5_send_77 fX5_122 (by unfold xV; omega) (fun _ _ => rfl) (by decide) (fun _ _ => rfl) ?_
          refine mJ_cVi hK dX5_send_80 lX5_126 (by unfold mFit; decide) (by decide) (k_X4_give hR (by omega) hg hgb) rfl rfl (Nat.le_of_ble_eq_true rfl) (hR.1 _ _ _ (by unfold xV; omega)) ⟨_, _, rfl⟩ (fun h hR => ?_)
          refine mJ_goto (tgt := 87) hK dX5_send_83 (by decide) ?_
          refine mJ_istore hK dX5_send_87 (by decide) rfl ?_
          refine mJ_aload_n hK dX5_send_89 rfl ?_
          refine mJ_iload_n hK dX5_send_90 rfl ?_
          refine mJ_aload_n hK dX5_send_91 rfl ?_
          refine xJ_getr hR hK dX5_send_92 fX5_29 (by unfold xV; omega) (fun _ _ => rfl) (by decide) (fun _ _ => rfl) ?_
          refine xJ_geti hR hK dX5_send_95 fX5_119 (by unfold xV; omega) (fun _ _ => rfl) (by decide) rfl ?_
          refine mJ_iload hK dX5_send_98 rfl ?_
          refine mJ_cVv hK dX5_send_100 lX5_131 (by unfold mFit; decide) (by decide) (k_X0_put hR (by omega) hc hn hn9 _ _ _) rfl rfl (Nat.le_of_ble_eq_true rfl) (hR.1 _ _ _ (by unfold xV; omega)) ⟨_, _, rfl⟩ (fun h hR => ?_)
          refine mJ_iload hK dX5_send_103 rfl ?_
          refine mJ_iret hK dX5_send_105 rfl hZ (by decide) (by decide) ?_
          exact ⟨rfl, xR_ext hR (by simp [xTi, xGv, xPut, fr, upd])⟩
      · exact absurd c_42 (by omega)
    · exact absurd hx2 c_15

set_option maxRecDepth 100000 in
set_option maxHeartbeats 4000000 in
theorem k_X5_send_a {l : Launch} {D : va_G} {aC : Nat → ClassId} {ad : xAd} {h0 h : mH} {F : xFm} {W : xWm} {pm : Nat → Nat} (hR : xR xV ad h0 F W pm h) {c : Nat} (hc4 : 4 ≤ c) (hc : c < 8) {n : Nat} (hn : F 13 0 c 3 = nI n) (hn8 : n ≤ 8) (hn9 : n < 8) {x : Int32} (hx1 : -9999 ≤ x) (hx2 : x ≤ nI 9999) : mCon l D aC mX5_send [.ref (ad 0 0 0), .int (nI c), .int x] h (mRi (-1) (fun h' => xR xV ad h0 (xPut (xTi F) 0 c n x (F 7 0 0 3 + nI 1) (-1)) W pm h')) := by
  refine mCon.of [some (.ref (ad 0 0 0)), some (.int (nI c)), some (.int x), none, none] (by decide +kernel) rfl (Nat.le_of_ble_eq_true rfl) ?_
  intro K el eD eC hK hZ
  subst el eD eC
  refine mJ_iload_n hK dX5_send_0 rfl ?_
  refine mJ_cSv hK dX5_send_1 lX5_103 (by unfold mFit; decide) (by decide) (k_X5_requireChannel hc) rfl rfl (Nat.le_of_ble_eq_true rfl) (fun h e9 => ?_)
  subst e9
  refine mJ_iload_n hK dX5_send_4 rfl ?_
  refine mJ_sipush (v := -9999) hK dX5_send_5 (by decide) ?_
  refine mJ_icmp_lt (tgt := 18) hK dX5_send_8 (by decide) (fun c_8 => ?_) (fun c_8 => ?_)
  · exact absurd hx1 (Int32.not_le.mpr c_8)
  · refine mJ_iload_n hK dX5_send_11 rfl ?_
    refine mJ_sipush (v := nI 9999) hK dX5_send_12 (by decide) ?_
    refine mJ_icmp_le (tgt := 28) hK dX5_send_15 (by decide) (fun c_15 => ?_) (fun c_15 => ?_)
    · refine mJ_aload_n hK dX5_send_28 rfl ?_
      refine xJ_getr hR hK dX5_send_29 fX5_29 (by unfold xV; omega) (fun _ _ => rfl) (by decide) (fun _ _ => rfl) ?_
      refine xJ_getr hR hK dX5_send_32 fX5_108 (by unfold xV; omega) (fun _ _ => rfl) (by decide) (fun _ _ => rfl) ?_
      refine mJ_iload_n hK dX5_send_35 rfl ?_
      refine xJ_aldC c hR hK dX5_send_36 (by unfold xV; omega) rfl (by omega) ?_
      refine mJ_astore_n hK dX5_send_37 (by decide) rfl ?_
      refine mJ_aload_n hK dX5_send_38 rfl ?_
      refine mJ_cVi hK dX5_send_39 lX5_112 (by unfold mFit; decide) (by decide) (k_X0_isFull hR (by omega) hc hn hn8) rfl rfl (Nat.le_of_ble_eq_true rfl) (hR.1 _ _ _ (by unfold xV; omega)) ⟨_, _, rfl⟩ (fun h e9 => ?_)
      subst e9
      refine mJ_ifb_eq (tgt := 55) hK dX5_send_42 (by decide) (fun c_42 => ?_) (fun c_42 => ?_)
      · refine mJ_aload_n hK dX5_send_55 rfl ?_
        refine xJ_getr hR hK dX5_send_56 fX5_29 (by unfold xV; omega) (fun _ _ => rfl) (by decide) (fun _ _ => rfl) ?_
        refine mJ_dup hK dX5_send_59 rfl ?_
        refine xJ_geti hR hK dX5_send_60 fX5_119 (by unfold xV; omega) (fun _ _ => rfl) (by decide) rfl ?_
        refine mJ_iconst (v := nI 1) hK dX5_send_63 (by decide) ?_
        refine mJ_iadd hK dX5_send_64 ?_
        refine xJ_puti hR hK dX5_send_65 fX5_119 sX3_3 rfl rfl (by unfold xV; omega) (fun _ _ => rfl) (by decide) rfl (fun h hR => ?_)
        refine mJ_iload_n hK dX5_send_68 rfl ?_
        refine mJ_iconst (v := nI 4) hK dX5_send_69 (by decide) ?_
        refine mJ_nge (tgt := 86) hK dX5_send_70 (by decide) (by omega) (by omega) (fun c_70 => ?_) (fun c_70 => ?_)
        · refine mJ_iconst (v := -1) hK dX5_send_86 (by decide) ?_
          refine mJ_istore hK dX5_send_87 (by decide) rfl ?_
          refine mJ_aload_n hK dX5_send_89 rfl ?_
          refine mJ_iload_n hK dX5_send_90 rfl ?_
          refine mJ_aload_n hK dX5_send_91 rfl ?_
          refine xJ_getr hR hK dX5_send_92 fX5_29 (by unfold xV; omega) (fun _ _ => rfl) (by decide) (fun _ _ => rfl) ?_
          refine xJ_geti hR hK dX5_send_95 fX5_119 (by unfold xV; omega) (fun _ _ => rfl) (by decide) rfl ?_
          refine mJ_iload hK dX5_send_98 rfl ?_
          refine mJ_cVv hK dX5_send_100 lX5_131 (by unfold mFit; decide) (by decide) (k_X0_put hR (by omega) hc hn hn9 _ _ _) rfl rfl (Nat.le_of_ble_eq_true rfl) (hR.1 _ _ _ (by unfold xV; omega)) ⟨_, _, rfl⟩ (fun h hR => ?_)
          refine mJ_iload hK dX5_send_103 rfl ?_
          refine mJ_iret hK dX5_send_105 rfl hZ (by decide) (by decide) ?_
          exact ⟨rfl, xR_ext hR (by simp [xTi, xPut, fr, upd])⟩
        · exact absurd c_70 (by omega)
      · exact absurd c_42 (by omega)
    · exact absurd hx2 c_15

set_option maxRecDepth 100000 in
set_option maxHeartbeats 4000000 in
theorem k_X5_send_x1 {l : Launch} {D : va_G} {aC : Nat → ClassId} {ad : xAd} {h0 h : mH} {F : xFm} {W : xWm} {pm : Nat → Nat} (hR : xR xV ad h0 F W pm h) {x : Int32} (hx : ¬ (0 ≤ x ∧ x < nI 8)) (y : Int32) : mXon l D aC mX5_send [.ref (ad 0 0 0), .int x, .int y] h (fun _ _ => False) (fun E h' => E = "java/lang/IndexOutOfBoundsException" ∧ h' = h) := by
  refine mXon.of [some (.ref (ad 0 0 0)), some (.int x), some (.int y), none, none] (by decide +kernel) rfl (Nat.le_of_ble_eq_true rfl) ?_
  intro K el eD eC hK hZ hX
  subst el eD eC
  refine mJ_iload_n hK dX5_send_0 rfl ?_
  exact mJ_xS hK hX dX5_send_1 lX5_103 (by unfold mFit; decide) (by decide) (k_X5_requireChannel_x hx) (fun _ _ z => z) rfl rfl (Nat.le_of_ble_eq_true rfl)

set_option maxRecDepth 100000 in
set_option maxHeartbeats 4000000 in
theorem k_X5_send_x2 {l : Launch} {D : va_G} {aC : Nat → ClassId} {ad : xAd} {h0 h : mH} {F : xFm} {W : xWm} {pm : Nat → Nat} (hR : xR xV ad h0 F W pm h) {c : Nat} (hc : c < 8) {y : Int32} (hy : ¬ (-9999 ≤ y ∧ y ≤ nI 9999)) : mXon l D aC mX5_send [.ref (ad 0 0 0), .int (nI c), .int y] h (fun _ _ => False) (fun E h' => E = "java/lang/IllegalArgumentException" ∧ h' = h) := by
  refine mXon.of [some (.ref (ad 0 0 0)), some (.int (nI c)), some (.int y), none, none] (by decide +kernel) rfl (Nat.le_of_ble_eq_true rfl) ?_
  intro K el eD eC hK hZ hX
  subst el eD eC
  refine mJ_iload_n hK dX5_send_0 rfl ?_
  refine mJ_cSv hK dX5_send_1 lX5_103 (by unfold mFit; decide) (by decide) (k_X5_requireChannel hc) rfl rfl (Nat.le_of_ble_eq_true rfl) (fun h e9 => ?_)
  subst e9
  refine mJ_iload_n hK dX5_send_4 rfl ?_
  refine mJ_sipush (v := -9999) hK dX5_send_5 (by decide) ?_
  refine mJ_icmp_lt (tgt := 18) hK dX5_send_8 (by decide) (fun c_8 => ?_) (fun c_8 => ?_)
  · refine mJ_throw (text := "the value is not -9999 to 9999") hK hX tw_46 (by decide +kernel) dX5_send_18 dX5_send_21 dX5_send_22 dX5_send_24 dX5_send_27 (by decide) (Nat.le_of_ble_eq_true rfl) (by decide) (by decide) ?_
    exact ⟨rfl, rfl⟩
  · refine mJ_iload_n hK dX5_send_11 rfl ?_
    refine mJ_sipush (v := nI 9999) hK dX5_send_12 (by decide) ?_
    refine mJ_icmp_le (tgt := 28) hK dX5_send_15 (by decide) (fun c_15 => ?_) (fun c_15 => ?_)
    · exact absurd ⟨Int32.not_lt.mp c_8, c_15⟩ hy
    · refine mJ_throw (text := "the value is not -9999 to 9999") hK hX tw_46 (by decide +kernel) dX5_send_18 dX5_send_21 dX5_send_22 dX5_send_24 dX5_send_27 (by decide) (Nat.le_of_ble_eq_true rfl) (by decide) (by decide) ?_
      exact ⟨rfl, rfl⟩

set_option maxRecDepth 100000 in
set_option maxHeartbeats 4000000 in
theorem k_X5_send_x3 {l : Launch} {D : va_G} {aC : Nat → ClassId} {ad : xAd} {h0 h : mH} {F : xFm} {W : xWm} {pm : Nat → Nat} (hR : xR xV ad h0 F W pm h) {c : Nat} (hc : c < 8) (hn : F 13 0 c 3 = nI 8) {x : Int32} (hx1 : -9999 ≤ x) (hx2 : x ≤ nI 9999) : mXon l D aC mX5_send [.ref (ad 0 0 0), .int (nI c), .int x] h (fun _ _ => False) (fun E h' => E = "java/lang/IllegalStateException" ∧ h' = h) := by
  refine mXon.of [some (.ref (ad 0 0 0)), some (.int (nI c)), some (.int x), none, none] (by decide +kernel) rfl (Nat.le_of_ble_eq_true rfl) ?_
  intro K el eD eC hK hZ hX
  subst el eD eC
  refine mJ_iload_n hK dX5_send_0 rfl ?_
  refine mJ_cSv hK dX5_send_1 lX5_103 (by unfold mFit; decide) (by decide) (k_X5_requireChannel hc) rfl rfl (Nat.le_of_ble_eq_true rfl) (fun h e9 => ?_)
  subst e9
  refine mJ_iload_n hK dX5_send_4 rfl ?_
  refine mJ_sipush (v := -9999) hK dX5_send_5 (by decide) ?_
  refine mJ_icmp_lt (tgt := 18) hK dX5_send_8 (by decide) (fun c_8 => ?_) (fun c_8 => ?_)
  · exact absurd hx1 (Int32.not_le.mpr c_8)
  · refine mJ_iload_n hK dX5_send_11 rfl ?_
    refine mJ_sipush (v := nI 9999) hK dX5_send_12 (by decide) ?_
    refine mJ_icmp_le (tgt := 28) hK dX5_send_15 (by decide) (fun c_15 => ?_) (fun c_15 => ?_)
    · refine mJ_aload_n hK dX5_send_28 rfl ?_
      refine xJ_getr hR hK dX5_send_29 fX5_29 (by unfold xV; omega) (fun _ _ => rfl) (by decide) (fun _ _ => rfl) ?_
      refine xJ_getr hR hK dX5_send_32 fX5_108 (by unfold xV; omega) (fun _ _ => rfl) (by decide) (fun _ _ => rfl) ?_
      refine mJ_iload_n hK dX5_send_35 rfl ?_
      refine xJ_aldC c hR hK dX5_send_36 (by unfold xV; omega) rfl (by omega) ?_
      refine mJ_astore_n hK dX5_send_37 (by decide) rfl ?_
      refine mJ_aload_n hK dX5_send_38 rfl ?_
      refine mJ_cVi hK dX5_send_39 lX5_112 (by unfold mFit; decide) (by decide) (k_X0_isFull hR (by omega) hc hn (by omega)) rfl rfl (Nat.le_of_ble_eq_true rfl) (hR.1 _ _ _ (by unfold xV; omega)) ⟨_, _, rfl⟩ (fun h e9 => ?_)
      subst e9
      refine mJ_ifb_eq (tgt := 55) hK dX5_send_42 (by decide) (fun c_42 => ?_) (fun c_42 => ?_)
      · exact absurd (Nat.le_refl 8) c_42
      · refine mJ_throw (text := "the queue has 8 messages") hK hX tw_57 (by decide +kernel) dX5_send_45 dX5_send_48 dX5_send_49 dX5_send_51 dX5_send_54 (by decide) (Nat.le_of_ble_eq_true rfl) (by decide) (by decide) ?_
        exact ⟨rfl, rfl⟩
    · exact absurd hx2 c_15
