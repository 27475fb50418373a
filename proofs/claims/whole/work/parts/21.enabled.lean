set_option maxRecDepth 100000 in
set_option maxHeartbeats 4000000 in
theorem k_X5_findMatch {l : Launch} {D : va_G} {aC : Nat → ClassId} {ad : xAd} {h0 h : mH} {F : xFm} {W : xWm} {pm : Nat → Nat} (hR : xR xV ad h0 F W pm h) {r : Nat} (hr : r < 9) {q : Nat → Nat} (hq : ∀ c, c < 8 → F 13 0 c 3 = nI (q c) ∧ q c ≤ 8) {gl gr le re : Nat} (hgl : F 17 r 0 1 = nI gl) (hgr : F 17 r 0 3 = nI gr) (hgl18 : gl < 18) (hgr18 : gr < 18) (hle : le = if gl < 8 then q gl else 1) (hre : re = if gr < 8 then q gr else 1) {fm : Option (Nat × Nat)} (hfm : fm = if F 17 r 0 0 &&& wtM q = F 17 r 0 0 then fI (mtT F r gl gr) re le 0 else none) : mCon l D aC mX5_findMatch [.ref (ad 0 0 0), .ref (ad 17 r 0)] h (mRi (bI (fm.isSome = true)) (fun h' => ∃ ch : Nat → Int32, xR xV ad h0 (fr F 4 0 0 ch) W pm h' ∧ ∀ i j, fm = some (i, j) → ∀ c, c < 8 → ch c = chs gl gr i j c)) := by
  refine mCon.of [some (.ref (ad 0 0 0)), some (.ref (ad 17 r 0)), none, none, none, none, none, none, none] (by decide +kernel) rfl (Nat.le_of_ble_eq_true rfl) ?_
  intro K el eD eC hK hZ
  subst el eD eC
  refine mJ_aload_n hK dX5_findMatch_0 rfl ?_
  refine mJ_aload_n hK dX5_findMatch_1 rfl ?_
  refine mJ_cVi hK dX5_findMatch_2 lX5_151 (by unfold mFit; decide) (by decide) (k_X5_waitingChannels hR hq) rfl rfl (Nat.le_of_ble_eq_true rfl) (hR.1 _ _ _ (by unfold xV; omega)) ⟨_, _, rfl⟩ (fun h e9 => ?_)
  subst e9
  refine mJ_cVi hK dX5_findMatch_5 lX5_154 (by unfold mFit; decide) (by decide) (k_X1_isReady hR hr _) rfl rfl (Nat.le_of_ble_eq_true rfl) (hR.1 _ _ _ (by unfold xV; omega)) ⟨_, _, rfl⟩ (fun h e9 => ?_)
  subst e9
  refine mJ_ifb_ne (tgt := 13) hK dX5_findMatch_8 (by decide) (fun c_8 => ?_) (fun c_8 => ?_)
  · refine mJ_aload_n hK dX5_findMatch_13 rfl ?_
    refine xJ_getr hR hK dX5_findMatch_14 fX5_36 (by unfold xV; omega) (fun _ _ => rfl) (by decide) (fun _ _ => rfl) ?_
    refine mJ_iconst (v := nI 0) hK dX5_findMatch_17 (by decide) ?_
    refine mJ_cSv hK dX5_findMatch_18 lX5_258 (by unfold mFit; decide) (by decide) (k_J7_fill hR _) rfl rfl (Nat.le_of_ble_eq_true rfl) (fun h hR => ?_)
    refine mJ_aload_n hK dX5_findMatch_21 rfl ?_
    refine xJ_getx (nI gl) hR hK dX5_findMatch_22 fX5_264 (by unfold xV; omega) (fun _ _ => rfl) (by decide) rfl (hgl) ?_
    refine mJ_istore_n hK dX5_findMatch_25 (by decide) rfl ?_
    refine mJ_aload_n hK dX5_findMatch_26 rfl ?_
    refine xJ_getx (nI gr) hR hK dX5_findMatch_27 fX5_267 (by unfold xV; omega) (fun _ _ => rfl) (by decide) rfl (hgr) ?_
    refine mJ_istore_n hK dX5_findMatch_30 (by decide) rfl ?_
    refine mJ_aload_n hK dX5_findMatch_31 rfl ?_
    refine mJ_iload_n hK dX5_findMatch_32 rfl ?_
    refine mJ_cVi hK dX5_findMatch_33 lX5_270 (by unfold mFit; decide) (by decide) (k_X5_choicesOf hR hq (a := gl) (n := le) (by omega) hle) rfl rfl (Nat.le_of_ble_eq_true rfl) (hR.1 _ _ _ (by unfold xV; omega)) ⟨_, _, rfl⟩ (fun h e9 => ?_)
    subst e9
    refine mJ_istore hK dX5_findMatch_36 (by decide) rfl ?_
    refine mJ_aload_n hK dX5_findMatch_38 rfl ?_
    refine mJ_iload_n hK dX5_findMatch_39 rfl ?_
    refine mJ_cVi hK dX5_findMatch_40 lX5_270 (by unfold mFit; decide) (by decide) (k_X5_choicesOf hR hq (a := gr) (n := re) (by omega) hre) rfl rfl (Nat.le_of_ble_eq_true rfl) (hR.1 _ _ _ (by unfold xV; omega)) ⟨_, _, rfl⟩ (fun h e9 => ?_)
    subst e9
    refine mJ_istore hK dX5_findMatch_43 (by decide) rfl ?_
    refine mJ_iconst (v := nI 0) hK dX5_findMatch_45 (by decide) ?_
    refine mJ_istore hK dX5_findMatch_46 (by decide) rfl ?_
    exact lp_X5_findMatch hK hr hq hgl hgr hgl18 hgr18 hle hre (z := zf (F 4 0 0) (nI 0) 8) (fun c hc => by unfold zf; rw [if_pos hc]) hZ (le + 1) 0 none none _ (by omega) (by omega) (by rw [hfm, if_pos c_8]; rfl) hR
  · refine mJ_iconst (v := nI 0) hK dX5_findMatch_11 (by decide) ?_
    refine mJ_zret hK dX5_findMatch_12 rfl (by decide) hZ (by decide) (by decide) ?_
    exact ⟨congrArg (fun z9 => some (Value.int z9)) (by rw [hfm, if_neg c_8]; exact (bI_f (fun z9 => by cases z9)).symm), F 4 0 0, by rw [fr_self]; exact hR, fun i9 j9 h9 => by rw [hfm, if_neg c_8] at h9; cases h9⟩

abbrev rmQ (F : xFm) (r : Nat) (q : Nat → Nat) (m c : Nat) : Prop := q c - (if usP (F 17 r 0 0) (nI c) then 1 else 0) + snN (F 19 r 0) (F 18 r 0) (nI c) m ≤ 8
def rmB (F : xFm) (r : Nat) (q : Nat → Nat) (m : Nat) : Bool := (List.range 8).all (fun c => decide (rmQ F r q m c))
theorem rmB_iff {F : xFm} {r : Nat} {q : Nat → Nat} {m : Nat} : rmB F r q m = true ↔ ∀ c, c < 8 → rmQ F r q m c := by
  unfold rmB
  rw [List.all_eq_true]
  constructor
  · intro h c hc
    exact of_decide_eq_true (h c (List.mem_range.mpr hc))
  · intro h c hc
    exact decide_eq_true (h c (List.mem_range.mp hc))
set_option maxRecDepth 100000 in
set_option maxHeartbeats 4000000 in
theorem lp_X5_hasRoom {K : mK} (hK : mCx K mX5_hasRoom) {ad : xAd} {h0 : mH} {F : xFm} {W : xWm} {pm : Nat → Nat} {r : Nat} (hr : r < 9) {q : Nat → Nat} (hq : ∀ c, c < 8 → F 13 0 c 3 = nI (q c) ∧ q c ≤ 8) {m : Nat} (hm : F 17 r 0 5 = nI m) (hm4 : m ≤ 4) (hrd : ∀ c, c < 8 → usP (F 17 r 0 0) (nI c) → 0 < q c) {h9 : mH} (hZ : mRt K mX5_hasRoom (mRi (bI (rmB F r q m = true)) (fun h' => h' = h9))) : ∀ (fu : Nat) (e : Nat) (u : Option Value) (h : mH), 8 - e < fu → (e ≤ 8) → (h = h9) → (∀ c, c < e → rmQ F r q m c) → (xR xV ad h0 F W pm h) → mJ K 0 0 2 [some (.ref (ad 0 0 0)), some (.ref (ad 17 r 0)), some (.int (nI e)), u] [] h := by
  intro fu
  induction fu with
  | zero =>
    intro e u h hm0
    exact absurd hm0 (by omega)
  | succ fu ih =>
    intro e u h hm0 he eh hin hR
    refine mJ_iload_n hK dX5_hasRoom_2 rfl ?_
    refine mJ_bipush (v := nI 8) hK dX5_hasRoom_3 (by decide) ?_
    refine mJ_nge (tgt := 55) hK dX5_hasRoom_5 (by decide) (by first | omega | (have := (hq e (by omega)).2; have := snN_le (q := F 19 r 0) (t := F 18 r 0) (c := nI e) m; omega) | (have := hrd e (by omega) c_25; omega)) (by first | omega | (have := (hq e (by omega)).2; have := snN_le (q := F 19 r 0) (t := F 18 r 0) (c := nI e) m; omega) | (have := hrd e (by omega) c_25; omega)) (fun c_5 => ?_) (fun c_5 => ?_)
    · refine mJ_iconst (v := nI 1) hK dX5_hasRoom_55 (by decide) ?_
      refine mJ_zret hK dX5_hasRoom_56 rfl (by decide) hZ (by decide) (by decide) ?_
      have : e = 8 := by omega
      subst this
      exact ⟨congrArg (fun z9 => some (Value.int z9)) (b1 (rmB_iff.mpr hin)), eh⟩
    · refine mJ_aload_n hK dX5_hasRoom_8 rfl ?_
      refine xJ_getr hR hK dX5_hasRoom_9 fX5_29 (by unfold xV; omega) (fun _ _ => rfl) (by decide) (fun _ _ => rfl) ?_
      refine xJ_getr hR hK dX5_hasRoom_12 fX5_108 (by unfold xV; omega) (fun _ _ => rfl) (by decide) (fun _ _ => rfl) ?_
      refine mJ_iload_n hK dX5_hasRoom_15 rfl ?_
      refine xJ_aldC e hR hK dX5_hasRoom_16 (by unfold xV; omega) rfl (by omega) ?_
      refine xJ_getx (nI (q e)) hR hK dX5_hasRoom_17 fX5_135 (by unfold xV; omega) (fun _ _ => rfl) (by decide) rfl ((hq e (by omega)).1) ?_
      refine mJ_aload_n hK dX5_hasRoom_20 rfl ?_
      refine mJ_iload_n hK dX5_hasRoom_21 rfl ?_
      refine mJ_cVi hK dX5_hasRoom_22 lX5_164 (by unfold mFit; decide) (by decide) (k_X1_uses hR hr _) rfl rfl (Nat.le_of_ble_eq_true rfl) (hR.1 _ _ _ (by unfold xV; omega)) ⟨_, _, rfl⟩ (fun h e9 => ?_)
      subst e9
      refine mJ_ifb_eq (tgt := 32) hK dX5_hasRoom_25 (by decide) (fun c_25 => ?_) (fun c_25 => ?_)
      · refine mJ_iconst (v := nI 0) hK dX5_hasRoom_32 (by decide) ?_
        refine mJ_isubN hK dX5_hasRoom_33 (by first | omega | (have := (hq e (by omega)).2; have := snN_le (q := F 19 r 0) (t := F 18 r 0) (c := nI e) m; omega) | (have := hrd e (by omega) c_25; omega)) ?_
        refine mJ_istore_n hK dX5_hasRoom_34 (by decide) rfl ?_
        refine mJ_iload_n hK dX5_hasRoom_35 rfl ?_
        refine mJ_aload_n hK dX5_hasRoom_36 rfl ?_
        refine mJ_iload_n hK dX5_hasRoom_37 rfl ?_
        refine mJ_cVi hK dX5_hasRoom_38 lX5_255 (by unfold mFit; decide) (by decide) (k_X1_sentTo hR hr hm hm4 _) rfl rfl (Nat.le_of_ble_eq_true rfl) (hR.1 _ _ _ (by unfold xV; omega)) ⟨_, _, rfl⟩ (fun h e9 => ?_)
        subst e9
        refine mJ_iaddN hK dX5_hasRoom_41 ?_
        refine mJ_bipush (v := nI 8) hK dX5_hasRoom_42 (by decide) ?_
        refine mJ_nle (tgt := 49) hK dX5_hasRoom_44 (by decide) (by first | omega | (have := (hq e (by omega)).2; have := snN_le (q := F 19 r 0) (t := F 18 r 0) (c := nI e) m; omega) | (have := hrd e (by omega) c_25; omega)) (by first | omega | (have := (hq e (by omega)).2; have := snN_le (q := F 19 r 0) (t := F 18 r 0) (c := nI e) m; omega) | (have := hrd e (by omega) c_25; omega)) (fun c_44 => ?_) (fun c_44 => ?_)
        · refine mJ_iincN hK dX5_hasRoom_49 rfl rfl (by decide) rfl ?_
          refine mJ_goto (tgt := 2) hK dX5_hasRoom_52 (by decide) ?_
          refine ih (e + 1) (some (.int (nI ((q e) - 0)))) _ (by omega) (by omega) eh ?_ hR
          intro c hc
          by_cases hce : c = e
          · subst hce
            unfold rmQ
            first | (rw [if_pos c_25]; exact c_44) | (rw [if_neg c_25]; exact c_44)
          · exact hin c (by omega)
        · refine mJ_iconst (v := nI 0) hK dX5_hasRoom_47 (by decide) ?_
          refine mJ_zret hK dX5_hasRoom_48 rfl (by decide) hZ (by decide) (by decide) ?_
          refine ⟨congrArg (fun z9 => some (Value.int z9)) (b0 (fun z9 => ?_)), eh⟩
          have h9 := rmB_iff.mp z9 e (by omega)
          unfold rmQ at h9
          first | (rw [if_pos c_25] at h9; omega) | (rw [if_neg c_25] at h9; omega)
      · refine mJ_iconst (v := nI 1) hK dX5_hasRoom_28 (by decide) ?_
        refine mJ_goto (tgt := 33) hK dX5_hasRoom_29 (by decide) ?_
        refine mJ_isubN hK dX5_hasRoom_33 (by first | omega | (have := (hq e (by omega)).2; have := snN_le (q := F 19 r 0) (t := F 18 r 0) (c := nI e) m; omega) | (have := hrd e (by omega) c_25; omega)) ?_
        refine mJ_istore_n hK dX5_hasRoom_34 (by decide) rfl ?_
        refine mJ_iload_n hK dX5_hasRoom_35 rfl ?_
        refine mJ_aload_n hK dX5_hasRoom_36 rfl ?_
        refine mJ_iload_n hK dX5_hasRoom_37 rfl ?_
        refine mJ_cVi hK dX5_hasRoom_38 lX5_255 (by unfold mFit; decide) (by decide) (k_X1_sentTo hR hr hm hm4 _) rfl rfl (Nat.le_of_ble_eq_true rfl) (hR.1 _ _ _ (by unfold xV; omega)) ⟨_, _, rfl⟩ (fun h e9 => ?_)
        subst e9
        refine mJ_iaddN hK dX5_hasRoom_41 ?_
        refine mJ_bipush (v := nI 8) hK dX5_hasRoom_42 (by decide) ?_
        refine mJ_nle (tgt := 49) hK dX5_hasRoom_44 (by decide) (by first | omega | (have := (hq e (by omega)).2; have := snN_le (q := F 19 r 0) (t := F 18 r 0) (c := nI e) m; omega) | (have := hrd e (by omega) c_25; omega)) (by first | omega | (have := (hq e (by omega)).2; have := snN_le (q := F 19 r 0) (t := F 18 r 0) (c := nI e) m; omega) | (have := hrd e (by omega) c_25; omega)) (fun c_44 => ?_) (fun c_44 => ?_)
        · refine mJ_iincN hK dX5_hasRoom_49 rfl rfl (by decide) rfl ?_
          refine mJ_goto (tgt := 2) hK dX5_hasRoom_52 (by decide) ?_
          refine ih (e + 1) (some (.int (nI ((q e) - 1)))) _ (by omega) (by omega) eh ?_ hR
          intro c hc
          by_cases hce : c = e
          · subst hce
            unfold rmQ
            first | (rw [if_pos c_25]; exact c_44) | (rw [if_neg c_25]; exact c_44)
          · exact hin c (by omega)
        · refine mJ_iconst (v := nI 0) hK dX5_hasRoom_47 (by decide) ?_
          refine mJ_zret hK dX5_hasRoom_48 rfl (by decide) hZ (by decide) (by decide) ?_
          refine ⟨congrArg (fun z9 => some (Value.int z9)) (b0 (fun z9 => ?_)), eh⟩
          have h9 := rmB_iff.mp z9 e (by omega)
          unfold rmQ at h9
          first | (rw [if_pos c_25] at h9; omega) | (rw [if_neg c_25] at h9; omega)

set_option maxRecDepth 100000 in
set_option maxHeartbeats 4000000 in
theorem k_X5_hasRoom {l : Launch} {D : va_G} {aC : Nat → ClassId} {ad : xAd} {h0 h : mH} {F : xFm} {W : xWm} {pm : Nat → Nat} (hR : xR xV ad h0 F W pm h) {r : Nat} (hr : r < 9) {q : Nat → Nat} (hq : ∀ c, c < 8 → F 13 0 c 3 = nI (q c) ∧ q c ≤ 8) {m : Nat} (hm : F 17 r 0 5 = nI m) (hm4 : m ≤ 4) (hrd : ∀ c, c < 8 → usP (F 17 r 0 0) (nI c) → 0 < q c) : mCon l D aC mX5_hasRoom [.ref (ad 0 0 0), .ref (ad 17 r 0)] h (mRi (bI (rmB F r q m = true)) (fun h' => h' = h)) := by
  refine mCon.of [some (.ref (ad 0 0 0)), some (.ref (ad 17 r 0)), none, none] (by decide +kernel) rfl (Nat.le_of_ble_eq_true rfl) ?_
  intro K el eD eC hK hZ
  subst el eD eC
  refine mJ_iconst (v := nI 0) hK dX5_hasRoom_0 (by decide) ?_
  refine mJ_istore_n hK dX5_hasRoom_1 (by decide) rfl ?_
  exact lp_X5_hasRoom hK hr hq hm hm4 hrd hZ 9 0 none _ (by omega) (by omega) rfl (fun c hc => absurd hc (Nat.not_lt_zero c)) hR

def gL (F : xFm) (r : Nat) : Nat := (F 17 r 0 1).toNatClampNeg
def gR (F : xFm) (r : Nat) : Nat := (F 17 r 0 3).toNatClampNeg
def oC (F : xFm) (r : Nat) : Nat := (F 17 r 0 5).toNatClampNeg
def lE (F : xFm) (q : Nat → Nat) (r : Nat) : Nat := if gL F r < 8 then q (gL F r) else 1
def rE (F : xFm) (q : Nat → Nat) (r : Nat) : Nat := if gR F r < 8 then q (gR F r) else 1
def fmF (F : xFm) (q : Nat → Nat) (r : Nat) : Option (Nat × Nat) := if F 17 r 0 0 &&& wtM q = F 17 r 0 0 then fI (mtT F r (gL F r) (gR F r)) (rE F q r) (lE F q r) 0 else none
def enF (F : xFm) (q : Nat → Nat) (r : Nat) : Bool := (fmF F q r).isSome && rmB F r q (oC F r)
/-- a rule that was read: its numbers -/
def rwf (F : xFm) (r : Nat) : Prop := F 17 r 0 1 = nI (gL F r) ∧ gL F r < 18 ∧ F 17 r 0 3 = nI (gR F r) ∧ gR F r < 18 ∧ F 17 r 0 5 = nI (oC F r) ∧ oC F r ≤ 4
abbrev rdy (F : xFm) (q : Nat → Nat) (r : Nat) : Prop := F 17 r 0 0 &&& wtM q = F 17 r 0 0 → ∀ c, c < 8 → usP (F 17 r 0 0) (nI c) → 0 < q c
theorem k_X5_findMatchF {l : Launch} {D : va_G} {aC : Nat → ClassId} {ad : xAd} {h0 h : mH} {F : xFm} {W : xWm} {pm : Nat → Nat} (hR : xR xV ad h0 F W pm h) {r : Nat} (hr : r < 9) {q : Nat → Nat} (hq : ∀ c, c < 8 → F 13 0 c 3 = nI (q c) ∧ q c ≤ 8) (hw : rwf F r) : mCon l D aC mX5_findMatch [.ref (ad 0 0 0), .ref (ad 17 r 0)] h (mRi (bI ((fmF F q r).isSome = true)) (fun h' => ∃ ch : Nat → Int32, xR xV ad h0 (fr F 4 0 0 ch) W pm h' ∧ ∀ i j, fmF F q r = some (i, j) → ∀ c, c < 8 → ch c = chs (gL F r) (gR F r) i j c)) :=
  k_X5_findMatch hR hr hq hw.1 hw.2.2.1 hw.2.1 hw.2.2.2.1 rfl rfl rfl
theorem fmF_rdy {F : xFm} {q : Nat → Nat} {r : Nat} (h : (fmF F q r).isSome = true) : F 17 r 0 0 &&& wtM q = F 17 r 0 0 := by
  unfold fmF at h
  split at h
  · assumption
  · cases h
set_option maxRecDepth 100000 in
set_option maxHeartbeats 4000000 in
theorem k_X5_isEnabled {l : Launch} {D : va_G} {aC : Nat → ClassId} {ad : xAd} {h0 h : mH} {F : xFm} {W : xWm} {pm : Nat → Nat} (hR : xR xV ad h0 F W pm h) {r : Nat} (hr : r < 9) {q : Nat → Nat} (hq : ∀ c, c < 8 → F 13 0 c 3 = nI (q c) ∧ q c ≤ 8) (hw : rwf F r) (hrd : rdy F q r) : mCon l D aC mX5_isEnabled [.ref (ad 0 0 0), .ref (ad 17 r 0)] h (mRi (bI (enF F q r = true)) (fun h' => ∃ ch : Nat → Int32, xR xV ad h0 (fr F 4 0 0 ch) W pm h')) := by
  refine mCon.of [some (.ref (ad 0 0 0)), some (.ref (ad 17 r 0))] (by decide +kernel) rfl (Nat.le_of_ble_eq_true rfl) ?_
  intro K el eD eC hK hZ
  subst el eD eC
  refine mJ_aload_n hK dX5_isEnabled_0 rfl ?_
  refine mJ_aload_n hK dX5_isEnabled_1 rfl ?_
  refine mJ_cVi hK dX5_isEnabled_2 lX5_169 (by unfold mFit; decide) (by decide) (k_X5_findMatchF hR hr hq hw) rfl rfl (Nat.le_of_ble_eq_true rfl) (hR.1 _ _ _ (by unfold xV; omega)) ⟨_, _, rfl⟩ (fun h hE => ?_)
  obtain ⟨ch, hR, hch⟩ := hE
  refine mJ_ifb_eq (tgt := 20) hK dX5_isEnabled_5 (by decide) (fun c_5 => ?_) (fun c_5 => ?_)
  · refine mJ_iconst (v := nI 0) hK dX5_isEnabled_20 (by decide) ?_
    refine mJ_zret hK dX5_isEnabled_21 rfl (by decide) hZ (by decide) (by decide) ?_
    refine ⟨congrArg (fun z9 => some (Value.int z9)) ?_, ch, hR⟩
    first | exact b1 (by rw [enF, Bool.and_eq_true]; exact ⟨c_5, c_13⟩) | exact b0 (by rw [enF, Bool.and_eq_true]; exact fun z9 => c_13 z9.2) | exact b0 (by rw [enF, Bool.and_eq_true]; exact fun z9 => c_5 z9.1)
  · refine mJ_aload_n hK dX5_isEnabled_8 rfl ?_
    refine mJ_aload_n hK dX5_isEnabled_9 rfl ?_
    refine mJ_cVi hK dX5_isEnabled_10 lX5_252 (by unfold mFit; decide) (by decide) (k_X5_hasRoom hR hr hq hw.2.2.2.2.1 hw.2.2.2.2.2 (hrd (fmF_rdy c_5))) rfl rfl (Nat.le_of_ble_eq_true rfl) (hR.1 _ _ _ (by unfold xV; omega)) ⟨_, _, rfl⟩ (fun h e9 => ?_)
    subst e9
    refine mJ_ifb_eq (tgt := 20) hK dX5_isEnabled_13 (by decide) (fun c_13 => ?_) (fun c_13 => ?_)
    · refine mJ_iconst (v := nI 0) hK dX5_isEnabled_20 (by decide) ?_
      refine mJ_zret hK dX5_isEnabled_21 rfl (by decide) hZ (by decide) (by decide) ?_
      refine ⟨congrArg (fun z9 => some (Value.int z9)) ?_, ch, hR⟩
      first | exact b1 (by rw [enF, Bool.and_eq_true]; exact ⟨c_5, c_13⟩) | exact b0 (by rw [enF, Bool.and_eq_true]; exact fun z9 => c_13 z9.2) | exact b0 (by rw [enF, Bool.and_eq_true]; exact fun z9 => c_5 z9.1)
    · refine mJ_iconst (v := nI 1) hK dX5_isEnabled_16 (by decide) ?_
      refine mJ_goto (tgt := 21) hK dX5_isEnabled_17 (by decide) ?_
      refine mJ_zret hK dX5_isEnabled_21 rfl (by decide) hZ (by decide) (by decide) ?_
      refine ⟨congrArg (fun z9 => some (Value.int z9)) ?_, ch, hR⟩
      first | exact b1 (by rw [enF, Bool.and_eq_true]; exact ⟨c_5, c_13⟩) | exact b0 (by rw [enF, Bool.and_eq_true]; exact fun z9 => c_13 z9.2) | exact b0 (by rw [enF, Bool.and_eq_true]; exact fun z9 => c_5 z9.1)

theorem enF_ch {F : xFm} {ch : Nat → Int32} {q : Nat → Nat} {r : Nat} : enF (fr F 4 0 0 ch) q r = enF F q r := rfl
set_option maxRecDepth 100000 in
set_option maxHeartbeats 4000000 in
theorem lp_X5_enabledRules {K : mK} (hK : mCx K mX5_enabledRules) {ad : xAd} {h0 : mH} {F : xFm} {W : xWm} {pm : Nat → Nat} {rn : Nat} (hrn : F 0 0 0 4 = nI rn) (hrn8 : rn ≤ 8) (hpm : ∀ i, i < 9 → pm i < 9) {q : Nat → Nat} (hq : ∀ c, c < 8 → F 13 0 c 3 = nI (q c) ∧ q c ≤ 8) (hw : ∀ i, i < rn → rwf F (pm i)) (hrd : ∀ i, i < rn → rdy F q (pm i)) (hZ : mRt K mX5_enabledRules (mRi (bmk (fun i => enF F q (pm i)) rn) (fun h' => ∃ ch : Nat → Int32, xR xV ad h0 (fr F 4 0 0 ch) W pm h'))) : ∀ (fu : Nat) (e : Nat) (ch : Nat → Int32) (h : mH), rn - e < fu → (e ≤ rn) → (xR xV ad h0 (fr F 4 0 0 ch) W pm h) → mJ K 0 0 4 [some (.ref (ad 0 0 0)), some (.int (bmk (fun i => enF F q (pm i)) e)), some (.int (nI e))] [] h := by
  intro fu
  induction fu with
  | zero =>
    intro e ch h hm0
    exact absurd hm0 (by omega)
  | succ fu ih =>
    intro e ch h hm0 he hR
    refine mJ_iload_n hK dX5_enabledRules_4 rfl ?_
    refine mJ_aload_n hK dX5_enabledRules_5 rfl ?_
    refine xJ_getx (nI rn) hR hK dX5_enabledRules_6 fX5_72 (by unfold xV; first | omega | (have := hpm e (by omega); omega)) (fun _ _ => rfl) (by decide) rfl (by first | exact hrn | (simp [fr, upd]; exact hrn)) ?_
    refine mJ_nge (tgt := 37) hK dX5_enabledRules_9 (by decide) (by omega) (by omega) (fun c_9 => ?_) (fun c_9 => ?_)
    · refine mJ_iload_n hK dX5_enabledRules_37 rfl ?_
      refine mJ_iret hK dX5_enabledRules_38 rfl hZ (by decide) (by decide) ?_
      have : e = rn := by omega
      subst this
      exact ⟨rfl, ch, hR⟩
    · refine mJ_aload_n hK dX5_enabledRules_12 rfl ?_
      refine mJ_aload_n hK dX5_enabledRules_13 rfl ?_
      refine xJ_getr hR hK dX5_enabledRules_14 fX5_22 (by unfold xV; first | omega | (have := hpm e (by omega); omega)) (fun _ _ => rfl) (by decide) (fun _ _ => rfl) ?_
      refine mJ_iload_n hK dX5_enabledRules_17 rfl ?_
      refine xJ_aldR e hR hK dX5_enabledRules_18 (by unfold xV; first | omega | (have := hpm e (by omega); omega)) rfl (by omega) ?_
      refine mJ_cVi hK dX5_enabledRules_19 lX5_157 (by unfold mFit; decide) (by decide) (k_X5_isEnabled hR (hpm e (by omega)) hq (hw e (by omega)) (hrd e (by omega))) rfl rfl (Nat.le_of_ble_eq_true rfl) (hR.1 _ _ _ (by unfold xV; first | omega | (have := hpm e (by omega); omega))) ⟨_, _, rfl⟩ (fun h hE => ?_)
      obtain ⟨ch9, hR⟩ := hE
      rw [fr_fr] at hR
      refine mJ_ifb_eq (tgt := 31) hK dX5_enabledRules_22 (by decide) (fun c_22 => ?_) (fun c_22 => ?_)
      · refine mJ_iincN hK dX5_enabledRules_31 rfl rfl (by decide) rfl ?_
        refine mJ_goto (tgt := 4) hK dX5_enabledRules_34 (by decide) ?_
        refine mJ_L ?_ (ih (e + 1) _ _ (by omega) (by omega) hR)
        rw [enF_ch] at c_22
        first | (rw [bmk_t (p := fun i => enF F q (pm i)) c_22]; rfl) | (rw [bmk_f (p := fun i => enF F q (pm i)) c_22]; rfl)
      · refine mJ_iload_n hK dX5_enabledRules_25 rfl ?_
        refine mJ_iconst (v := nI 1) hK dX5_enabledRules_26 (by decide) ?_
        refine mJ_iload_n hK dX5_enabledRules_27 rfl ?_
        refine mJ_ishl hK dX5_enabledRules_28 ?_
        refine mJ_ior hK dX5_enabledRules_29 ?_
        refine mJ_istore_n hK dX5_enabledRules_30 (by decide) rfl ?_
        refine mJ_iincN hK dX5_enabledRules_31 rfl rfl (by decide) rfl ?_
        refine mJ_goto (tgt := 4) hK dX5_enabledRules_34 (by decide) ?_
        refine mJ_L ?_ (ih (e + 1) _ _ (by omega) (by omega) hR)
        rw [enF_ch] at c_22
        first | (rw [bmk_t (p := fun i => enF F q (pm i)) c_22]; rfl) | (rw [bmk_f (p := fun i => enF F q (pm i)) c_22]; rfl)

set_option maxRecDepth 100000 in
set_option maxHeartbeats 4000000 in
theorem k_X5_enabledRules {l : Launch} {D : va_G} {aC : Nat → ClassId} {ad : xAd} {h0 h : mH} {F : xFm} {W : xWm} {pm : Nat → Nat} (hR : xR xV ad h0 F W pm h) {rn : Nat} (hrn : F 0 0 0 4 = nI rn) (hrn8 : rn ≤ 8) (hpm : ∀ i, i < 9 → pm i < 9) {q : Nat → Nat} (hq : ∀ c, c < 8 → F 13 0 c 3 = nI (q c) ∧ q c ≤ 8) (hw : ∀ i, i < rn → rwf F (pm i)) (hrd : ∀ i, i < rn → rdy F q (pm i)) : mCon l D aC mX5_enabledRules [.ref (ad 0 0 0)] h (mRi (bmk (fun i => enF F q (pm i)) rn) (fun h' => ∃ ch : Nat → Int32, xR xV ad h0 (fr F 4 0 0 ch) W pm h')) := by
  refine mCon.of [some (.ref (ad 0 0 0)), none, none] (by decide +kernel) rfl (Nat.le_of_ble_eq_true rfl) ?_
  intro K el eD eC hK hZ
  subst el eD eC
  refine mJ_iconst (v := nI 0) hK dX5_enabledRules_0 (by decide) ?_
  refine mJ_istore_n hK dX5_enabledRules_1 (by decide) rfl ?_
  refine mJ_iconst (v := nI 0) hK dX5_enabledRules_2 (by decide) ?_
  refine mJ_istore_n hK dX5_enabledRules_3 (by decide) rfl ?_
  exact lp_X5_enabledRules hK hrn hrn8 hpm hq hw hrd hZ (rn + 1) 0 (F 4 0 0) _ (by omega) (by omega) (by rw [fr_self]; exact hR)
