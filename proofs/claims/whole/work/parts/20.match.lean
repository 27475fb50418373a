theorem bmk_t {p : Nat → Bool} {r : Nat} (h : p r = true) : bmk p (r + 1) = bmk p r ||| nI 1 <<< (nI r &&& 31) := by rw [bmk, if_pos h]
theorem bmk_f {p : Nat → Bool} {r : Nat} (h : ¬ p r = true) : bmk p (r + 1) = bmk p r := by rw [bmk, if_neg h]
abbrev wtM (q : Nat → Nat) : Int32 := bmk (fun c => decide (0 < q c)) 8
def rmx (a b : Nat → Int32) (x : Int64) : Nat → Int64
  | 0 => x
  | r + 1 => 31 * (31 * rmx a b x r + (a r).toInt64) + (b r).toInt64
def bmx (a : Nat → Int32) (x : Int64) : Nat → Int64
  | 0 => x
  | r + 1 => 31 * bmx a x r + (a r).toInt64
def vlX (F : xFm) (a i : Nat) : Int32 := if a < 8 then F 14 0 a i else nI (a - 8)
def cho (f : Nat → Int32) (a i : Nat) : Nat → Int32 := if a < 8 then upd f a (nI i) else f
def fJ (t : Nat → Bool) : Nat → Nat → Option Nat
  | 0, _ => none
  | n + 1, j => if t j = true then some j else fJ t n (j + 1)
def fI (t : Nat → Nat → Bool) (re : Nat) : Nat → Nat → Option (Nat × Nat)
  | 0, _ => none
  | n + 1, i => match fJ (t i) re 0 with
    | some j => some (i, j)
    | none => fI t re n (i + 1)
theorem fJ_t {t : Nat → Bool} {re j : Nat} (h : j < re) (ht : t j = true) : fJ t (re - j) j = some j := by
  obtain ⟨n, hn⟩ : ∃ n, re - j = n + 1 := ⟨re - j - 1, by omega⟩
  rw [hn, fJ, if_pos ht]
theorem fJ_f {t : Nat → Bool} {re j : Nat} (h : j < re) (ht : ¬ t j = true) : fJ t (re - j) j = fJ t (re - (j + 1)) (j + 1) := by
  obtain ⟨n, hn⟩ : ∃ n, re - j = n + 1 := ⟨re - j - 1, by omega⟩
  rw [hn, fJ, if_neg ht]
  congr 1
  omega
theorem fI_s {t : Nat → Nat → Bool} {re le i : Nat} (h : i < le) : fI t re (le - i) i = (match fJ (t i) re 0 with | some j => some (i, j) | none => fI t re (le - (i + 1)) (i + 1)) := by
  obtain ⟨n, hn⟩ : ∃ n, le - i = n + 1 := ⟨le - i - 1, by omega⟩
  have hn2 : le - (i + 1) = n := by omega
  rw [hn, hn2, fI]
abbrev mtT (F : xFm) (r gl gr : Nat) (i j : Nat) : Bool := decide ((gl ≠ gr ∨ i = j) ∧ ghP (F 17 r 0 2) (vlX F gl i) (vlX F gr j))
abbrev chs (gl gr i j : Nat) : Nat → Int32 := cho (cho (fun _ => nI 0) gl i) gr j
set_option maxRecDepth 100000 in
set_option maxHeartbeats 4000000 in
theorem lp_X5_waitingChannels {K : mK} (hK : mCx K mX5_waitingChannels) {ad : xAd} {h0 : mH} {F : xFm} {W : xWm} {pm : Nat → Nat} {q : Nat → Nat} (hq : ∀ c, c < 8 → F 13 0 c 3 = nI (q c) ∧ q c ≤ 8) {h9 : mH} (hZ : mRt K mX5_waitingChannels (mRi (wtM q) (fun h' => h' = h9))) : ∀ (fu : Nat) (e : Nat) (h : mH), 8 - e < fu → (e ≤ 8) → (h = h9) → (xR xV ad h0 F W pm h) → mJ K 0 0 4 [some (.ref (ad 0 0 0)), some (.int (bmk (fun c => decide (0 < q c)) e)), some (.int (nI e))] [] h := by
  intro fu
  induction fu with
  | zero =>
    intro e h hm0
    exact absurd hm0 (by omega)
  | succ fu ih =>
    intro e h hm0 he eh hR
    refine mJ_iload_n hK dX5_waitingChannels_4 rfl ?_
    refine mJ_bipush (v := nI 8) hK dX5_waitingChannels_5 (by decide) ?_
    refine mJ_nge (tgt := 37) hK dX5_waitingChannels_7 (by decide) (by first | omega | (have := (hq e (by omega)).2; omega)) (by first | omega | (have := (hq e (by omega)).2; omega)) (fun c_7 => ?_) (fun c_7 => ?_)
    · refine mJ_iload_n hK dX5_waitingChannels_37 rfl ?_
      refine mJ_iret hK dX5_waitingChannels_38 rfl hZ (by decide) (by decide) ?_
      have : e = 8 := by omega
      subst this
      exact ⟨rfl, eh⟩
    · refine mJ_aload_n hK dX5_waitingChannels_10 rfl ?_
      refine xJ_getr hR hK dX5_waitingChannels_11 fX5_29 (by unfold xV; omega) (fun _ _ => rfl) (by decide) (fun _ _ => rfl) ?_
      refine xJ_getr hR hK dX5_waitingChannels_14 fX5_108 (by unfold xV; omega) (fun _ _ => rfl) (by decide) (fun _ _ => rfl) ?_
      refine mJ_iload_n hK dX5_waitingChannels_17 rfl ?_
      refine xJ_aldC e hR hK dX5_waitingChannels_18 (by unfold xV; omega) rfl (by omega) ?_
      refine xJ_getx (nI (q e)) hR hK dX5_waitingChannels_19 fX5_135 (by unfold xV; omega) (fun _ _ => rfl) (by decide) rfl ((hq e (by omega)).1) ?_
      refine mJ_nif_le (tgt := 31) hK dX5_waitingChannels_22 (by decide) (by first | omega | (have := (hq e (by omega)).2; omega)) (fun c_22 => ?_) (fun c_22 => ?_)
      · refine mJ_iincN hK dX5_waitingChannels_31 rfl rfl (by decide) rfl ?_
        refine mJ_goto (tgt := 4) hK dX5_waitingChannels_34 (by decide) ?_
        refine mJ_L ?_ (ih (e + 1) _ (by omega) (by omega) eh hR)
        first | (rw [bmk_t (by simp; omega)]; rfl) | (rw [bmk_f (by simp; omega)]; rfl)
      · refine mJ_iload_n hK dX5_waitingChannels_25 rfl ?_
        refine mJ_iconst (v := nI 1) hK dX5_waitingChannels_26 (by decide) ?_
        refine mJ_iload_n hK dX5_waitingChannels_27 rfl ?_
        refine mJ_ishl hK dX5_waitingChannels_28 ?_
        refine mJ_ior hK dX5_waitingChannels_29 ?_
        refine mJ_istore_n hK dX5_waitingChannels_30 (by decide) rfl ?_
        refine mJ_iincN hK dX5_waitingChannels_31 rfl rfl (by decide) rfl ?_
        refine mJ_goto (tgt := 4) hK dX5_waitingChannels_34 (by decide) ?_
        refine mJ_L ?_ (ih (e + 1) _ (by omega) (by omega) eh hR)
        first | (rw [bmk_t (by simp; omega)]; rfl) | (rw [bmk_f (by simp; omega)]; rfl)

set_option maxRecDepth 100000 in
set_option maxHeartbeats 4000000 in
theorem k_X5_waitingChannels {l : Launch} {D : va_G} {aC : Nat → ClassId} {ad : xAd} {h0 h : mH} {F : xFm} {W : xWm} {pm : Nat → Nat} (hR : xR xV ad h0 F W pm h) {q : Nat → Nat} (hq : ∀ c, c < 8 → F 13 0 c 3 = nI (q c) ∧ q c ≤ 8) : mCon l D aC mX5_waitingChannels [.ref (ad 0 0 0)] h (mRi (wtM q) (fun h' => h' = h)) := by
  refine mCon.of [some (.ref (ad 0 0 0)), none, none] (by decide +kernel) rfl (Nat.le_of_ble_eq_true rfl) ?_
  intro K el eD eC hK hZ
  subst el eD eC
  refine mJ_iconst (v := nI 0) hK dX5_waitingChannels_0 (by decide) ?_
  refine mJ_istore_n hK dX5_waitingChannels_1 (by decide) rfl ?_
  refine mJ_iconst (v := nI 0) hK dX5_waitingChannels_2 (by decide) ?_
  refine mJ_istore_n hK dX5_waitingChannels_3 (by decide) rfl ?_
  exact lp_X5_waitingChannels hK hq hZ 9 0 _ (by omega) (by omega) rfl hR

set_option maxRecDepth 100000 in
set_option maxHeartbeats 4000000 in
theorem lp_X5_readyRules {K : mK} (hK : mCx K mX5_readyRules) {ad : xAd} {h0 : mH} {F : xFm} {W : xWm} {pm : Nat → Nat} {rn : Nat} (hrn : F 0 0 0 4 = nI rn) (hrn8 : rn ≤ 8) (hpm : ∀ i, i < 9 → pm i < 9) {q : Nat → Nat} {h9 : mH} (hZ : mRt K mX5_readyRules (mRi (bmk (fun r => decide (F 17 (pm r) 0 0 &&& wtM q = F 17 (pm r) 0 0)) rn) (fun h' => h' = h9))) : ∀ (fu : Nat) (e : Nat) (h : mH), rn - e < fu → (e ≤ rn) → (h = h9) → (xR xV ad h0 F W pm h) → mJ K 0 0 9 [some (.ref (ad 0 0 0)), some (.int (wtM q)), some (.int (bmk (fun r => decide (F 17 (pm r) 0 0 &&& wtM q = F 17 (pm r) 0 0)) e)), some (.int (nI e))] [] h := by
  intro fu
  induction fu with
  | zero =>
    intro e h hm0
    exact absurd hm0 (by omega)
  | succ fu ih =>
    intro e h hm0 he eh hR
    refine mJ_iload_n hK dX5_readyRules_9 rfl ?_
    refine mJ_aload_n hK dX5_readyRules_10 rfl ?_
    refine xJ_getx (nI rn) hR hK dX5_readyRules_11 fX5_72 (by unfold xV; first | omega | (have := hpm e (by omega); omega)) (fun _ _ => rfl) (by decide) rfl (by first | exact hrn | (simp [fr, upd]; exact hrn)) ?_
    refine mJ_nge (tgt := 42) hK dX5_readyRules_14 (by decide) (by omega) (by omega) (fun c_14 => ?_) (fun c_14 => ?_)
    · refine mJ_iload_n hK dX5_readyRules_42 rfl ?_
      refine mJ_iret hK dX5_readyRules_43 rfl hZ (by decide) (by decide) ?_
      have : e = rn := by omega
      subst this
      exact ⟨rfl, eh⟩
    · refine mJ_aload_n hK dX5_readyRules_17 rfl ?_
      refine xJ_getr hR hK dX5_readyRules_18 fX5_22 (by unfold xV; first | omega | (have := hpm e (by omega); omega)) (fun _ _ => rfl) (by decide) (fun _ _ => rfl) ?_
      refine mJ_iload_n hK dX5_readyRules_21 rfl ?_
      refine xJ_aldR e hR hK dX5_readyRules_22 (by unfold xV; first | omega | (have := hpm e (by omega); omega)) rfl (by omega) ?_
      refine mJ_iload_n hK dX5_readyRules_23 rfl ?_
      refine mJ_cVi hK dX5_readyRules_24 lX5_154 (by unfold mFit; decide) (by decide) (k_X1_isReady hR (hpm e (by omega)) _) rfl rfl (Nat.le_of_ble_eq_true rfl) (hR.1 _ _ _ (by unfold xV; first | omega | (have := hpm e (by omega); omega))) ⟨_, _, rfl⟩ (fun h e9 => ?_)
      subst e9
      refine mJ_ifb_eq (tgt := 36) hK dX5_readyRules_27 (by decide) (fun c_27 => ?_) (fun c_27 => ?_)
      · refine mJ_iincN hK dX5_readyRules_36 rfl rfl (by decide) rfl ?_
        refine mJ_goto (tgt := 9) hK dX5_readyRules_39 (by decide) ?_
        refine mJ_L ?_ (ih (e + 1) _ (by omega) (by omega) eh hR)
        first | (rw [bmk_t (decide_eq_true c_27)]; rfl) | (rw [bmk_f (by simpa using c_27)]; rfl)
      · refine mJ_iload_n hK dX5_readyRules_30 rfl ?_
        refine mJ_iconst (v := nI 1) hK dX5_readyRules_31 (by decide) ?_
        refine mJ_iload_n hK dX5_readyRules_32 rfl ?_
        refine mJ_ishl hK dX5_readyRules_33 ?_
        refine mJ_ior hK dX5_readyRules_34 ?_
        refine mJ_istore_n hK dX5_readyRules_35 (by decide) rfl ?_
        refine mJ_iincN hK dX5_readyRules_36 rfl rfl (by decide) rfl ?_
        refine mJ_goto (tgt := 9) hK dX5_readyRules_39 (by decide) ?_
        refine mJ_L ?_ (ih (e + 1) _ (by omega) (by omega) eh hR)
        first | (rw [bmk_t (decide_eq_true c_27)]; rfl) | (rw [bmk_f (by simpa using c_27)]; rfl)

set_option maxRecDepth 100000 in
set_option maxHeartbeats 4000000 in
theorem k_X5_readyRules {l : Launch} {D : va_G} {aC : Nat → ClassId} {ad : xAd} {h0 h : mH} {F : xFm} {W : xWm} {pm : Nat → Nat} (hR : xR xV ad h0 F W pm h) {rn : Nat} (hrn : F 0 0 0 4 = nI rn) (hrn8 : rn ≤ 8) (hpm : ∀ i, i < 9 → pm i < 9) {q : Nat → Nat} (hq : ∀ c, c < 8 → F 13 0 c 3 = nI (q c) ∧ q c ≤ 8) : mCon l D aC mX5_readyRules [.ref (ad 0 0 0)] h (mRi (bmk (fun r => decide (F 17 (pm r) 0 0 &&& wtM q = F 17 (pm r) 0 0)) rn) (fun h' => h' = h)) := by
  refine mCon.of [some (.ref (ad 0 0 0)), none, none, none] (by decide +kernel) rfl (Nat.le_of_ble_eq_true rfl) ?_
  intro K el eD eC hK hZ
  subst el eD eC
  refine mJ_aload_n hK dX5_readyRules_0 rfl ?_
  refine mJ_cVi hK dX5_readyRules_1 lX5_151 (by unfold mFit; decide) (by decide) (k_X5_waitingChannels hR hq) rfl rfl (Nat.le_of_ble_eq_true rfl) (hR.1 _ _ _ (by unfold xV; omega)) ⟨_, _, rfl⟩ (fun h e9 => ?_)
  subst e9
  refine mJ_istore_n hK dX5_readyRules_4 (by decide) rfl ?_
  refine mJ_iconst (v := nI 0) hK dX5_readyRules_5 (by decide) ?_
  refine mJ_istore_n hK dX5_readyRules_6 (by decide) rfl ?_
  refine mJ_iconst (v := nI 0) hK dX5_readyRules_7 (by decide) ?_
  refine mJ_istore_n hK dX5_readyRules_8 (by decide) rfl ?_
  exact lp_X5_readyRules hK hrn hrn8 hpm hZ (rn + 1) 0 _ (by omega) (by omega) rfl hR

set_option maxRecDepth 100000 in
set_option maxHeartbeats 4000000 in
theorem lp_X5_mixRules {K : mK} (hK : mCx K mX5_mixRules) {ad : xAd} {h0 : mH} {F : xFm} {W : xWm} {pm : Nat → Nat} {rn : Nat} (hrn : F 0 0 0 4 = nI rn) (hrn8 : rn ≤ 8) (hpm : ∀ i, i < 9 → pm i < 9) {x : Int64} {h9 : mH} (hZ : mRt K mX5_mixRules (mRl (rmx (fun r => F 17 (pm r) 0 0) (F 12 0 0) (31 * x + (nI rn).toInt64) rn) (fun h' => h' = h9))) : ∀ (fu : Nat) (e : Nat) (h : mH), rn - e < fu → (e ≤ rn) → (h = h9) → (xR xV ad h0 F W pm h) → mJ K 0 0 13 [some (.ref (ad 0 0 0)), some (.long x), none, some (.long (rmx (fun r => F 17 (pm r) 0 0) (F 12 0 0) (31 * x + (nI rn).toInt64) e)), none, some (.int (nI e))] [] h := by
  intro fu
  induction fu with
  | zero =>
    intro e h hm0
    exact absurd hm0 (by omega)
  | succ fu ih =>
    intro e h hm0 he eh hR
    refine mJ_iload hK dX5_mixRules_13 rfl ?_
    refine mJ_aload_n hK dX5_mixRules_15 rfl ?_
    refine xJ_getx (nI rn) hR hK dX5_mixRules_16 fX5_72 (by unfold xV; first | omega | (have := hpm e (by omega); omega)) (fun _ _ => rfl) (by decide) rfl (by first | exact hrn | (simp [fr, upd]; exact hrn)) ?_
    refine mJ_nge (tgt := 60) hK dX5_mixRules_19 (by decide) (by omega) (by omega) (fun c_19 => ?_) (fun c_19 => ?_)
    · refine mJ_lload_n hK dX5_mixRules_60 rfl ?_
      refine mJ_lret hK dX5_mixRules_61 rfl hZ (by decide) (by decide) ?_
      have : e = rn := by omega
      subst this
      exact ⟨rfl, eh⟩
    · refine mJ_lload_n hK dX5_mixRules_22 rfl ?_
      refine mJ_aload_n hK dX5_mixRules_23 rfl ?_
      refine xJ_getr hR hK dX5_mixRules_24 fX5_22 (by unfold xV; first | omega | (have := hpm e (by omega); omega)) (fun _ _ => rfl) (by decide) (fun _ _ => rfl) ?_
      refine mJ_iload hK dX5_mixRules_27 rfl ?_
      refine xJ_aldR e hR hK dX5_mixRules_29 (by unfold xV; first | omega | (have := hpm e (by omega); omega)) rfl (by omega) ?_
      refine xJ_geti hR hK dX5_mixRules_30 fX5_95 (by unfold xV; first | omega | (have := hpm e (by omega); omega)) (fun _ _ => rfl) (by decide) rfl ?_
      refine mJ_i2l hK dX5_mixRules_33 ?_
      refine mJ_cSl hK dX5_mixRules_34 lX5_224 (by unfold mFit; decide) (by decide) (k_X5_mix _ _) rfl rfl (Nat.le_of_ble_eq_true rfl) (fun h e9 => ?_)
      subst e9
      refine mJ_lstore_n hK dX5_mixRules_37 (by decide) rfl ?_
      refine mJ_lload_n hK dX5_mixRules_38 rfl ?_
      refine mJ_aload_n hK dX5_mixRules_39 rfl ?_
      refine xJ_getr hR hK dX5_mixRules_40 fX5_29 (by unfold xV; first | omega | (have := hpm e (by omega); omega)) (fun _ _ => rfl) (by decide) (fun _ _ => rfl) ?_
      refine xJ_getr hR hK dX5_mixRules_43 fX5_81 (by unfold xV; first | omega | (have := hpm e (by omega); omega)) (fun _ _ => rfl) (by decide) (fun _ _ => rfl) ?_
      refine mJ_iload hK dX5_mixRules_46 rfl ?_
      refine xJ_iald e hR hK dX5_mixRules_48 (by unfold xV; first | omega | (have := hpm e (by omega); omega)) (fun _ _ => rfl) rfl (by omega) (by decide) ?_
      refine mJ_i2l hK dX5_mixRules_49 ?_
      refine mJ_cSl hK dX5_mixRules_50 lX5_224 (by unfold mFit; decide) (by decide) (k_X5_mix _ _) rfl rfl (Nat.le_of_ble_eq_true rfl) (fun h e9 => ?_)
      subst e9
      refine mJ_lstore_n hK dX5_mixRules_53 (by decide) rfl ?_
      refine mJ_iincN hK dX5_mixRules_54 rfl rfl (by decide) rfl ?_
      refine mJ_goto (tgt := 13) hK dX5_mixRules_57 (by decide) ?_
      exact ih (e + 1) _ (by omega) (by omega) eh hR

set_option maxRecDepth 100000 in
set_option maxHeartbeats 4000000 in
theorem k_X5_mixRules {l : Launch} {D : va_G} {aC : Nat → ClassId} {ad : xAd} {h0 h : mH} {F : xFm} {W : xWm} {pm : Nat → Nat} (hR : xR xV ad h0 F W pm h) {rn : Nat} (hrn : F 0 0 0 4 = nI rn) (hrn8 : rn ≤ 8) (hpm : ∀ i, i < 9 → pm i < 9) (x : Int64) : mCon l D aC mX5_mixRules [.ref (ad 0 0 0), .long x] h (mRl (rmx (fun r => F 17 (pm r) 0 0) (F 12 0 0) (31 * x + (nI rn).toInt64) rn) (fun h' => h' = h)) := by
  refine mCon.of [some (.ref (ad 0 0 0)), some (.long x), none, none, none, none] (by decide +kernel) rfl (Nat.le_of_ble_eq_true rfl) ?_
  intro K el eD eC hK hZ
  subst el eD eC
  refine mJ_lload_n hK dX5_mixRules_0 rfl ?_
  refine mJ_aload_n hK dX5_mixRules_1 rfl ?_
  refine xJ_getx (nI rn) hR hK dX5_mixRules_2 fX5_72 (by unfold xV; omega) (fun _ _ => rfl) (by decide) rfl (by first | exact hrn | (simp [fr, upd]; exact hrn)) ?_
  refine mJ_i2l hK dX5_mixRules_5 ?_
  refine mJ_cSl hK dX5_mixRules_6 lX5_224 (by unfold mFit; decide) (by decide) (k_X5_mix _ _) rfl rfl (Nat.le_of_ble_eq_true rfl) (fun h e9 => ?_)
  subst e9
  refine mJ_lstore_n hK dX5_mixRules_9 (by decide) rfl ?_
  refine mJ_iconst (v := nI 0) hK dX5_mixRules_10 (by decide) ?_
  refine mJ_istore hK dX5_mixRules_11 (by decide) rfl ?_
  exact lp_X5_mixRules hK hrn hrn8 hpm hZ (rn + 1) 0 _ (by omega) (by omega) rfl hR

set_option maxRecDepth 100000 in
set_option maxHeartbeats 4000000 in
theorem lp_X5_mixBuffer {K : mK} (hK : mCx K mX5_mixBuffer) {ad : xAd} {h0 : mH} {F : xFm} {W : xWm} {pm : Nat → Nat} {bl : Nat} (hbl : F 0 0 0 1 = nI bl) (hbl40 : bl ≤ 40) {x : Int64} {h9 : mH} (hZ : mRt K mX5_mixBuffer (mRl (bmx (F 1 0 0) (31 * x + (nI bl).toInt64) bl) (fun h' => h' = h9))) : ∀ (fu : Nat) (e : Nat) (h : mH), bl - e < fu → (e ≤ bl) → (h = h9) → (xR xV ad h0 F W pm h) → mJ K 0 0 13 [some (.ref (ad 0 0 0)), some (.long x), none, some (.long (bmx (F 1 0 0) (31 * x + (nI bl).toInt64) e)), none, some (.int (nI e))] [] h := by
  intro fu
  induction fu with
  | zero =>
    intro e h hm0
    exact absurd hm0 (by omega)
  | succ fu ih =>
    intro e h hm0 he eh hR
    refine mJ_iload hK dX5_mixBuffer_13 rfl ?_
    refine mJ_aload_n hK dX5_mixBuffer_15 rfl ?_
    refine xJ_getx (nI bl) hR hK dX5_mixBuffer_16 fX5_53 (by unfold xV; omega) (fun _ _ => rfl) (by decide) rfl (by first | exact hbl | (simp [fr, upd]; exact hbl)) ?_
    refine mJ_nge (tgt := 41) hK dX5_mixBuffer_19 (by decide) (by omega) (by omega) (fun c_19 => ?_) (fun c_19 => ?_)
    · refine mJ_lload_n hK dX5_mixBuffer_41 rfl ?_
      refine mJ_lret hK dX5_mixBuffer_42 rfl hZ (by decide) (by decide) ?_
      have : e = bl := by omega
      subst this
      exact ⟨rfl, eh⟩
    · refine mJ_lload_n hK dX5_mixBuffer_22 rfl ?_
      refine mJ_aload_n hK dX5_mixBuffer_23 rfl ?_
      refine xJ_getr hR hK dX5_mixBuffer_24 fX5_9 (by unfold xV; omega) (fun _ _ => rfl) (by decide) (fun _ _ => rfl) ?_
      refine mJ_iload hK dX5_mixBuffer_27 rfl ?_
      refine xJ_iald e hR hK dX5_mixBuffer_29 (by unfold xV; omega) (fun _ _ => rfl) rfl (by omega) (by decide) ?_
      refine mJ_i2l hK dX5_mixBuffer_30 ?_
      refine mJ_cSl hK dX5_mixBuffer_31 lX5_224 (by unfold mFit; decide) (by decide) (k_X5_mix _ _) rfl rfl (Nat.le_of_ble_eq_true rfl) (fun h e9 => ?_)
      subst e9
      refine mJ_lstore_n hK dX5_mixBuffer_34 (by decide) rfl ?_
      refine mJ_iincN hK dX5_mixBuffer_35 rfl rfl (by decide) rfl ?_
      refine mJ_goto (tgt := 13) hK dX5_mixBuffer_38 (by decide) ?_
      exact ih (e + 1) _ (by omega) (by omega) eh hR

set_option maxRecDepth 100000 in
set_option maxHeartbeats 4000000 in
theorem k_X5_mixBuffer {l : Launch} {D : va_G} {aC : Nat → ClassId} {ad : xAd} {h0 h : mH} {F : xFm} {W : xWm} {pm : Nat → Nat} (hR : xR xV ad h0 F W pm h) {bl : Nat} (hbl : F 0 0 0 1 = nI bl) (hbl40 : bl ≤ 40) (x : Int64) : mCon l D aC mX5_mixBuffer [.ref (ad 0 0 0), .long x] h (mRl (bmx (F 1 0 0) (31 * x + (nI bl).toInt64) bl) (fun h' => h' = h)) := by
  refine mCon.of [some (.ref (ad 0 0 0)), some (.long x), none, none, none, none] (by decide +kernel) rfl (Nat.le_of_ble_eq_true rfl) ?_
  intro K el eD eC hK hZ
  subst el eD eC
  refine mJ_lload_n hK dX5_mixBuffer_0 rfl ?_
  refine mJ_aload_n hK dX5_mixBuffer_1 rfl ?_
  refine xJ_getx (nI bl) hR hK dX5_mixBuffer_2 fX5_53 (by unfold xV; omega) (fun _ _ => rfl) (by decide) rfl (by first | exact hbl | (simp [fr, upd]; exact hbl)) ?_
  refine mJ_i2l hK dX5_mixBuffer_5 ?_
  refine mJ_cSl hK dX5_mixBuffer_6 lX5_224 (by unfold mFit; decide) (by decide) (k_X5_mix _ _) rfl rfl (Nat.le_of_ble_eq_true rfl) (fun h e9 => ?_)
  subst e9
  refine mJ_lstore_n hK dX5_mixBuffer_9 (by decide) rfl ?_
  refine mJ_iconst (v := nI 0) hK dX5_mixBuffer_10 (by decide) ?_
  refine mJ_istore hK dX5_mixBuffer_11 (by decide) rfl ?_
  exact lp_X5_mixBuffer hK hbl hbl40 hZ (bl + 1) 0 _ (by omega) (by omega) rfl hR

set_option maxRecDepth 100000 in
set_option maxHeartbeats 4000000 in
theorem k_X5_choicesOf {l : Launch} {D : va_G} {aC : Nat → ClassId} {ad : xAd} {h0 h : mH} {F : xFm} {W : xWm} {pm : Nat → Nat} (hR : xR xV ad h0 F W pm h) {q : Nat → Nat} (hq : ∀ c, c < 8 → F 13 0 c 3 = nI (q c) ∧ q c ≤ 8) {a n : Nat} (ha : a < 18) (hn : n = if a < 8 then q a else 1) : mCon l D aC mX5_choicesOf [.ref (ad 0 0 0), .int (nI a)] h (mRi (nI n) (fun h' => h' = h)) := by
  refine mCon.of [some (.ref (ad 0 0 0)), some (.int (nI a))] (by decide +kernel) rfl (Nat.le_of_ble_eq_true rfl) ?_
  intro K el eD eC hK hZ
  subst el eD eC
  refine mJ_iload_n hK dX5_choicesOf_0 rfl ?_
  refine mJ_cSi hK dX5_choicesOf_1 lX5_161 (by unfold mFit; decide) (by decide) (k_X5_isChannelN (by omega)) rfl rfl (Nat.le_of_ble_eq_true rfl) (fun h e9 => ?_)
  subst e9
  refine mJ_ifb_eq (tgt := 22) hK dX5_choicesOf_4 (by decide) (fun c_4 => ?_) (fun c_4 => ?_)
  · refine mJ_iconst (v := nI 1) hK dX5_choicesOf_22 (by decide) ?_
    refine mJ_iret hK dX5_choicesOf_23 rfl hZ (by decide) (by decide) ?_
    first | exact ⟨by rw [hn, if_pos c_4], rfl⟩ | exact ⟨by rw [hn, if_neg c_4], rfl⟩
  · refine mJ_aload_n hK dX5_choicesOf_7 rfl ?_
    refine xJ_getr hR hK dX5_choicesOf_8 fX5_29 (by unfold xV; omega) (fun _ _ => rfl) (by decide) (fun _ _ => rfl) ?_
    refine xJ_getr hR hK dX5_choicesOf_11 fX5_108 (by unfold xV; omega) (fun _ _ => rfl) (by decide) (fun _ _ => rfl) ?_
    refine mJ_iload_n hK dX5_choicesOf_14 rfl ?_
    refine xJ_aldC a hR hK dX5_choicesOf_15 (by unfold xV; omega) rfl (by omega) ?_
    refine xJ_getx (nI (q a)) hR hK dX5_choicesOf_16 fX5_135 (by unfold xV; omega) (fun _ _ => rfl) (by decide) rfl ((hq a (by omega)).1) ?_
    refine mJ_goto (tgt := 23) hK dX5_choicesOf_19 (by decide) ?_
    refine mJ_iret hK dX5_choicesOf_23 rfl hZ (by decide) (by decide) ?_
    first | exact ⟨by rw [hn, if_pos c_4], rfl⟩ | exact ⟨by rw [hn, if_neg c_4], rfl⟩

set_option maxRecDepth 100000 in
set_option maxHeartbeats 4000000 in
theorem k_X5_valueOf {l : Launch} {D : va_G} {aC : Nat → ClassId} {ad : xAd} {h0 h : mH} {F : xFm} {W : xWm} {pm : Nat → Nat} (hR : xR xV ad h0 F W pm h) {q : Nat → Nat} (hq : ∀ c, c < 8 → F 13 0 c 3 = nI (q c) ∧ q c ≤ 8) {a i : Nat} (ha : a < 18) (hi : a < 8 → i < q a) : mCon l D aC mX5_valueOf [.ref (ad 0 0 0), .int (nI a), .int (nI i)] h (mRi (vlX F a i) (fun h' => h' = h)) := by
  refine mCon.of [some (.ref (ad 0 0 0)), some (.int (nI a)), some (.int (nI i))] (by decide +kernel) rfl (Nat.le_of_ble_eq_true rfl) ?_
  intro K el eD eC hK hZ
  subst el eD eC
  refine mJ_iload_n hK dX5_valueOf_0 rfl ?_
  refine mJ_cSi hK dX5_valueOf_1 lX5_161 (by unfold mFit; decide) (by decide) (k_X5_isChannelN (by omega)) rfl rfl (Nat.le_of_ble_eq_true rfl) (fun h e9 => ?_)
  subst e9
  refine mJ_ifb_eq (tgt := 23) hK dX5_valueOf_4 (by decide) (fun c_4 => ?_) (fun c_4 => ?_)
  · refine mJ_iload_n hK dX5_valueOf_23 rfl ?_
    refine mJ_bipush (v := nI 8) hK dX5_valueOf_24 (by decide) ?_
    refine mJ_isubN hK dX5_valueOf_26 (by omega) ?_
    refine mJ_iret hK dX5_valueOf_27 rfl hZ (by decide) (by decide) ?_
    first | exact ⟨by rw [vlX, if_pos c_4], rfl⟩ | exact ⟨by rw [vlX, if_neg c_4], rfl⟩
  · refine mJ_aload_n hK dX5_valueOf_7 rfl ?_
    refine xJ_getr hR hK dX5_valueOf_8 fX5_29 (by unfold xV; omega) (fun _ _ => rfl) (by decide) (fun _ _ => rfl) ?_
    refine xJ_getr hR hK dX5_valueOf_11 fX5_108 (by unfold xV; omega) (fun _ _ => rfl) (by decide) (fun _ _ => rfl) ?_
    refine mJ_iload_n hK dX5_valueOf_14 rfl ?_
    refine xJ_aldC a hR hK dX5_valueOf_15 (by unfold xV; omega) rfl (by omega) ?_
    refine mJ_iload_n hK dX5_valueOf_16 rfl ?_
    refine mJ_cVi hK dX5_valueOf_17 lX5_147 (by unfold mFit; decide) (by decide) (k_X0_valueAt hR (by omega) c_4 (hq a c_4).1 (hq a c_4).2 (hi c_4)) rfl rfl (Nat.le_of_ble_eq_true rfl) (hR.1 _ _ _ (by unfold xV; omega)) ⟨_, _, rfl⟩ (fun h e9 => ?_)
    subst e9
    refine mJ_goto (tgt := 27) hK dX5_valueOf_20 (by decide) ?_
    refine mJ_iret hK dX5_valueOf_27 rfl hZ (by decide) (by decide) ?_
    first | exact ⟨by rw [vlX, if_pos c_4], rfl⟩ | exact ⟨by rw [vlX, if_neg c_4], rfl⟩

set_option maxRecDepth 100000 in
set_option maxHeartbeats 4000000 in
theorem k_X5_choose {l : Launch} {D : va_G} {aC : Nat → ClassId} {ad : xAd} {h0 h : mH} {F : xFm} {W : xWm} {pm : Nat → Nat} (hR : xR xV ad h0 F W pm h) {a i : Nat} (ha : a < 18) : mCon l D aC mX5_choose [.ref (ad 0 0 0), .int (nI a), .int (nI i)] h (mRv (fun h' => xR xV ad h0 (fr F 4 0 0 (cho (F 4 0 0) a i)) W pm h')) := by
  refine mCon.of [some (.ref (ad 0 0 0)), some (.int (nI a)), some (.int (nI i))] (by decide +kernel) rfl (Nat.le_of_ble_eq_true rfl) ?_
  intro K el eD eC hK hZ
  subst el eD eC
  refine mJ_iload_n hK dX5_choose_0 rfl ?_
  refine mJ_cSi hK dX5_choose_1 lX5_161 (by unfold mFit; decide) (by decide) (k_X5_isChannelN (by omega)) rfl rfl (Nat.le_of_ble_eq_true rfl) (fun h e9 => ?_)
  subst e9
  refine mJ_ifb_eq (tgt := 14) hK dX5_choose_4 (by decide) (fun c_4 => ?_) (fun c_4 => ?_)
  · refine mJ_vret hK dX5_choose_14 rfl hZ (by decide) (by decide) ?_
    first | exact ⟨rfl, xR_ext hR (by rw [cho, if_pos c_4])⟩ | exact ⟨rfl, xR_ext hR (by rw [cho, if_neg c_4, fr_self])⟩
  · refine mJ_aload_n hK dX5_choose_7 rfl ?_
    refine xJ_getr hR hK dX5_choose_8 fX5_36 (by unfold xV; omega) (fun _ _ => rfl) (by decide) (fun _ _ => rfl) ?_
    refine mJ_iload_n hK dX5_choose_11 rfl ?_
    refine mJ_iload_n hK dX5_choose_12 rfl ?_
    refine xJ_iast a hR hK dX5_choose_13 (by unfold xV; omega) (fun _ _ => rfl) rfl (by omega) (by decide) (fun h hR => ?_)
    refine mJ_vret hK dX5_choose_14 rfl hZ (by decide) (by decide) ?_
    first | exact ⟨rfl, xR_ext hR (by rw [cho, if_pos c_4])⟩ | exact ⟨rfl, xR_ext hR (by rw [cho, if_neg c_4, fr_self])⟩

theorem hR_fin {ad : xAd} {h0 h : mH} {F : xFm} {W : xWm} {pm : Nat → Nat} {z : Nat → Int32} {a b i j : Nat} (hR : xR xV ad h0 (fr (fr (fr F 4 0 0 z) 4 0 0 (cho (fr F 4 0 0 z 4 0 0) a i)) 4 0 0 (cho (fr (fr F 4 0 0 z) 4 0 0 (cho (fr F 4 0 0 z 4 0 0) a i) 4 0 0) b j)) W pm h) : xR xV ad h0 (fr F 4 0 0 (cho (cho z a i) b j)) W pm h := by
  simp only [fr_s, fr_fr] at hR
  exact hR
theorem cho2 {z : Nat → Int32} (hz : ∀ c, c < 8 → z c = nI 0) {a b i j c : Nat} (hc : c < 8) : cho (cho z a i) b j c = chs a b i j c := by
  have h1 : cho z a i c = cho (fun _ => nI 0) a i c := by
    unfold cho
    split
    · unfold upd
      split
      · rfl
      · exact hz c hc
    · exact hz c hc
  show cho (cho z a i) b j c = cho (cho (fun _ => nI 0) a i) b j c
  unfold cho at h1 ⊢
  split
  · unfold upd
    split
    · rfl
    · exact h1
  · exact h1
set_option maxRecDepth 100000 in
set_option maxHeartbeats 4000000 in
theorem lp_X5_findMatch_in {K : mK} (hK : mCx K mX5_findMatch) {ad : xAd} {h0 : mH} {F : xFm} {W : xWm} {pm : Nat → Nat} {r : Nat} (hr : r < 9) {q : Nat → Nat} (hq : ∀ c, c < 8 → F 13 0 c 3 = nI (q c) ∧ q c ≤ 8) {gl gr le re : Nat} (hgl : F 17 r 0 1 = nI gl) (hgr : F 17 r 0 3 = nI gr) (hgl18 : gl < 18) (hgr18 : gr < 18) (hle : le = if gl < 8 then q gl else 1) (hre : re = if gr < 8 then q gr else 1) {z : Nat → Int32} (hz : ∀ c, c < 8 → z c = nI 0) {fm : Option (Nat × Nat)} {i : Nat} (hi : i < le) (kout : ∀ (v : Option Value) (h : mH), fm = fI (mtT F r gl gr) re (le - (i + 1)) (i + 1) → xR xV ad h0 (fr F 4 0 0 z) W pm h → mJ K 0 0 132 [some (.ref (ad 0 0 0)), some (.ref (ad 17 r 0)), some (.int (nI gl)), some (.int (nI gr)), some (.int (nI le)), some (.int (nI re)), some (.int (nI i)), some (.int (nI re)), v] [] h) (hZ : mRt K mX5_findMatch (mRi (bI (fm.isSome = true)) (fun h' => ∃ ch : Nat → Int32, xR xV ad h0 (fr F 4 0 0 ch) W pm h' ∧ ∀ i j, fm = some (i, j) → ∀ c, c < 8 → ch c = chs gl gr i j c))) : ∀ (fu : Nat) (j : Nat) (v : Option Value) (h : mH), re - j < fu → (j ≤ re) → (fm = (match fJ (mtT F r gl gr i) (re - j) j with | some j9 => some (i, j9) | none => fI (mtT F r gl gr) re (le - (i + 1)) (i + 1))) → (xR xV ad h0 (fr F 4 0 0 z) W pm h) → mJ K 0 0 58 [some (.ref (ad 0 0 0)), some (.ref (ad 17 r 0)), some (.int (nI gl)), some (.int (nI gr)), some (.int (nI le)), some (.int (nI re)), some (.int (nI i)), some (.int (nI j)), v] [] h := by
  intro fu
  induction fu with
  | zero =>
    intro j v h hm0
    exact absurd hm0 (by omega)
  | succ fu ih =>
    intro j v h hm0 hj hfm hR
    have b1 : le < 100 := by rw [hle]; split <;> first | omega | (have := (hq gl (by assumption)).2; omega)
    have b2 : re < 100 := by rw [hre]; split <;> first | omega | (have := (hq gr (by assumption)).2; omega)
    refine mJ_iload hK dX5_findMatch_58 rfl ?_
    refine mJ_iload hK dX5_findMatch_60 rfl ?_
    refine mJ_nge (tgt := 132) hK dX5_findMatch_62 (by decide) (by omega) (by omega) (fun c_62 => ?_) (fun c_62 => ?_)
    · have hj9 : j = re := by omega
      subst hj9
      exact kout v h (by rw [hfm, Nat.sub_self]; rfl) hR
    · refine mJ_iload_n hK dX5_findMatch_65 rfl ?_
      refine mJ_iload_n hK dX5_findMatch_66 rfl ?_
      refine mJ_nne (tgt := 77) hK dX5_findMatch_67 (by decide) (by omega) (by omega) (fun c_67 => ?_) (fun c_67 => ?_)
      · refine mJ_iconst (v := nI 1) hK dX5_findMatch_77 (by decide) ?_
        refine mJ_goto (tgt := 82) hK dX5_findMatch_78 (by decide) ?_
        refine mJ_istore hK dX5_findMatch_82 (by decide) rfl ?_
        refine mJ_iload hK dX5_findMatch_84 rfl ?_
        refine mJ_nif_eq (tgt := 126) hK dX5_findMatch_86 (by decide) (by omega) (fun c_86 => ?_) (fun c_86 => ?_)
        · exact absurd c_86 (by omega)
        · refine mJ_aload_n hK dX5_findMatch_89 rfl ?_
          refine mJ_aload_n hK dX5_findMatch_90 rfl ?_
          refine mJ_iload_n hK dX5_findMatch_91 rfl ?_
          refine mJ_iload hK dX5_findMatch_92 rfl ?_
          refine mJ_cVi hK dX5_findMatch_94 lX5_273 (by unfold mFit; decide) (by decide) (k_X5_valueOf hR hq (a := gl) (i := i) (by omega) (fun z9 => by rw [if_pos z9] at hle; omega)) rfl rfl (Nat.le_of_ble_eq_true rfl) (hR.1 _ _ _ (by unfold xV; omega)) ⟨_, _, rfl⟩ (fun h e9 => ?_)
          subst e9
          refine mJ_aload_n hK dX5_findMatch_97 rfl ?_
          refine mJ_iload_n hK dX5_findMatch_98 rfl ?_
          refine mJ_iload hK dX5_findMatch_99 rfl ?_
          refine mJ_cVi hK dX5_findMatch_101 lX5_273 (by unfold mFit; decide) (by decide) (k_X5_valueOf hR hq (a := gr) (i := j) (by omega) (fun z9 => by rw [if_pos z9] at hre; omega)) rfl rfl (Nat.le_of_ble_eq_true rfl) (hR.1 _ _ _ (by unfold xV; omega)) ⟨_, _, rfl⟩ (fun h e9 => ?_)
          subst e9
          refine mJ_cVi hK dX5_findMatch_104 lX5_277 (by unfold mFit; decide) (by decide) (k_X1_guardHolds hR hr _ _) rfl rfl (Nat.le_of_ble_eq_true rfl) (hR.1 _ _ _ (by unfold xV; omega)) ⟨_, _, rfl⟩ (fun h e9 => ?_)
          subst e9
          refine mJ_ifb_eq (tgt := 126) hK dX5_findMatch_107 (by decide) (fun c_107 => ?_) (fun c_107 => ?_)
          · refine mJ_iincN hK dX5_findMatch_126 rfl rfl (by decide) rfl ?_
            refine mJ_goto (tgt := 58) hK dX5_findMatch_129 (by decide) ?_
            refine ih (j + 1) (some (.int (nI 1))) _ (by omega) (by omega) ?_ hR
            rw [hfm, fJ_f c_62 (by rw [decide_eq_true_iff]; rintro ⟨z1, z2⟩; first | omega | exact c_107 z2)]
          · refine mJ_aload_n hK dX5_findMatch_110 rfl ?_
            refine mJ_iload_n hK dX5_findMatch_111 rfl ?_
            refine mJ_iload hK dX5_findMatch_112 rfl ?_
            refine mJ_cVv hK dX5_findMatch_114 lX5_281 (by unfold mFit; decide) (by decide) (k_X5_choose hR (a := gl) (i := i) (by omega)) rfl rfl (Nat.le_of_ble_eq_true rfl) (hR.1 _ _ _ (by unfold xV; omega)) ⟨_, _, rfl⟩ (fun h hR => ?_)
            refine mJ_aload_n hK dX5_findMatch_117 rfl ?_
            refine mJ_iload_n hK dX5_findMatch_118 rfl ?_
            refine mJ_iload hK dX5_findMatch_119 rfl ?_
            refine mJ_cVv hK dX5_findMatch_121 lX5_281 (by unfold mFit; decide) (by decide) (k_X5_choose hR (a := gr) (i := j) (by omega)) rfl rfl (Nat.le_of_ble_eq_true rfl) (hR.1 _ _ _ (by unfold xV; omega)) ⟨_, _, rfl⟩ (fun h hR => ?_)
            refine mJ_iconst (v := nI 1) hK dX5_findMatch_124 (by decide) ?_
            refine mJ_zret hK dX5_findMatch_125 rfl (by decide) hZ (by decide) (by decide) ?_
            have ht : mtT F r gl gr i j = true := decide_eq_true ⟨by omega, c_107⟩
            have hf : fm = some (i, j) := by rw [hfm, fJ_t c_62 ht]
            refine ⟨congrArg (fun z9 => some (Value.int z9)) (by rw [hf]; exact (bI_t rfl).symm), _, hR_fin hR, ?_⟩
            intro i9 j9 h9 c9 hc9
            rw [hf] at h9
            cases h9
            exact cho2 hz hc9
      · refine mJ_iload hK dX5_findMatch_70 rfl ?_
        refine mJ_iload hK dX5_findMatch_72 rfl ?_
        refine mJ_nne (tgt := 81) hK dX5_findMatch_74 (by decide) (by omega) (by omega) (fun c_74 => ?_) (fun c_74 => ?_)
        · refine mJ_iconst (v := nI 0) hK dX5_findMatch_81 (by decide) ?_
          refine mJ_istore hK dX5_findMatch_82 (by decide) rfl ?_
          refine mJ_iload hK dX5_findMatch_84 rfl ?_
          refine mJ_nif_eq (tgt := 126) hK dX5_findMatch_86 (by decide) (by omega) (fun c_86 => ?_) (fun c_86 => ?_)
          · refine mJ_iincN hK dX5_findMatch_126 rfl rfl (by decide) rfl ?_
            refine mJ_goto (tgt := 58) hK dX5_findMatch_129 (by decide) ?_
            refine ih (j + 1) (some (.int (nI 0))) _ (by omega) (by omega) ?_ hR
            rw [hfm, fJ_f c_62 (by rw [decide_eq_true_iff]; rintro ⟨z1, z2⟩; first | omega | exact c_107 z2)]
          · exact absurd c_86 (by omega)
        · refine mJ_iconst (v := nI 1) hK dX5_findMatch_77 (by decide) ?_
          refine mJ_goto (tgt := 82) hK dX5_findMatch_78 (by decide) ?_
          refine mJ_istore hK dX5_findMatch_82 (by decide) rfl ?_
          refine mJ_iload hK dX5_findMatch_84 rfl ?_
          refine mJ_nif_eq (tgt := 126) hK dX5_findMatch_86 (by decide) (by omega) (fun c_86 => ?_) (fun c_86 => ?_)
          · exact absurd c_86 (by omega)
          · refine mJ_aload_n hK dX5_findMatch_89 rfl ?_
            refine mJ_aload_n hK dX5_findMatch_90 rfl ?_
            refine mJ_iload_n hK dX5_findMatch_91 rfl ?_
            refine mJ_iload hK dX5_findMatch_92 rfl ?_
            refine mJ_cVi hK dX5_findMatch_94 lX5_273 (by unfold mFit; decide) (by decide) (k_X5_valueOf hR hq (a := gl) (i := i) (by omega) (fun z9 => by rw [if_pos z9] at hle; omega)) rfl rfl (Nat.le_of_ble_eq_true rfl) (hR.1 _ _ _ (by unfold xV; omega)) ⟨_, _, rfl⟩ (fun h e9 => ?_)
            subst e9
            refine mJ_aload_n hK dX5_findMatch_97 rfl ?_
            refine mJ_iload_n hK dX5_findMatch_98 rfl ?_
            refine mJ_iload hK dX5_findMatch_99 rfl ?_
            refine mJ_cVi hK dX5_findMatch_101 lX5_273 (by unfold mFit; decide) (by decide) (k_X5_valueOf hR hq (a := gr) (i := j) (by omega) (fun z9 => by rw [if_pos z9] at hre; omega)) rfl rfl (Nat.le_of_ble_eq_true rfl) (hR.1 _ _ _ (by unfold xV; omega)) ⟨_, _, rfl⟩ (fun h e9 => ?_)
            subst e9
            refine mJ_cVi hK dX5_findMatch_104 lX5_277 (by unfold mFit; decide) (by decide) (k_X1_guardHolds hR hr _ _) rfl rfl (Nat.le_of_ble_eq_true rfl) (hR.1 _ _ _ (by unfold xV; omega)) ⟨_, _, rfl⟩ (fun h e9 => ?_)
            subst e9
            refine mJ_ifb_eq (tgt := 126) hK dX5_findMatch_107 (by decide) (fun c_107 => ?_) (fun c_107 => ?_)
            · refine mJ_iincN hK dX5_findMatch_126 rfl rfl (by decide) rfl ?_
              refine mJ_goto (tgt := 58) hK dX5_findMatch_129 (by decide) ?_
              refine ih (j + 1) (some (.int (nI 1))) _ (by omega) (by omega) ?_ hR
              rw [hfm, fJ_f c_62 (by rw [decide_eq_true_iff]; rintro ⟨z1, z2⟩; first | omega | exact c_107 z2)]
            · refine mJ_aload_n hK dX5_findMatch_110 rfl ?_
              refine mJ_iload_n hK dX5_findMatch_111 rfl ?_
              refine mJ_iload hK dX5_findMatch_112 rfl ?_
              refine mJ_cVv hK dX5_findMatch_114 lX5_281 (by unfold mFit; decide) (by decide) (k_X5_choose hR (a := gl) (i := i) (by omega)) rfl rfl (Nat.le_of_ble_eq_true rfl) (hR.1 _ _ _ (by unfold xV; omega)) ⟨_, _, rfl⟩ (fun h hR => ?_)
              refine mJ_aload_n hK dX5_findMatch_117 rfl ?_
              refine mJ_iload_n hK dX5_findMatch_118 rfl ?_
              refine mJ_iload hK dX5_findMatch_119 rfl ?_
              refine mJ_cVv hK dX5_findMatch_121 lX5_281 (by unfold mFit; decide) (by decide) (k_X5_choose hR (a := gr) (i := j) (by omega)) rfl rfl (Nat.le_of_ble_eq_true rfl) (hR.1 _ _ _ (by unfold xV; omega)) ⟨_, _, rfl⟩ (fun h hR => ?_)
              refine mJ_iconst (v := nI 1) hK dX5_findMatch_124 (by decide) ?_
              refine mJ_zret hK dX5_findMatch_125 rfl (by decide) hZ (by decide) (by decide) ?_
              have ht : mtT F r gl gr i j = true := decide_eq_true ⟨by omega, c_107⟩
              have hf : fm = some (i, j) := by rw [hfm, fJ_t c_62 ht]
              refine ⟨congrArg (fun z9 => some (Value.int z9)) (by rw [hf]; exact (bI_t rfl).symm), _, hR_fin hR, ?_⟩
              intro i9 j9 h9 c9 hc9
              rw [hf] at h9
              cases h9
              exact cho2 hz hc9

set_option maxRecDepth 100000 in
set_option maxHeartbeats 4000000 in
theorem lp_X5_findMatch {K : mK} (hK : mCx K mX5_findMatch) {ad : xAd} {h0 : mH} {F : xFm} {W : xWm} {pm : Nat → Nat} {r : Nat} (hr : r < 9) {q : Nat → Nat} (hq : ∀ c, c < 8 → F 13 0 c 3 = nI (q c) ∧ q c ≤ 8) {gl gr le re : Nat} (hgl : F 17 r 0 1 = nI gl) (hgr : F 17 r 0 3 = nI gr) (hgl18 : gl < 18) (hgr18 : gr < 18) (hle : le = if gl < 8 then q gl else 1) (hre : re = if gr < 8 then q gr else 1) {z : Nat → Int32} (hz : ∀ c, c < 8 → z c = nI 0) {fm : Option (Nat × Nat)} (hZ : mRt K mX5_findMatch (mRi (bI (fm.isSome = true)) (fun h' => ∃ ch : Nat → Int32, xR xV ad h0 (fr F 4 0 0 ch) W pm h' ∧ ∀ i j, fm = some (i, j) → ∀ c, c < 8 → ch c = chs gl gr i j c))) : ∀ (fu : Nat) (i : Nat) (u v : Option Value) (h : mH), le - i < fu → (i ≤ le) → (fm = fI (mtT F r gl gr) re (le - i) i) → (xR xV ad h0 (fr F 4 0 0 z) W pm h) → mJ K 0 0 48 [some (.ref (ad 0 0 0)), some (.ref (ad 17 r 0)), some (.int (nI gl)), some (.int (nI gr)), some (.int (nI le)), some (.int (nI re)), some (.int (nI i)), u, v] [] h := by
  intro fu
  induction fu with
  | zero =>
    intro i u v h hm0
    exact absurd hm0 (by omega)
  | succ fu ih =>
    intro i u v h hm0 hi hfm hR
    have b1 : le < 100 := by rw [hle]; split <;> first | omega | (have := (hq gl (by assumption)).2; omega)
    have b2 : re < 100 := by rw [hre]; split <;> first | omega | (have := (hq gr (by assumption)).2; omega)
    refine mJ_iload hK dX5_findMatch_48 rfl ?_
    refine mJ_iload hK dX5_findMatch_50 rfl ?_
    refine mJ_nge (tgt := 138) hK dX5_findMatch_52 (by decide) (by omega) (by omega) (fun c_52 => ?_) (fun c_52 => ?_)
    · refine mJ_iconst (v := nI 0) hK dX5_findMatch_138 (by decide) ?_
      refine mJ_zret hK dX5_findMatch_139 rfl (by decide) hZ (by decide) (by decide) ?_
      have hi9 : i = le := by omega
      subst hi9
      rw [Nat.sub_self] at hfm
      exact ⟨congrArg (fun z9 => some (Value.int z9)) (by rw [hfm]; exact (bI_f (fun z9 => by cases z9)).symm), _, hR, fun i9 j9 h9 => by rw [hfm] at h9; cases h9⟩
    · refine mJ_iconst (v := nI 0) hK dX5_findMatch_55 (by decide) ?_
      refine mJ_istore hK dX5_findMatch_56 (by decide) rfl ?_
      refine lp_X5_findMatch_in hK hr hq hgl hgr hgl18 hgr18 hle hre hz c_52 ?_ hZ (re + 1) 0 v _ (by omega) (by omega) (by rw [hfm, fI_s c_52]; rfl) hR
      intro v h hfm hR
      refine mJ_iincN hK dX5_findMatch_132 rfl rfl (by decide) rfl ?_
      refine mJ_goto (tgt := 48) hK dX5_findMatch_135 (by decide) ?_
      exact ih (i + 1) (some (.int (nI re))) v _ (by omega) (by omega) hfm hR
