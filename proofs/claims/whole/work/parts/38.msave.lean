def cpN {α : Type} (a b : Nat → α) (e : Nat) : Nat → α := fun j => if j < e then a j else b j
theorem cpN_s {a b : Nat → Int32} {e : Nat} : upd (cpN a b e) e (a e) = cpN a b (e + 1) := by
  funext j
  unfold upd cpN
  by_cases h : j = e
  · subst h
    rw [if_pos rfl, if_pos (by omega)]
  · rw [if_neg h]
    by_cases h2 : j < e
    · rw [if_pos h2, if_pos (by omega)]
    · rw [if_neg h2, if_neg (by omega)]
theorem cpL_s {a b : Nat → Int64} {e : Nat} : vp_updL (cpN a b e) e (a e) = cpN a b (e + 1) := by
  funext j
  unfold vp_updL cpN
  by_cases h : j = e
  · subst h
    simp
  · by_cases h2 : j < e
    · simp [h, h2, (show j < e + 1 by omega)]
    · simp [h, h2, (show ¬ j < e + 1 by omega)]
theorem cpN_0 {α : Type} {a b : Nat → α} : cpN a b 0 = b := by
  funext j
  simp [cpN]
set_option maxRecDepth 100000 in
set_option maxHeartbeats 4000000 in
theorem lp_X6_copy_44_73 {K : mK} (hK : mCx K mX6_copy) {ad : xAd} {h0 : mH} {F : xFm} {W : xWm} {pm : Nat → Nat} (hZ : mRt K mX6_copy (mRv (fun h' => xR yV ad h0 (fr F 73 0 0 (cpN (F 44 0 0) (F 73 0 0) 8)) W pm h'))) : ∀ (fu : Nat) (e : Nat) (h : mH), 8 - e < fu → (e ≤ 8) → (xR yV ad h0 (fr F 73 0 0 (cpN (F 44 0 0) (F 73 0 0) e)) W pm h) → mJ K 0 0 2 [some (.ref (ad 44 0 0)), some (.ref (ad 73 0 0)), some (.int (nI e))] [] h := by
  intro fu
  induction fu with
  | zero =>
    intro e h hm0
    exact absurd hm0 (by omega)
  | succ fu ih =>
    intro e h hm0 he hR
    refine mJ_iload_n hK dX6_copy_2 rfl ?_
    refine mJ_aload_n hK dX6_copy_3 rfl ?_
    refine mJ_alen (v := nI 8) hK dX6_copy_4 (hR.1 _ _ _ (by unfold yV; omega)) (fun _ => rfl) rfl ?_
    refine mJ_nge (tgt := 20) hK dX6_copy_5 (by decide) (by omega) (by omega) (fun c_5 => ?_) (fun c_5 => ?_)
    · refine mJ_vret hK dX6_copy_20 rfl hZ (by decide) (by decide) ?_
      have : e = 8 := by omega
      subst this
      exact ⟨rfl, hR⟩
    · refine mJ_aload_n hK dX6_copy_8 rfl ?_
      refine mJ_iload_n hK dX6_copy_9 rfl ?_
      refine mJ_aload_n hK dX6_copy_10 rfl ?_
      refine mJ_iload_n hK dX6_copy_11 rfl ?_
      refine xJ_iald e hR hK dX6_copy_12 (by unfold yV; omega) (fun _ _ => rfl) rfl (by omega) (by decide) ?_
      refine xJ_iast e hR hK dX6_copy_13 (by unfold yV; omega) (fun _ _ => rfl) rfl (by omega) (by decide) (fun h hR => ?_)
      refine mJ_iincN hK dX6_copy_14 rfl rfl (by decide) rfl ?_
      refine mJ_goto (tgt := 2) hK dX6_copy_17 (by decide) ?_
      exact ih (e + 1) _ (by omega) (by omega) (xR_ext hR (by rw [fr_s, fr_fr]; exact congrArg (fr F 73 0 0) cpN_s))

set_option maxRecDepth 100000 in
set_option maxHeartbeats 4000000 in
theorem k_X6_copy_44_73 {l : Launch} {D : va_G} {aC : Nat → ClassId} {ad : xAd} {h0 h : mH} {F : xFm} {W : xWm} {pm : Nat → Nat} (hR : xR yV ad h0 F W pm h) : mCon l D aC mX6_copy [.ref (ad 44 0 0), .ref (ad 73 0 0)] h (mRv (fun h' => xR yV ad h0 (fr F 73 0 0 (cpN (F 44 0 0) (F 73 0 0) 8)) W pm h')) := by
  refine mCon.of [some (.ref (ad 44 0 0)), some (.ref (ad 73 0 0)), none] (by decide +kernel) rfl (Nat.le_of_ble_eq_true rfl) ?_
  intro K el eD eC hK hZ
  subst el eD eC
  refine mJ_iconst (v := nI 0) hK dX6_copy_0 (by decide) ?_
  refine mJ_istore_n hK dX6_copy_1 (by decide) rfl ?_
  exact lp_X6_copy_44_73 hK hZ 9 0 _ (by omega) (by omega) (xR_ext hR (by rw [cpN_0, fr_self]))

set_option maxRecDepth 100000 in
set_option maxHeartbeats 4000000 in
theorem lp_X6_copy_45_74 {K : mK} (hK : mCx K mX6_copy) {ad : xAd} {h0 : mH} {F : xFm} {W : xWm} {pm : Nat → Nat} (hZ : mRt K mX6_copy (mRv (fun h' => xR yV ad h0 (fr F 74 0 0 (cpN (F 45 0 0) (F 74 0 0) 64)) W pm h'))) : ∀ (fu : Nat) (e : Nat) (h : mH), 64 - e < fu → (e ≤ 64) → (xR yV ad h0 (fr F 74 0 0 (cpN (F 45 0 0) (F 74 0 0) e)) W pm h) → mJ K 0 0 2 [some (.ref (ad 45 0 0)), some (.ref (ad 74 0 0)), some (.int (nI e))] [] h := by
  intro fu
  induction fu with
  | zero =>
    intro e h hm0
    exact absurd hm0 (by omega)
  | succ fu ih =>
    intro e h hm0 he hR
    refine mJ_iload_n hK dX6_copy_2 rfl ?_
    refine mJ_aload_n hK dX6_copy_3 rfl ?_
    refine mJ_alen (v := nI 64) hK dX6_copy_4 (hR.1 _ _ _ (by unfold yV; omega)) (fun _ => rfl) rfl ?_
    refine mJ_nge (tgt := 20) hK dX6_copy_5 (by decide) (by omega) (by omega) (fun c_5 => ?_) (fun c_5 => ?_)
    · refine mJ_vret hK dX6_copy_20 rfl hZ (by decide) (by decide) ?_
      have : e = 64 := by omega
      subst this
      exact ⟨rfl, hR⟩
    · refine mJ_aload_n hK dX6_copy_8 rfl ?_
      refine mJ_iload_n hK dX6_copy_9 rfl ?_
      refine mJ_aload_n hK dX6_copy_10 rfl ?_
      refine mJ_iload_n hK dX6_copy_11 rfl ?_
      refine xJ_iald e hR hK dX6_copy_12 (by unfold yV; omega) (fun _ _ => rfl) rfl (by omega) (by decide) ?_
      refine xJ_iast e hR hK dX6_copy_13 (by unfold yV; omega) (fun _ _ => rfl) rfl (by omega) (by decide) (fun h hR => ?_)
      refine mJ_iincN hK dX6_copy_14 rfl rfl (by decide) rfl ?_
      refine mJ_goto (tgt := 2) hK dX6_copy_17 (by decide) ?_
      exact ih (e + 1) _ (by omega) (by omega) (xR_ext hR (by rw [fr_s, fr_fr]; exact congrArg (fr F 74 0 0) cpN_s))

set_option maxRecDepth 100000 in
set_option maxHeartbeats 4000000 in
theorem k_X6_copy_45_74 {l : Launch} {D : va_G} {aC : Nat → ClassId} {ad : xAd} {h0 h : mH} {F : xFm} {W : xWm} {pm : Nat → Nat} (hR : xR yV ad h0 F W pm h) : mCon l D aC mX6_copy [.ref (ad 45 0 0), .ref (ad 74 0 0)] h (mRv (fun h' => xR yV ad h0 (fr F 74 0 0 (cpN (F 45 0 0) (F 74 0 0) 64)) W pm h')) := by
  refine mCon.of [some (.ref (ad 45 0 0)), some (.ref (ad 74 0 0)), none] (by decide +kernel) rfl (Nat.le_of_ble_eq_true rfl) ?_
  intro K el eD eC hK hZ
  subst el eD eC
  refine mJ_iconst (v := nI 0) hK dX6_copy_0 (by decide) ?_
  refine mJ_istore_n hK dX6_copy_1 (by decide) rfl ?_
  exact lp_X6_copy_45_74 hK hZ 65 0 _ (by omega) (by omega) (xR_ext hR (by rw [cpN_0, fr_self]))

set_option maxRecDepth 100000 in
set_option maxHeartbeats 4000000 in
theorem lp_X6_copy_46_75 {K : mK} (hK : mCx K mX6_copy) {ad : xAd} {h0 : mH} {F : xFm} {W : xWm} {pm : Nat → Nat} (hZ : mRt K mX6_copy (mRv (fun h' => xR yV ad h0 (fr F 75 0 0 (cpN (F 46 0 0) (F 75 0 0) 64)) W pm h'))) : ∀ (fu : Nat) (e : Nat) (h : mH), 64 - e < fu → (e ≤ 64) → (xR yV ad h0 (fr F 75 0 0 (cpN (F 46 0 0) (F 75 0 0) e)) W pm h) → mJ K 0 0 2 [some (.ref (ad 46 0 0)), some (.ref (ad 75 0 0)), some (.int (nI e))] [] h := by
  intro fu
  induction fu with
  | zero =>
    intro e h hm0
    exact absurd hm0 (by omega)
  | succ fu ih =>
    intro e h hm0 he hR
    refine mJ_iload_n hK dX6_copy_2 rfl ?_
    refine mJ_aload_n hK dX6_copy_3 rfl ?_
    refine mJ_alen (v := nI 64) hK dX6_copy_4 (hR.1 _ _ _ (by unfold yV; omega)) (fun _ => rfl) rfl ?_
    refine mJ_nge (tgt := 20) hK dX6_copy_5 (by decide) (by omega) (by omega) (fun c_5 => ?_) (fun c_5 => ?_)
    · refine mJ_vret hK dX6_copy_20 rfl hZ (by decide) (by decide) ?_
      have : e = 64 := by omega
      subst this
      exact ⟨rfl, hR⟩
    · refine mJ_aload_n hK dX6_copy_8 rfl ?_
      refine mJ_iload_n hK dX6_copy_9 rfl ?_
      refine mJ_aload_n hK dX6_copy_10 rfl ?_
      refine mJ_iload_n hK dX6_copy_11 rfl ?_
      refine xJ_iald e hR hK dX6_copy_12 (by unfold yV; omega) (fun _ _ => rfl) rfl (by omega) (by decide) ?_
      refine xJ_iast e hR hK dX6_copy_13 (by unfold yV; omega) (fun _ _ => rfl) rfl (by omega) (by decide) (fun h hR => ?_)
      refine mJ_iincN hK dX6_copy_14 rfl rfl (by decide) rfl ?_
      refine mJ_goto (tgt := 2) hK dX6_copy_17 (by decide) ?_
      exact ih (e + 1) _ (by omega) (by omega) (xR_ext hR (by rw [fr_s, fr_fr]; exact congrArg (fr F 75 0 0) cpN_s))

set_option maxRecDepth 100000 in
set_option maxHeartbeats 4000000 in
theorem k_X6_copy_46_75 {l : Launch} {D : va_G} {aC : Nat → ClassId} {ad : xAd} {h0 h : mH} {F : xFm} {W : xWm} {pm : Nat → Nat} (hR : xR yV ad h0 F W pm h) : mCon l D aC mX6_copy [.ref (ad 46 0 0), .ref (ad 75 0 0)] h (mRv (fun h' => xR yV ad h0 (fr F 75 0 0 (cpN (F 46 0 0) (F 75 0 0) 64)) W pm h')) := by
  refine mCon.of [some (.ref (ad 46 0 0)), some (.ref (ad 75 0 0)), none] (by decide +kernel) rfl (Nat.le_of_ble_eq_true rfl) ?_
  intro K el eD eC hK hZ
  subst el eD eC
  refine mJ_iconst (v := nI 0) hK dX6_copy_0 (by decide) ?_
  refine mJ_istore_n hK dX6_copy_1 (by decide) rfl ?_
  exact lp_X6_copy_46_75 hK hZ 65 0 _ (by omega) (by omega) (xR_ext hR (by rw [cpN_0, fr_self]))

set_option maxRecDepth 100000 in
set_option maxHeartbeats 4000000 in
theorem lp_X6_copy_47_76 {K : mK} (hK : mCx K mX6_copy) {ad : xAd} {h0 : mH} {F : xFm} {W : xWm} {pm : Nat → Nat} (hZ : mRt K mX6_copy (mRv (fun h' => xR yV ad h0 (fr F 76 0 0 (cpN (F 47 0 0) (F 76 0 0) 64)) W pm h'))) : ∀ (fu : Nat) (e : Nat) (h : mH), 64 - e < fu → (e ≤ 64) → (xR yV ad h0 (fr F 76 0 0 (cpN (F 47 0 0) (F 76 0 0) e)) W pm h) → mJ K 0 0 2 [some (.ref (ad 47 0 0)), some (.ref (ad 76 0 0)), some (.int (nI e))] [] h := by
  intro fu
  induction fu with
  | zero =>
    intro e h hm0
    exact absurd hm0 (by omega)
  | succ fu ih =>
    intro e h hm0 he hR
    refine mJ_iload_n hK dX6_copy_2 rfl ?_
    refine mJ_aload_n hK dX6_copy_3 rfl ?_
    refine mJ_alen (v := nI 64) hK dX6_copy_4 (hR.1 _ _ _ (by unfold yV; omega)) (fun _ => rfl) rfl ?_
    refine mJ_nge (tgt := 20) hK dX6_copy_5 (by decide) (by omega) (by omega) (fun c_5 => ?_) (fun c_5 => ?_)
    · refine mJ_vret hK dX6_copy_20 rfl hZ (by decide) (by decide) ?_
      have : e = 64 := by omega
      subst this
      exact ⟨rfl, hR⟩
    · refine mJ_aload_n hK dX6_copy_8 rfl ?_
      refine mJ_iload_n hK dX6_copy_9 rfl ?_
      refine mJ_aload_n hK dX6_copy_10 rfl ?_
      refine mJ_iload_n hK dX6_copy_11 rfl ?_
      refine xJ_iald e hR hK dX6_copy_12 (by unfold yV; omega) (fun _ _ => rfl) rfl (by omega) (by decide) ?_
      refine xJ_iast e hR hK dX6_copy_13 (by unfold yV; omega) (fun _ _ => rfl) rfl (by omega) (by decide) (fun h hR => ?_)
      refine mJ_iincN hK dX6_copy_14 rfl rfl (by decide) rfl ?_
      refine mJ_goto (tgt := 2) hK dX6_copy_17 (by decide) ?_
      exact ih (e + 1) _ (by omega) (by omega) (xR_ext hR (by rw [fr_s, fr_fr]; exact congrArg (fr F 76 0 0) cpN_s))

set_option maxRecDepth 100000 in
set_option maxHeartbeats 4000000 in
theorem k_X6_copy_47_76 {l : Launch} {D : va_G} {aC : Nat → ClassId} {ad : xAd} {h0 h : mH} {F : xFm} {W : xWm} {pm : Nat → Nat} (hR : xR yV ad h0 F W pm h) : mCon l D aC mX6_copy [.ref (ad 47 0 0), .ref (ad 76 0 0)] h (mRv (fun h' => xR yV ad h0 (fr F 76 0 0 (cpN (F 47 0 0) (F 76 0 0) 64)) W pm h')) := by
  refine mCon.of [some (.ref (ad 47 0 0)), some (.ref (ad 76 0 0)), none] (by decide +kernel) rfl (Nat.le_of_ble_eq_true rfl) ?_
  intro K el eD eC hK hZ
  subst el eD eC
  refine mJ_iconst (v := nI 0) hK dX6_copy_0 (by decide) ?_
  refine mJ_istore_n hK dX6_copy_1 (by decide) rfl ?_
  exact lp_X6_copy_47_76 hK hZ 65 0 _ (by omega) (by omega) (xR_ext hR (by rw [cpN_0, fr_self]))

set_option maxRecDepth 100000 in
set_option maxHeartbeats 4000000 in
theorem lp_X6_copy_50_77 {K : mK} (hK : mCx K mX6_copy) {ad : xAd} {h0 : mH} {F : xFm} {W : xWm} {pm : Nat → Nat} (hZ : mRt K mX6_copy (mRv (fun h' => xR yV ad h0 (fr F 77 0 0 (cpN (F 50 0 0) (F 77 0 0) 24)) W pm h'))) : ∀ (fu : Nat) (e : Nat) (h : mH), 24 - e < fu → (e ≤ 24) → (xR yV ad h0 (fr F 77 0 0 (cpN (F 50 0 0) (F 77 0 0) e)) W pm h) → mJ K 0 0 2 [some (.ref (ad 50 0 0)), some (.ref (ad 77 0 0)), some (.int (nI e))] [] h := by
  intro fu
  induction fu with
  | zero =>
    intro e h hm0
    exact absurd hm0 (by omega)
  | succ fu ih =>
    intro e h hm0 he hR
    refine mJ_iload_n hK dX6_copy_2 rfl ?_
    refine mJ_aload_n hK dX6_copy_3 rfl ?_
    refine mJ_alen (v := nI 24) hK dX6_copy_4 (hR.1 _ _ _ (by unfold yV; omega)) (fun _ => rfl) rfl ?_
    refine mJ_nge (tgt := 20) hK dX6_copy_5 (by decide) (by omega) (by omega) (fun c_5 => ?_) (fun c_5 => ?_)
    · refine mJ_vret hK dX6_copy_20 rfl hZ (by decide) (by decide) ?_
      have : e = 24 := by omega
      subst this
      exact ⟨rfl, hR⟩
    · refine mJ_aload_n hK dX6_copy_8 rfl ?_
      refine mJ_iload_n hK dX6_copy_9 rfl ?_
      refine mJ_aload_n hK dX6_copy_10 rfl ?_
      refine mJ_iload_n hK dX6_copy_11 rfl ?_
      refine xJ_iald e hR hK dX6_copy_12 (by unfold yV; omega) (fun _ _ => rfl) rfl (by omega) (by decide) ?_
      refine xJ_iast e hR hK dX6_copy_13 (by unfold yV; omega) (fun _ _ => rfl) rfl (by omega) (by decide) (fun h hR => ?_)
      refine mJ_iincN hK dX6_copy_14 rfl rfl (by decide) rfl ?_
      refine mJ_goto (tgt := 2) hK dX6_copy_17 (by decide) ?_
      exact ih (e + 1) _ (by omega) (by omega) (xR_ext hR (by rw [fr_s, fr_fr]; exact congrArg (fr F 77 0 0) cpN_s))

set_option maxRecDepth 100000 in
set_option maxHeartbeats 4000000 in
theorem k_X6_copy_50_77 {l : Launch} {D : va_G} {aC : Nat → ClassId} {ad : xAd} {h0 h : mH} {F : xFm} {W : xWm} {pm : Nat → Nat} (hR : xR yV ad h0 F W pm h) : mCon l D aC mX6_copy [.ref (ad 50 0 0), .ref (ad 77 0 0)] h (mRv (fun h' => xR yV ad h0 (fr F 77 0 0 (cpN (F 50 0 0) (F 77 0 0) 24)) W pm h')) := by
  refine mCon.of [some (.ref (ad 50 0 0)), some (.ref (ad 77 0 0)), none] (by decide +kernel) rfl (Nat.le_of_ble_eq_true rfl) ?_
  intro K el eD eC hK hZ
  subst el eD eC
  refine mJ_iconst (v := nI 0) hK dX6_copy_0 (by decide) ?_
  refine mJ_istore_n hK dX6_copy_1 (by decide) rfl ?_
  exact lp_X6_copy_50_77 hK hZ 25 0 _ (by omega) (by omega) (xR_ext hR (by rw [cpN_0, fr_self]))

set_option maxRecDepth 100000 in
set_option maxHeartbeats 4000000 in
theorem lp_X6_copy_51_78 {K : mK} (hK : mCx K mX6_copy) {ad : xAd} {h0 : mH} {F : xFm} {W : xWm} {pm : Nat → Nat} (hZ : mRt K mX6_copy (mRv (fun h' => xR yV ad h0 (fr F 78 0 0 (cpN (F 51 0 0) (F 78 0 0) 24)) W pm h'))) : ∀ (fu : Nat) (e : Nat) (h : mH), 24 - e < fu → (e ≤ 24) → (xR yV ad h0 (fr F 78 0 0 (cpN (F 51 0 0) (F 78 0 0) e)) W pm h) → mJ K 0 0 2 [some (.ref (ad 51 0 0)), some (.ref (ad 78 0 0)), some (.int (nI e))] [] h := by
  intro fu
  induction fu with
  | zero =>
    intro e h hm0
    exact absurd hm0 (by omega)
  | succ fu ih =>
    intro e h hm0 he hR
    refine mJ_iload_n hK dX6_copy_2 rfl ?_
    refine mJ_aload_n hK dX6_copy_3 rfl ?_
    refine mJ_alen (v := nI 24) hK dX6_copy_4 (hR.1 _ _ _ (by unfold yV; omega)) (fun _ => rfl) rfl ?_
    refine mJ_nge (tgt := 20) hK dX6_copy_5 (by decide) (by omega) (by omega) (fun c_5 => ?_) (fun c_5 => ?_)
    · refine mJ_vret hK dX6_copy_20 rfl hZ (by decide) (by decide) ?_
      have : e = 24 := by omega
      subst this
      exact ⟨rfl, hR⟩
    · refine mJ_aload_n hK dX6_copy_8 rfl ?_
      refine mJ_iload_n hK dX6_copy_9 rfl ?_
      refine mJ_aload_n hK dX6_copy_10 rfl ?_
      refine mJ_iload_n hK dX6_copy_11 rfl ?_
      refine xJ_iald e hR hK dX6_copy_12 (by unfold yV; omega) (fun _ _ => rfl) rfl (by omega) (by decide) ?_
      refine xJ_iast e hR hK dX6_copy_13 (by unfold yV; omega) (fun _ _ => rfl) rfl (by omega) (by decide) (fun h hR => ?_)
      refine mJ_iincN hK dX6_copy_14 rfl rfl (by decide) rfl ?_
      refine mJ_goto (tgt := 2) hK dX6_copy_17 (by decide) ?_
      exact ih (e + 1) _ (by omega) (by omega) (xR_ext hR (by rw [fr_s, fr_fr]; exact congrArg (fr F 78 0 0) cpN_s))

set_option maxRecDepth 100000 in
set_option maxHeartbeats 4000000 in
theorem k_X6_copy_51_78 {l : Launch} {D : va_G} {aC : Nat → ClassId} {ad : xAd} {h0 h : mH} {F : xFm} {W : xWm} {pm : Nat → Nat} (hR : xR yV ad h0 F W pm h) : mCon l D aC mX6_copy [.ref (ad 51 0 0), .ref (ad 78 0 0)] h (mRv (fun h' => xR yV ad h0 (fr F 78 0 0 (cpN (F 51 0 0) (F 78 0 0) 24)) W pm h')) := by
  refine mCon.of [some (.ref (ad 51 0 0)), some (.ref (ad 78 0 0)), none] (by decide +kernel) rfl (Nat.le_of_ble_eq_true rfl) ?_
  intro K el eD eC hK hZ
  subst el eD eC
  refine mJ_iconst (v := nI 0) hK dX6_copy_0 (by decide) ?_
  refine mJ_istore_n hK dX6_copy_1 (by decide) rfl ?_
  exact lp_X6_copy_51_78 hK hZ 25 0 _ (by omega) (by omega) (xR_ext hR (by rw [cpN_0, fr_self]))

set_option maxRecDepth 100000 in
set_option maxHeartbeats 4000000 in
theorem lp_X6_copy_41_79 {K : mK} (hK : mCx K mX6_copy) {ad : xAd} {h0 : mH} {F : xFm} {W : xWm} {pm : Nat → Nat} (hZ : mRt K mX6_copy (mRv (fun h' => xR yV ad h0 (fr F 79 0 0 (cpN (F 41 0 0) (F 79 0 0) 8)) W pm h'))) : ∀ (fu : Nat) (e : Nat) (h : mH), 8 - e < fu → (e ≤ 8) → (xR yV ad h0 (fr F 79 0 0 (cpN (F 41 0 0) (F 79 0 0) e)) W pm h) → mJ K 0 0 2 [some (.ref (ad 41 0 0)), some (.ref (ad 79 0 0)), some (.int (nI e))] [] h := by
  intro fu
  induction fu with
  | zero =>
    intro e h hm0
    exact absurd hm0 (by omega)
  | succ fu ih =>
    intro e h hm0 he hR
    refine mJ_iload_n hK dX6_copy_2 rfl ?_
    refine mJ_aload_n hK dX6_copy_3 rfl ?_
    refine mJ_alen (v := nI 8) hK dX6_copy_4 (hR.1 _ _ _ (by unfold yV; omega)) (fun _ => rfl) rfl ?_
    refine mJ_nge (tgt := 20) hK dX6_copy_5 (by decide) (by omega) (by omega) (fun c_5 => ?_) (fun c_5 => ?_)
    · refine mJ_vret hK dX6_copy_20 rfl hZ (by decide) (by decide) ?_
      have : e = 8 := by omega
      subst this
      exact ⟨rfl, hR⟩
    · refine mJ_aload_n hK dX6_copy_8 rfl ?_
      refine mJ_iload_n hK dX6_copy_9 rfl ?_
      refine mJ_aload_n hK dX6_copy_10 rfl ?_
      refine mJ_iload_n hK dX6_copy_11 rfl ?_
      refine xJ_iald e hR hK dX6_copy_12 (by unfold yV; omega) (fun _ _ => rfl) rfl (by omega) (by decide) ?_
      refine xJ_iast e hR hK dX6_copy_13 (by unfold yV; omega) (fun _ _ => rfl) rfl (by omega) (by decide) (fun h hR => ?_)
      refine mJ_iincN hK dX6_copy_14 rfl rfl (by decide) rfl ?_
      refine mJ_goto (tgt := 2) hK dX6_copy_17 (by decide) ?_
      exact ih (e + 1) _ (by omega) (by omega) (xR_ext hR (by rw [fr_s, fr_fr]; exact congrArg (fr F 79 0 0) cpN_s))

set_option maxRecDepth 100000 in
set_option maxHeartbeats 4000000 in
theorem k_X6_copy_41_79 {l : Launch} {D : va_G} {aC : Nat → ClassId} {ad : xAd} {h0 h : mH} {F : xFm} {W : xWm} {pm : Nat → Nat} (hR : xR yV ad h0 F W pm h) : mCon l D aC mX6_copy [.ref (ad 41 0 0), .ref (ad 79 0 0)] h (mRv (fun h' => xR yV ad h0 (fr F 79 0 0 (cpN (F 41 0 0) (F 79 0 0) 8)) W pm h')) := by
  refine mCon.of [some (.ref (ad 41 0 0)), some (.ref (ad 79 0 0)), none] (by decide +kernel) rfl (Nat.le_of_ble_eq_true rfl) ?_
  intro K el eD eC hK hZ
  subst el eD eC
  refine mJ_iconst (v := nI 0) hK dX6_copy_0 (by decide) ?_
  refine mJ_istore_n hK dX6_copy_1 (by decide) rfl ?_
  exact lp_X6_copy_41_79 hK hZ 9 0 _ (by omega) (by omega) (xR_ext hR (by rw [cpN_0, fr_self]))

set_option maxRecDepth 100000 in
set_option maxHeartbeats 4000000 in
theorem lp_X6_copy_52_80 {K : mK} (hK : mCx K mX6_copy) {ad : xAd} {h0 : mH} {F : xFm} {W : xWm} {pm : Nat → Nat} (hZ : mRt K mX6_copy (mRv (fun h' => xR yV ad h0 (fr F 80 0 0 (cpN (F 52 0 0) (F 80 0 0) 8)) W pm h'))) : ∀ (fu : Nat) (e : Nat) (h : mH), 8 - e < fu → (e ≤ 8) → (xR yV ad h0 (fr F 80 0 0 (cpN (F 52 0 0) (F 80 0 0) e)) W pm h) → mJ K 0 0 2 [some (.ref (ad 52 0 0)), some (.ref (ad 80 0 0)), some (.int (nI e))] [] h := by
  intro fu
  induction fu with
  | zero =>
    intro e h hm0
    exact absurd hm0 (by omega)
  | succ fu ih =>
    intro e h hm0 he hR
    refine mJ_iload_n hK dX6_copy_2 rfl ?_
    refine mJ_aload_n hK dX6_copy_3 rfl ?_
    refine mJ_alen (v := nI 8) hK dX6_copy_4 (hR.1 _ _ _ (by unfold yV; omega)) (fun _ => rfl) rfl ?_
    refine mJ_nge (tgt := 20) hK dX6_copy_5 (by decide) (by omega) (by omega) (fun c_5 => ?_) (fun c_5 => ?_)
    · refine mJ_vret hK dX6_copy_20 rfl hZ (by decide) (by decide) ?_
      have : e = 8 := by omega
      subst this
      exact ⟨rfl, hR⟩
    · refine mJ_aload_n hK dX6_copy_8 rfl ?_
      refine mJ_iload_n hK dX6_copy_9 rfl ?_
      refine mJ_aload_n hK dX6_copy_10 rfl ?_
      refine mJ_iload_n hK dX6_copy_11 rfl ?_
      refine xJ_iald e hR hK dX6_copy_12 (by unfold yV; omega) (fun _ _ => rfl) rfl (by omega) (by decide) ?_
      refine xJ_iast e hR hK dX6_copy_13 (by unfold yV; omega) (fun _ _ => rfl) rfl (by omega) (by decide) (fun h hR => ?_)
      refine mJ_iincN hK dX6_copy_14 rfl rfl (by decide) rfl ?_
      refine mJ_goto (tgt := 2) hK dX6_copy_17 (by decide) ?_
      exact ih (e + 1) _ (by omega) (by omega) (xR_ext hR (by rw [fr_s, fr_fr]; exact congrArg (fr F 80 0 0) cpN_s))

set_option maxRecDepth 100000 in
set_option maxHeartbeats 4000000 in
theorem k_X6_copy_52_80 {l : Launch} {D : va_G} {aC : Nat → ClassId} {ad : xAd} {h0 h : mH} {F : xFm} {W : xWm} {pm : Nat → Nat} (hR : xR yV ad h0 F W pm h) : mCon l D aC mX6_copy [.ref (ad 52 0 0), .ref (ad 80 0 0)] h (mRv (fun h' => xR yV ad h0 (fr F 80 0 0 (cpN (F 52 0 0) (F 80 0 0) 8)) W pm h')) := by
  refine mCon.of [some (.ref (ad 52 0 0)), some (.ref (ad 80 0 0)), none] (by decide +kernel) rfl (Nat.le_of_ble_eq_true rfl) ?_
  intro K el eD eC hK hZ
  subst el eD eC
  refine mJ_iconst (v := nI 0) hK dX6_copy_0 (by decide) ?_
  refine mJ_istore_n hK dX6_copy_1 (by decide) rfl ?_
  exact lp_X6_copy_52_80 hK hZ 9 0 _ (by omega) (by omega) (xR_ext hR (by rw [cpN_0, fr_self]))

set_option maxRecDepth 100000 in
set_option maxHeartbeats 4000000 in
theorem lp_X6_copy_73_44 {K : mK} (hK : mCx K mX6_copy) {ad : xAd} {h0 : mH} {F : xFm} {W : xWm} {pm : Nat → Nat} (hZ : mRt K mX6_copy (mRv (fun h' => xR yV ad h0 (fr F 44 0 0 (cpN (F 73 0 0) (F 44 0 0) 8)) W pm h'))) : ∀ (fu : Nat) (e : Nat) (h : mH), 8 - e < fu → (e ≤ 8) → (xR yV ad h0 (fr F 44 0 0 (cpN (F 73 0 0) (F 44 0 0) e)) W pm h) → mJ K 0 0 2 [some (.ref (ad 73 0 0)), some (.ref (ad 44 0 0)), some (.int (nI e))] [] h := by
  intro fu
  induction fu with
  | zero =>
    intro e h hm0
    exact absurd hm0 (by omega)
  | succ fu ih =>
    intro e h hm0 he hR
    refine mJ_iload_n hK dX6_copy_2 rfl ?_
    refine mJ_aload_n hK dX6_copy_3 rfl ?_
    refine mJ_alen (v := nI 8) hK dX6_copy_4 (hR.1 _ _ _ (by unfold yV; omega)) (fun _ => rfl) rfl ?_
    refine mJ_nge (tgt := 20) hK dX6_copy_5 (by decide) (by omega) (by omega) (fun c_5 => ?_) (fun c_5 => ?_)
    · refine mJ_vret hK dX6_copy_20 rfl hZ (by decide) (by decide) ?_
      have : e = 8 := by omega
      subst this
      exact ⟨rfl, hR⟩
    · refine mJ_aload_n hK dX6_copy_8 rfl ?_
      refine mJ_iload_n hK dX6_copy_9 rfl ?_
      refine mJ_aload_n hK dX6_copy_10 rfl ?_
      refine mJ_iload_n hK dX6_copy_11 rfl ?_
      refine xJ_iald e hR hK dX6_copy_12 (by unfold yV; omega) (fun _ _ => rfl) rfl (by omega) (by decide) ?_
      refine xJ_iast e hR hK dX6_copy_13 (by unfold yV; omega) (fun _ _ => rfl) rfl (by omega) (by decide) (fun h hR => ?_)
      refine mJ_iincN hK dX6_copy_14 rfl rfl (by decide) rfl ?_
      refine mJ_goto (tgt := 2) hK dX6_copy_17 (by decide) ?_
      exact ih (e + 1) _ (by omega) (by omega) (xR_ext hR (by rw [fr_s, fr_fr]; exact congrArg (fr F 44 0 0) cpN_s))

set_option maxRecDepth 100000 in
set_option maxHeartbeats 4000000 in
theorem k_X6_copy_73_44 {l : Launch} {D : va_G} {aC : Nat → ClassId} {ad : xAd} {h0 h : mH} {F : xFm} {W : xWm} {pm : Nat → Nat} (hR : xR yV ad h0 F W pm h) : mCon l D aC mX6_copy [.ref (ad 73 0 0), .ref (ad 44 0 0)] h (mRv (fun h' => xR yV ad h0 (fr F 44 0 0 (cpN (F 73 0 0) (F 44 0 0) 8)) W pm h')) := by
  refine mCon.of [some (.ref (ad 73 0 0)), some (.ref (ad 44 0 0)), none] (by decide +kernel) rfl (Nat.le_of_ble_eq_true rfl) ?_
  intro K el eD eC hK hZ
  subst el eD eC
  refine mJ_iconst (v := nI 0) hK dX6_copy_0 (by decide) ?_
  refine mJ_istore_n hK dX6_copy_1 (by decide) rfl ?_
  exact lp_X6_copy_73_44 hK hZ 9 0 _ (by omega) (by omega) (xR_ext hR (by rw [cpN_0, fr_self]))

set_option maxRecDepth 100000 in
set_option maxHeartbeats 4000000 in
theorem lp_X6_copy_74_45 {K : mK} (hK : mCx K mX6_copy) {ad : xAd} {h0 : mH} {F : xFm} {W : xWm} {pm : Nat → Nat} (hZ : mRt K mX6_copy (mRv (fun h' => xR yV ad h0 (fr F 45 0 0 (cpN (F 74 0 0) (F 45 0 0) 64)) W pm h'))) : ∀ (fu : Nat) (e : Nat) (h : mH), 64 - e < fu → (e ≤ 64) → (xR yV ad h0 (fr F 45 0 0 (cpN (F 74 0 0) (F 45 0 0) e)) W pm h) → mJ K 0 0 2 [some (.ref (ad 74 0 0)), some (.ref (ad 45 0 0)), some (.int (nI e))] [] h := by
  intro fu
  induction fu with
  | zero =>
    intro e h hm0
    exact absurd hm0 (by omega)
  | succ fu ih =>
    intro e h hm0 he hR
    refine mJ_iload_n hK dX6_copy_2 rfl ?_
    refine mJ_aload_n hK dX6_copy_3 rfl ?_
    refine mJ_alen (v := nI 64) hK dX6_copy_4 (hR.1 _ _ _ (by unfold yV; omega)) (fun _ => rfl) rfl ?_
    refine mJ_nge (tgt := 20) hK dX6_copy_5 (by decide) (by omega) (by omega) (fun c_5 => ?_) (fun c_5 => ?_)
    · refine mJ_vret hK dX6_copy_20 rfl hZ (by decide) (by decide) ?_
      have : e = 64 := by omega
      subst this
      exact ⟨rfl, hR⟩
    · refine mJ_aload_n hK dX6_copy_8 rfl ?_
      refine mJ_iload_n hK dX6_copy_9 rfl ?_
      refine mJ_aload_n hK dX6_copy_10 rfl ?_
      refine mJ_iload_n hK dX6_copy_11 rfl ?_
      refine xJ_iald e hR hK dX6_copy_12 (by unfold yV; omega) (fun _ _ => rfl) rfl (by omega) (by decide) ?_
      refine xJ_iast e hR hK dX6_copy_13 (by unfold yV; omega) (fun _ _ => rfl) rfl (by omega) (by decide) (fun h hR => ?_)
      refine mJ_iincN hK dX6_copy_14 rfl rfl (by decide) rfl ?_
      refine mJ_goto (tgt := 2) hK dX6_copy_17 (by decide) ?_
      exact ih (e + 1) _ (by omega) (by omega) (xR_ext hR (by rw [fr_s, fr_fr]; exact congrArg (fr F 45 0 0) cpN_s))

set_option maxRecDepth 100000 in
set_option maxHeartbeats 4000000 in
theorem k_X6_copy_74_45 {l : Launch} {D : va_G} {aC : Nat → ClassId} {ad : xAd} {h0 h : mH} {F : xFm} {W : xWm} {pm : Nat → Nat} (hR : xR yV ad h0 F W pm h) : mCon l D aC mX6_copy [.ref (ad 74 0 0), .ref (ad 45 0 0)] h (mRv (fun h' => xR yV ad h0 (fr F 45 0 0 (cpN (F 74 0 0) (F 45 0 0) 64)) W pm h')) := by
  refine mCon.of [some (.ref (ad 74 0 0)), some (.ref (ad 45 0 0)), none] (by decide +kernel) rfl (Nat.le_of_ble_eq_true rfl) ?_
  intro K el eD eC hK hZ
  subst el eD eC
  refine mJ_iconst (v := nI 0) hK dX6_copy_0 (by decide) ?_
  refine mJ_istore_n hK dX6_copy_1 (by decide) rfl ?_
  exact lp_X6_copy_74_45 hK hZ 65 0 _ (by omega) (by omega) (xR_ext hR (by rw [cpN_0, fr_self]))

set_option maxRecDepth 100000 in
set_option maxHeartbeats 4000000 in
theorem lp_X6_copy_75_46 {K : mK} (hK : mCx K mX6_copy) {ad : xAd} {h0 : mH} {F : xFm} {W : xWm} {pm : Nat → Nat} (hZ : mRt K mX6_copy (mRv (fun h' => xR yV ad h0 (fr F 46 0 0 (cpN (F 75 0 0) (F 46 0 0) 64)) W pm h'))) : ∀ (fu : Nat) (e : Nat) (h : mH), 64 - e < fu → (e ≤ 64) → (xR yV ad h0 (fr F 46 0 0 (cpN (F 75 0 0) (F 46 0 0) e)) W pm h) → mJ K 0 0 2 [some (.ref (ad 75 0 0)), some (.ref (ad 46 0 0)), some (.int (nI e))] [] h := by
  intro fu
  induction fu with
  | zero =>
    intro e h hm0
    exact absurd hm0 (by omega)
  | succ fu ih =>
    intro e h hm0 he hR
    refine mJ_iload_n hK dX6_copy_2 rfl ?_
    refine mJ_aload_n hK dX6_copy_3 rfl ?_
    refine mJ_alen (v := nI 64) hK dX6_copy_4 (hR.1 _ _ _ (by unfold yV; omega)) (fun _ => rfl) rfl ?_
    refine mJ_nge (tgt := 20) hK dX6_copy_5 (by decide) (by omega) (by omega) (fun c_5 => ?_) (fun c_5 => ?_)
    · refine mJ_vret hK dX6_copy_20 rfl hZ (by decide) (by decide) ?_
      have : e = 64 := by omega
      subst this
      exact ⟨rfl, hR⟩
    · refine mJ_aload_n hK dX6_copy_8 rfl ?_
      refine mJ_iload_n hK dX6_copy_9 rfl ?_
      refine mJ_aload_n hK dX6_copy_10 rfl ?_
      refine mJ_iload_n hK dX6_copy_11 rfl ?_
      refine xJ_iald e hR hK dX6_copy_12 (by unfold yV; omega) (fun _ _ => rfl) rfl (by omega) (by decide) ?_
      refine xJ_iast e hR hK dX6_copy_13 (by unfold yV; omega) (fun _ _ => rfl) rfl (by omega) (by decide) (fun h hR => ?_)
      refine mJ_iincN hK dX6_copy_14 rfl rfl (by decide) rfl ?_
      refine mJ_goto (tgt := 2) hK dX6_copy_17 (by decide) ?_
      exact ih (e + 1) _ (by omega) (by omega) (xR_ext hR (by rw [fr_s, fr_fr]; exact congrArg (fr F 46 0 0) cpN_s))

set_option maxRecDepth 100000 in
set_option maxHeartbeats 4000000 in
theorem k_X6_copy_75_46 {l : Launch} {D : va_G} {aC : Nat → ClassId} {ad : xAd} {h0 h : mH} {F : xFm} {W : xWm} {pm : Nat → Nat} (hR : xR yV ad h0 F W pm h) : mCon l D aC mX6_copy [.ref (ad 75 0 0), .ref (ad 46 0 0)] h (mRv (fun h' => xR yV ad h0 (fr F 46 0 0 (cpN (F 75 0 0) (F 46 0 0) 64)) W pm h')) := by
  refine mCon.of [some (.ref (ad 75 0 0)), some (.ref (ad 46 0 0)), none] (by decide +kernel) rfl (Nat.le_of_ble_eq_true rfl) ?_
  intro K el eD eC hK hZ
  subst el eD eC
  refine mJ_iconst (v := nI 0) hK dX6_copy_0 (by decide) ?_
  refine mJ_istore_n hK dX6_copy_1 (by decide) rfl ?_
  exact lp_X6_copy_75_46 hK hZ 65 0 _ (by omega) (by omega) (xR_ext hR (by rw [cpN_0, fr_self]))

set_option maxRecDepth 100000 in
set_option maxHeartbeats 4000000 in
theorem lp_X6_copy_76_47 {K : mK} (hK : mCx K mX6_copy) {ad : xAd} {h0 : mH} {F : xFm} {W : xWm} {pm : Nat → Nat} (hZ : mRt K mX6_copy (mRv (fun h' => xR yV ad h0 (fr F 47 0 0 (cpN (F 76 0 0) (F 47 0 0) 64)) W pm h'))) : ∀ (fu : Nat) (e : Nat) (h : mH), 64 - e < fu → (e ≤ 64) → (xR yV ad h0 (fr F 47 0 0 (cpN (F 76 0 0) (F 47 0 0) e)) W pm h) → mJ K 0 0 2 [some (.ref (ad 76 0 0)), some (.ref (ad 47 0 0)), some (.int (nI e))] [] h := by
  intro fu
  induction fu with
  | zero =>
    intro e h hm0
    exact absurd hm0 (by omega)
  | succ fu ih =>
    intro e h hm0 he hR
    refine mJ_iload_n hK dX6_copy_2 rfl ?_
    refine mJ_aload_n hK dX6_copy_3 rfl ?_
    refine mJ_alen (v := nI 64) hK dX6_copy_4 (hR.1 _ _ _ (by unfold yV; omega)) (fun _ => rfl) rfl ?_
    refine mJ_nge (tgt := 20) hK dX6_copy_5 (by decide) (by omega) (by omega) (fun c_5 => ?_) (fun c_5 => ?_)
    · refine mJ_vret hK dX6_copy_20 rfl hZ (by decide) (by decide) ?_
      have : e = 64 := by omega
      subst this
      exact ⟨rfl, hR⟩
    · refine mJ_aload_n hK dX6_copy_8 rfl ?_
      refine mJ_iload_n hK dX6_copy_9 rfl ?_
      refine mJ_aload_n hK dX6_copy_10 rfl ?_
      refine mJ_iload_n hK dX6_copy_11 rfl ?_
      refine xJ_iald e hR hK dX6_copy_12 (by unfold yV; omega) (fun _ _ => rfl) rfl (by omega) (by decide) ?_
      refine xJ_iast e hR hK dX6_copy_13 (by unfold yV; omega) (fun _ _ => rfl) rfl (by omega) (by decide) (fun h hR => ?_)
      refine mJ_iincN hK dX6_copy_14 rfl rfl (by decide) rfl ?_
      refine mJ_goto (tgt := 2) hK dX6_copy_17 (by decide) ?_
      exact ih (e + 1) _ (by omega) (by omega) (xR_ext hR (by rw [fr_s, fr_fr]; exact congrArg (fr F 47 0 0) cpN_s))

set_option maxRecDepth 100000 in
set_option maxHeartbeats 4000000 in
theorem k_X6_copy_76_47 {l : Launch} {D : va_G} {aC : Nat → ClassId} {ad : xAd} {h0 h : mH} {F : xFm} {W : xWm} {pm : Nat → Nat} (hR : xR yV ad h0 F W pm h) : mCon l D aC mX6_copy [.ref (ad 76 0 0), .ref (ad 47 0 0)] h (mRv (fun h' => xR yV ad h0 (fr F 47 0 0 (cpN (F 76 0 0) (F 47 0 0) 64)) W pm h')) := by
  refine mCon.of [some (.ref (ad 76 0 0)), some (.ref (ad 47 0 0)), none] (by decide +kernel) rfl (Nat.le_of_ble_eq_true rfl) ?_
  intro K el eD eC hK hZ
  subst el eD eC
  refine mJ_iconst (v := nI 0) hK dX6_copy_0 (by decide) ?_
  refine mJ_istore_n hK dX6_copy_1 (by decide) rfl ?_
  exact lp_X6_copy_76_47 hK hZ 65 0 _ (by omega) (by omega) (xR_ext hR (by rw [cpN_0, fr_self]))

set_option maxRecDepth 100000 in
set_option maxHeartbeats 4000000 in
theorem lp_X6_copy_77_50 {K : mK} (hK : mCx K mX6_copy) {ad : xAd} {h0 : mH} {F : xFm} {W : xWm} {pm : Nat → Nat} (hZ : mRt K mX6_copy (mRv (fun h' => xR yV ad h0 (fr F 50 0 0 (cpN (F 77 0 0) (F 50 0 0) 24)) W pm h'))) : ∀ (fu : Nat) (e : Nat) (h : mH), 24 - e < fu → (e ≤ 24) → (xR yV ad h0 (fr F 50 0 0 (cpN (F 77 0 0) (F 50 0 0) e)) W pm h) → mJ K 0 0 2 [some (.ref (ad 77 0 0)), some (.ref (ad 50 0 0)), some (.int (nI e))] [] h := by
  intro fu
  induction fu with
  | zero =>
    intro e h hm0
    exact absurd hm0 (by omega)
  | succ fu ih =>
    intro e h hm0 he hR
    refine mJ_iload_n hK dX6_copy_2 rfl ?_
    refine mJ_aload_n hK dX6_copy_3 rfl ?_
    refine mJ_alen (v := nI 24) hK dX6_copy_4 (hR.1 _ _ _ (by unfold yV; omega)) (fun _ => rfl) rfl ?_
    refine mJ_nge (tgt := 20) hK dX6_copy_5 (by decide) (by omega) (by omega) (fun c_5 => ?_) (fun c_5 => ?_)
    · refine mJ_vret hK dX6_copy_20 rfl hZ (by decide) (by decide) ?_
      have : e = 24 := by omega
      subst this
      exact ⟨rfl, hR⟩
    · refine mJ_aload_n hK dX6_copy_8 rfl ?_
      refine mJ_iload_n hK dX6_copy_9 rfl ?_
      refine mJ_aload_n hK dX6_copy_10 rfl ?_
      refine mJ_iload_n hK dX6_copy_11 rfl ?_
      refine xJ_iald e hR hK dX6_copy_12 (by unfold yV; omega) (fun _ _ => rfl) rfl (by omega) (by decide) ?_
      refine xJ_iast e hR hK dX6_copy_13 (by unfold yV; omega) (fun _ _ => rfl) rfl (by omega) (by decide) (fun h hR => ?_)
      refine mJ_iincN hK dX6_copy_14 rfl rfl (by decide) rfl ?_
      refine mJ_goto (tgt := 2) hK dX6_copy_17 (by decide) ?_
      exact ih (e + 1) _ (by omega) (by omega) (xR_ext hR (by rw [fr_s, fr_fr]; exact congrArg (fr F 50 0 0) cpN_s))

set_option maxRecDepth 100000 in
set_option maxHeartbeats 4000000 in
theorem k_X6_copy_77_50 {l : Launch} {D : va_G} {aC : Nat → ClassId} {ad : xAd} {h0 h : mH} {F : xFm} {W : xWm} {pm : Nat → Nat} (hR : xR yV ad h0 F W pm h) : mCon l D aC mX6_copy [.ref (ad 77 0 0), .ref (ad 50 0 0)] h (mRv (fun h' => xR yV ad h0 (fr F 50 0 0 (cpN (F 77 0 0) (F 50 0 0) 24)) W pm h')) := by
  refine mCon.of [some (.ref (ad 77 0 0)), some (.ref (ad 50 0 0)), none] (by decide +kernel) rfl (Nat.le_of_ble_eq_true rfl) ?_
  intro K el eD eC hK hZ
  subst el eD eC
  refine mJ_iconst (v := nI 0) hK dX6_copy_0 (by decide) ?_
  refine mJ_istore_n hK dX6_copy_1 (by decide) rfl ?_
  exact lp_X6_copy_77_50 hK hZ 25 0 _ (by omega) (by omega) (xR_ext hR (by rw [cpN_0, fr_self]))

set_option maxRecDepth 100000 in
set_option maxHeartbeats 4000000 in
theorem lp_X6_copy_78_51 {K : mK} (hK : mCx K mX6_copy) {ad : xAd} {h0 : mH} {F : xFm} {W : xWm} {pm : Nat → Nat} (hZ : mRt K mX6_copy (mRv (fun h' => xR yV ad h0 (fr F 51 0 0 (cpN (F 78 0 0) (F 51 0 0) 24)) W pm h'))) : ∀ (fu : Nat) (e : Nat) (h : mH), 24 - e < fu → (e ≤ 24) → (xR yV ad h0 (fr F 51 0 0 (cpN (F 78 0 0) (F 51 0 0) e)) W pm h) → mJ K 0 0 2 [some (.ref (ad 78 0 0)), some (.ref (ad 51 0 0)), some (.int (nI e))] [] h := by
  intro fu
  induction fu with
  | zero =>
    intro e h hm0
    exact absurd hm0 (by omega)
  | succ fu ih =>
    intro e h hm0 he hR
    refine mJ_iload_n hK dX6_copy_2 rfl ?_
    refine mJ_aload_n hK dX6_copy_3 rfl ?_
    refine mJ_alen (v := nI 24) hK dX6_copy_4 (hR.1 _ _ _ (by unfold yV; omega)) (fun _ => rfl) rfl ?_
    refine mJ_nge (tgt := 20) hK dX6_copy_5 (by decide) (by omega) (by omega) (fun c_5 => ?_) (fun c_5 => ?_)
    · refine mJ_vret hK dX6_copy_20 rfl hZ (by decide) (by decide) ?_
      have : e = 24 := by omega
      subst this
      exact ⟨rfl, hR⟩
    · refine mJ_aload_n hK dX6_copy_8 rfl ?_
      refine mJ_iload_n hK dX6_copy_9 rfl ?_
      refine mJ_aload_n hK dX6_copy_10 rfl ?_
      refine mJ_iload_n hK dX6_copy_11 rfl ?_
      refine xJ_iald e hR hK dX6_copy_12 (by unfold yV; omega) (fun _ _ => rfl) rfl (by omega) (by decide) ?_
      refine xJ_iast e hR hK dX6_copy_13 (by unfold yV; omega) (fun _ _ => rfl) rfl (by omega) (by decide) (fun h hR => ?_)
      refine mJ_iincN hK dX6_copy_14 rfl rfl (by decide) rfl ?_
      refine mJ_goto (tgt := 2) hK dX6_copy_17 (by decide) ?_
      exact ih (e + 1) _ (by omega) (by omega) (xR_ext hR (by rw [fr_s, fr_fr]; exact congrArg (fr F 51 0 0) cpN_s))

set_option maxRecDepth 100000 in
set_option maxHeartbeats 4000000 in
theorem k_X6_copy_78_51 {l : Launch} {D : va_G} {aC : Nat → ClassId} {ad : xAd} {h0 h : mH} {F : xFm} {W : xWm} {pm : Nat → Nat} (hR : xR yV ad h0 F W pm h) : mCon l D aC mX6_copy [.ref (ad 78 0 0), .ref (ad 51 0 0)] h (mRv (fun h' => xR yV ad h0 (fr F 51 0 0 (cpN (F 78 0 0) (F 51 0 0) 24)) W pm h')) := by
  refine mCon.of [some (.ref (ad 78 0 0)), some (.ref (ad 51 0 0)), none] (by decide +kernel) rfl (Nat.le_of_ble_eq_true rfl) ?_
  intro K el eD eC hK hZ
  subst el eD eC
  refine mJ_iconst (v := nI 0) hK dX6_copy_0 (by decide) ?_
  refine mJ_istore_n hK dX6_copy_1 (by decide) rfl ?_
  exact lp_X6_copy_78_51 hK hZ 25 0 _ (by omega) (by omega) (xR_ext hR (by rw [cpN_0, fr_self]))

set_option maxRecDepth 100000 in
set_option maxHeartbeats 4000000 in
theorem lp_X6_copy_79_41 {K : mK} (hK : mCx K mX6_copy) {ad : xAd} {h0 : mH} {F : xFm} {W : xWm} {pm : Nat → Nat} (hZ : mRt K mX6_copy (mRv (fun h' => xR yV ad h0 (fr F 41 0 0 (cpN (F 79 0 0) (F 41 0 0) 8)) W pm h'))) : ∀ (fu : Nat) (e : Nat) (h : mH), 8 - e < fu → (e ≤ 8) → (xR yV ad h0 (fr F 41 0 0 (cpN (F 79 0 0) (F 41 0 0) e)) W pm h) → mJ K 0 0 2 [some (.ref (ad 79 0 0)), some (.ref (ad 41 0 0)), some (.int (nI e))] [] h := by
  intro fu
  induction fu with
  | zero =>
    intro e h hm0
    exact absurd hm0 (by omega)
  | succ fu ih =>
    intro e h hm0 he hR
    refine mJ_iload_n hK dX6_copy_2 rfl ?_
    refine mJ_aload_n hK dX6_copy_3 rfl ?_
    refine mJ_alen (v := nI 8) hK dX6_copy_4 (hR.1 _ _ _ (by unfold yV; omega)) (fun _ => rfl) rfl ?_
    refine mJ_nge (tgt := 20) hK dX6_copy_5 (by decide) (by omega) (by omega) (fun c_5 => ?_) (fun c_5 => ?_)
    · refine mJ_vret hK dX6_copy_20 rfl hZ (by decide) (by decide) ?_
      have : e = 8 := by omega
      subst this
      exact ⟨rfl, hR⟩
    · refine mJ_aload_n hK dX6_copy_8 rfl ?_
      refine mJ_iload_n hK dX6_copy_9 rfl ?_
      refine mJ_aload_n hK dX6_copy_10 rfl ?_
      refine mJ_iload_n hK dX6_copy_11 rfl ?_
      refine xJ_iald e hR hK dX6_copy_12 (by unfold yV; omega) (fun _ _ => rfl) rfl (by omega) (by decide) ?_
      refine xJ_iast e hR hK dX6_copy_13 (by unfold yV; omega) (fun _ _ => rfl) rfl (by omega) (by decide) (fun h hR => ?_)
      refine mJ_iincN hK dX6_copy_14 rfl rfl (by decide) rfl ?_
      refine mJ_goto (tgt := 2) hK dX6_copy_17 (by decide) ?_
      exact ih (e + 1) _ (by omega) (by omega) (xR_ext hR (by rw [fr_s, fr_fr]; exact congrArg (fr F 41 0 0) cpN_s))

set_option maxRecDepth 100000 in
set_option maxHeartbeats 4000000 in
theorem k_X6_copy_79_41 {l : Launch} {D : va_G} {aC : Nat → ClassId} {ad : xAd} {h0 h : mH} {F : xFm} {W : xWm} {pm : Nat → Nat} (hR : xR yV ad h0 F W pm h) : mCon l D aC mX6_copy [.ref (ad 79 0 0), .ref (ad 41 0 0)] h (mRv (fun h' => xR yV ad h0 (fr F 41 0 0 (cpN (F 79 0 0) (F 41 0 0) 8)) W pm h')) := by
  refine mCon.of [some (.ref (ad 79 0 0)), some (.ref (ad 41 0 0)), none] (by decide +kernel) rfl (Nat.le_of_ble_eq_true rfl) ?_
  intro K el eD eC hK hZ
  subst el eD eC
  refine mJ_iconst (v := nI 0) hK dX6_copy_0 (by decide) ?_
  refine mJ_istore_n hK dX6_copy_1 (by decide) rfl ?_
  exact lp_X6_copy_79_41 hK hZ 9 0 _ (by omega) (by omega) (xR_ext hR (by rw [cpN_0, fr_self]))

set_option maxRecDepth 100000 in
set_option maxHeartbeats 4000000 in
theorem lp_X6_copy_80_52 {K : mK} (hK : mCx K mX6_copy) {ad : xAd} {h0 : mH} {F : xFm} {W : xWm} {pm : Nat → Nat} (hZ : mRt K mX6_copy (mRv (fun h' => xR yV ad h0 (fr F 52 0 0 (cpN (F 80 0 0) (F 52 0 0) 8)) W pm h'))) : ∀ (fu : Nat) (e : Nat) (h : mH), 8 - e < fu → (e ≤ 8) → (xR yV ad h0 (fr F 52 0 0 (cpN (F 80 0 0) (F 52 0 0) e)) W pm h) → mJ K 0 0 2 [some (.ref (ad 80 0 0)), some (.ref (ad 52 0 0)), some (.int (nI e))] [] h := by
  intro fu
  induction fu with
  | zero =>
    intro e h hm0
    exact absurd hm0 (by omega)
  | succ fu ih =>
    intro e h hm0 he hR
    refine mJ_iload_n hK dX6_copy_2 rfl ?_
    refine mJ_aload_n hK dX6_copy_3 rfl ?_
    refine mJ_alen (v := nI 8) hK dX6_copy_4 (hR.1 _ _ _ (by unfold yV; omega)) (fun _ => rfl) rfl ?_
    refine mJ_nge (tgt := 20) hK dX6_copy_5 (by decide) (by omega) (by omega) (fun c_5 => ?_) (fun c_5 => ?_)
    · refine mJ_vret hK dX6_copy_20 rfl hZ (by decide) (by decide) ?_
      have : e = 8 := by omega
      subst this
      exact ⟨rfl, hR⟩
    · refine mJ_aload_n hK dX6_copy_8 rfl ?_
      refine mJ_iload_n hK dX6_copy_9 rfl ?_
      refine mJ_aload_n hK dX6_copy_10 rfl ?_
      refine mJ_iload_n hK dX6_copy_11 rfl ?_
      refine xJ_iald e hR hK dX6_copy_12 (by unfold yV; omega) (fun _ _ => rfl) rfl (by omega) (by decide) ?_
      refine xJ_iast e hR hK dX6_copy_13 (by unfold yV; omega) (fun _ _ => rfl) rfl (by omega) (by decide) (fun h hR => ?_)
      refine mJ_iincN hK dX6_copy_14 rfl rfl (by decide) rfl ?_
      refine mJ_goto (tgt := 2) hK dX6_copy_17 (by decide) ?_
      exact ih (e + 1) _ (by omega) (by omega) (xR_ext hR (by rw [fr_s, fr_fr]; exact congrArg (fr F 52 0 0) cpN_s))

set_option maxRecDepth 100000 in
set_option maxHeartbeats 4000000 in
theorem k_X6_copy_80_52 {l : Launch} {D : va_G} {aC : Nat → ClassId} {ad : xAd} {h0 h : mH} {F : xFm} {W : xWm} {pm : Nat → Nat} (hR : xR yV ad h0 F W pm h) : mCon l D aC mX6_copy [.ref (ad 80 0 0), .ref (ad 52 0 0)] h (mRv (fun h' => xR yV ad h0 (fr F 52 0 0 (cpN (F 80 0 0) (F 52 0 0) 8)) W pm h')) := by
  refine mCon.of [some (.ref (ad 80 0 0)), some (.ref (ad 52 0 0)), none] (by decide +kernel) rfl (Nat.le_of_ble_eq_true rfl) ?_
  intro K el eD eC hK hZ
  subst el eD eC
  refine mJ_iconst (v := nI 0) hK dX6_copy_0 (by decide) ?_
  refine mJ_istore_n hK dX6_copy_1 (by decide) rfl ?_
  exact lp_X6_copy_80_52 hK hZ 9 0 _ (by omega) (by omega) (xR_ext hR (by rw [cpN_0, fr_self]))

set_option maxRecDepth 100000 in
set_option maxHeartbeats 4000000 in
theorem lp_X6_copyLongs_53_81 {K : mK} (hK : mCx K mX6_copyLongs) {ad : xAd} {h0 : mH} {F : xFm} {W : xWm} {pm : Nat → Nat} (hZ : mRt K mX6_copyLongs (mRv (fun h' => xR yV ad h0 F (fr W 81 0 0 (cpN (W 53 0 0) (W 81 0 0) 8)) pm h'))) : ∀ (fu : Nat) (e : Nat) (h : mH), 8 - e < fu → (e ≤ 8) → (xR yV ad h0 F (fr W 81 0 0 (cpN (W 53 0 0) (W 81 0 0) e)) pm h) → mJ K 0 0 2 [some (.ref (ad 53 0 0)), some (.ref (ad 81 0 0)), some (.int (nI e))] [] h := by
  intro fu
  induction fu with
  | zero =>
    intro e h hm0
    exact absurd hm0 (by omega)
  | succ fu ih =>
    intro e h hm0 he hR
    refine mJ_iload_n hK dX6_copyLongs_2 rfl ?_
    refine mJ_aload_n hK dX6_copyLongs_3 rfl ?_
    refine mJ_alen (v := nI 8) hK dX6_copyLongs_4 (hR.1 _ _ _ (by unfold yV; omega)) (fun _ => rfl) rfl ?_
    refine mJ_nge (tgt := 20) hK dX6_copyLongs_5 (by decide) (by omega) (by omega) (fun c_5 => ?_) (fun c_5 => ?_)
    · refine mJ_vret hK dX6_copyLongs_20 rfl hZ (by decide) (by decide) ?_
      have : e = 8 := by omega
      subst this
      exact ⟨rfl, hR⟩
    · refine mJ_aload_n hK dX6_copyLongs_8 rfl ?_
      refine mJ_iload_n hK dX6_copyLongs_9 rfl ?_
      refine mJ_aload_n hK dX6_copyLongs_10 rfl ?_
      refine mJ_iload_n hK dX6_copyLongs_11 rfl ?_
      refine xJ_lald e hR hK dX6_copyLongs_12 (by unfold yV; omega) (fun _ _ => rfl) rfl (by omega) (by decide) ?_
      refine xJ_last e hR hK dX6_copyLongs_13 (by unfold yV; omega) (fun _ _ => rfl) rfl (by omega) (by decide) (fun h hR => ?_)
      refine mJ_iincN hK dX6_copyLongs_14 rfl rfl (by decide) rfl ?_
      refine mJ_goto (tgt := 2) hK dX6_copyLongs_17 (by decide) ?_
      exact ih (e + 1) _ (by omega) (by omega) (xR_ext2 hR rfl (by rw [fr_s, fr_fr]; exact congrArg (fr W 81 0 0) cpL_s))

set_option maxRecDepth 100000 in
set_option maxHeartbeats 4000000 in
theorem k_X6_copyLongs_53_81 {l : Launch} {D : va_G} {aC : Nat → ClassId} {ad : xAd} {h0 h : mH} {F : xFm} {W : xWm} {pm : Nat → Nat} (hR : xR yV ad h0 F W pm h) : mCon l D aC mX6_copyLongs [.ref (ad 53 0 0), .ref (ad 81 0 0)] h (mRv (fun h' => xR yV ad h0 F (fr W 81 0 0 (cpN (W 53 0 0) (W 81 0 0) 8)) pm h')) := by
  refine mCon.of [some (.ref (ad 53 0 0)), some (.ref (ad 81 0 0)), none] (by decide +kernel) rfl (Nat.le_of_ble_eq_true rfl) ?_
  intro K el eD eC hK hZ
  subst el eD eC
  refine mJ_iconst (v := nI 0) hK dX6_copyLongs_0 (by decide) ?_
  refine mJ_istore_n hK dX6_copyLongs_1 (by decide) rfl ?_
  exact lp_X6_copyLongs_53_81 hK hZ 9 0 _ (by omega) (by omega) (xR_ext2 hR rfl (by rw [cpN_0, fr_self]))

set_option maxRecDepth 100000 in
set_option maxHeartbeats 4000000 in
theorem lp_X6_copyLongs_81_53 {K : mK} (hK : mCx K mX6_copyLongs) {ad : xAd} {h0 : mH} {F : xFm} {W : xWm} {pm : Nat → Nat} (hZ : mRt K mX6_copyLongs (mRv (fun h' => xR yV ad h0 F (fr W 53 0 0 (cpN (W 81 0 0) (W 53 0 0) 8)) pm h'))) : ∀ (fu : Nat) (e : Nat) (h : mH), 8 - e < fu → (e ≤ 8) → (xR yV ad h0 F (fr W 53 0 0 (cpN (W 81 0 0) (W 53 0 0) e)) pm h) → mJ K 0 0 2 [some (.ref (ad 81 0 0)), some (.ref (ad 53 0 0)), some (.int (nI e))] [] h := by
  intro fu
  induction fu with
  | zero =>
    intro e h hm0
    exact absurd hm0 (by omega)
  | succ fu ih =>
    intro e h hm0 he hR
    refine mJ_iload_n hK dX6_copyLongs_2 rfl ?_
    refine mJ_aload_n hK dX6_copyLongs_3 rfl ?_
    refine mJ_alen (v := nI 8) hK dX6_copyLongs_4 (hR.1 _ _ _ (by unfold yV; omega)) (fun _ => rfl) rfl ?_
    refine mJ_nge (tgt := 20) hK dX6_copyLongs_5 (by decide) (by omega) (by omega) (fun c_5 => ?_) (fun c_5 => ?_)
    · refine mJ_vret hK dX6_copyLongs_20 rfl hZ (by decide) (by decide) ?_
      have : e = 8 := by omega
      subst this
      exact ⟨rfl, hR⟩
    · refine mJ_aload_n hK dX6_copyLongs_8 rfl ?_
      refine mJ_iload_n hK dX6_copyLongs_9 rfl ?_
      refine mJ_aload_n hK dX6_copyLongs_10 rfl ?_
      refine mJ_iload_n hK dX6_copyLongs_11 rfl ?_
      refine xJ_lald e hR hK dX6_copyLongs_12 (by unfold yV; omega) (fun _ _ => rfl) rfl (by omega) (by decide) ?_
      refine xJ_last e hR hK dX6_copyLongs_13 (by unfold yV; omega) (fun _ _ => rfl) rfl (by omega) (by decide) (fun h hR => ?_)
      refine mJ_iincN hK dX6_copyLongs_14 rfl rfl (by decide) rfl ?_
      refine mJ_goto (tgt := 2) hK dX6_copyLongs_17 (by decide) ?_
      exact ih (e + 1) _ (by omega) (by omega) (xR_ext2 hR rfl (by rw [fr_s, fr_fr]; exact congrArg (fr W 53 0 0) cpL_s))

set_option maxRecDepth 100000 in
set_option maxHeartbeats 4000000 in
theorem k_X6_copyLongs_81_53 {l : Launch} {D : va_G} {aC : Nat → ClassId} {ad : xAd} {h0 h : mH} {F : xFm} {W : xWm} {pm : Nat → Nat} (hR : xR yV ad h0 F W pm h) : mCon l D aC mX6_copyLongs [.ref (ad 81 0 0), .ref (ad 53 0 0)] h (mRv (fun h' => xR yV ad h0 F (fr W 53 0 0 (cpN (W 81 0 0) (W 53 0 0) 8)) pm h')) := by
  refine mCon.of [some (.ref (ad 81 0 0)), some (.ref (ad 53 0 0)), none] (by decide +kernel) rfl (Nat.le_of_ble_eq_true rfl) ?_
  intro K el eD eC hK hZ
  subst el eD eC
  refine mJ_iconst (v := nI 0) hK dX6_copyLongs_0 (by decide) ?_
  refine mJ_istore_n hK dX6_copyLongs_1 (by decide) rfl ?_
  exact lp_X6_copyLongs_81_53 hK hZ 9 0 _ (by omega) (by omega) (xR_ext2 hR rfl (by rw [cpN_0, fr_self]))

set_option maxRecDepth 100000 in
set_option maxHeartbeats 4000000 in
theorem lp_X6_messages {K : mK} (hK : mCx K mX6_messages) {ad : xAd} {h0 : mH} {F : xFm} {W : xWm} {pm : Nat → Nat} {h9 : mH} (hZ : mRt K mX6_messages (mRi (msm (F 44 0 0) 8) (fun h' => h' = h9))) : ∀ (fu : Nat) (e : Nat) (h : mH), 8 - e < fu → (e ≤ 8) → (h = h9) → (xR yV ad h0 F W pm h) → mJ K 0 0 4 [some (.ref (ad 30 0 0)), some (.int (msm (F 44 0 0) e)), some (.int (nI e))] [] h := by
  intro fu
  induction fu with
  | zero =>
    intro e h hm0
    exact absurd hm0 (by omega)
  | succ fu ih =>
    intro e h hm0 he eh hR
    refine mJ_iload_n hK dX6_messages_4 rfl ?_
    refine mJ_bipush (v := nI 8) hK dX6_messages_5 (by decide) ?_
    refine mJ_nge (tgt := 25) hK dX6_messages_7 (by decide) (by omega) (by omega) (fun c_7 => ?_) (fun c_7 => ?_)
    · refine mJ_iload_n hK dX6_messages_25 rfl ?_
      refine mJ_iret hK dX6_messages_26 rfl hZ (by decide) (by decide) ?_
      have : e = 8 := by omega
      subst this
      exact ⟨rfl, eh⟩
    · refine mJ_iload_n hK dX6_messages_10 rfl ?_
      refine mJ_aload_n hK dX6_messages_11 rfl ?_
      refine xJ_getr hR hK dX6_messages_12 fX6_41 (by unfold yV; omega) (fun _ _ => rfl) (by decide) (fun _ _ => rfl) ?_
      refine mJ_iload_n hK dX6_messages_15 rfl ?_
      refine xJ_iald e hR hK dX6_messages_16 (by unfold yV; omega) (fun _ _ => rfl) rfl (by omega) (by decide) ?_
      refine mJ_iadd hK dX6_messages_17 ?_
      refine mJ_istore_n hK dX6_messages_18 (by decide) rfl ?_
      refine mJ_iincN hK dX6_messages_19 rfl rfl (by decide) rfl ?_
      refine mJ_goto (tgt := 4) hK dX6_messages_22 (by decide) ?_
      exact ih (e + 1) _ (by omega) (by omega) eh hR

set_option maxRecDepth 100000 in
set_option maxHeartbeats 4000000 in
theorem k_X6_messages {l : Launch} {D : va_G} {aC : Nat → ClassId} {ad : xAd} {h0 h : mH} {F : xFm} {W : xWm} {pm : Nat → Nat} (hR : xR yV ad h0 F W pm h) : mCon l D aC mX6_messages [.ref (ad 30 0 0)] h (mRi (msm (F 44 0 0) 8) (fun h' => h' = h)) := by
  refine mCon.of [some (.ref (ad 30 0 0)), none, none] (by decide +kernel) rfl (Nat.le_of_ble_eq_true rfl) ?_
  intro K el eD eC hK hZ
  subst el eD eC
  refine mJ_iconst (v := nI 0) hK dX6_messages_0 (by decide) ?_
  refine mJ_istore_n hK dX6_messages_1 (by decide) rfl ?_
  refine mJ_iconst (v := nI 0) hK dX6_messages_2 (by decide) ?_
  refine mJ_istore_n hK dX6_messages_3 (by decide) rfl ?_
  exact lp_X6_messages hK hZ 9 0 _ (by omega) (by omega) rfl hR

def mSv (F : xFm) : xFm := fr (fr (fr (fr (fr (fr (fr (fr (fr F 30 0 0 (upd (upd (upd (upd (upd (F 30 0 0) 0 (nI 0)) 39 (nI 1)) 40 (F 30 0 0 18)) 41 (F 30 0 0 19)) 42 (F 30 0 0 12))) 73 0 0 (cpN (F 44 0 0) (F 73 0 0) 8)) 74 0 0 (cpN (F 45 0 0) (F 74 0 0) 64)) 75 0 0 (cpN (F 46 0 0) (F 75 0 0) 64)) 76 0 0 (cpN (F 47 0 0) (F 76 0 0) 64)) 77 0 0 (cpN (F 50 0 0) (F 77 0 0) 24)) 78 0 0 (cpN (F 51 0 0) (F 78 0 0) 24)) 79 0 0 (cpN (F 41 0 0) (F 79 0 0) 8)) 80 0 0 (cpN (F 52 0 0) (F 80 0 0) 8)
def mRs (F : xFm) : xFm := fr (fr (fr (fr (fr (fr (fr (fr (fr F 30 0 0 (upd (upd (upd (upd (F 30 0 0) 0 (nI 0)) 18 (F 30 0 0 40)) 19 (F 30 0 0 41)) 12 (F 30 0 0 42))) 44 0 0 (cpN (F 73 0 0) (F 44 0 0) 8)) 45 0 0 (cpN (F 74 0 0) (F 45 0 0) 64)) 46 0 0 (cpN (F 75 0 0) (F 46 0 0) 64)) 47 0 0 (cpN (F 76 0 0) (F 47 0 0) 64)) 50 0 0 (cpN (F 77 0 0) (F 50 0 0) 24)) 51 0 0 (cpN (F 78 0 0) (F 51 0 0) 24)) 41 0 0 (cpN (F 79 0 0) (F 41 0 0) 8)) 52 0 0 (cpN (F 80 0 0) (F 52 0 0) 8)
set_option maxRecDepth 100000 in
set_option maxHeartbeats 4000000 in
theorem k_X6_save {l : Launch} {D : va_G} {aC : Nat → ClassId} {ad : xAd} {h0 h : mH} {F : xFm} {W : xWm} {pm : Nat → Nat} (hR : xR yV ad h0 F W pm h) : mCon l D aC mX6_save [.ref (ad 30 0 0)] h (mRi (msm (F 44 0 0) 8) (fun h' => xR yV ad h0 (mSv F) (fr W 81 0 0 (cpN (W 53 0 0) (W 81 0 0) 8)) pm h')) := by
  refine mCon.of [some (.ref (ad 30 0 0))] (by decide +kernel) rfl (Nat.le_of_ble_eq_true rfl) ?_
  intro K el eD eC hK hZ
  subst el eD eC
  refine mJ_aload_n hK dX6_save_0 rfl ?_
  refine mJ_iconst (v := nI 0) hK dX6_save_1 (by decide) ?_
  refine xJ_puti hR hK dX6_save_2 fX6_117 sX6_0 rfl rfl (by unfold yV; omega) (fun _ _ => rfl) (by decide) rfl (fun h hR => ?_)
  refine mJ_aload_n hK dX6_save_5 rfl ?_
  refine mJ_iconst (v := nI 1) hK dX6_save_6 (by decide) ?_
  refine xJ_puti hR hK dX6_save_7 fX6_191 sX6_39 (by decide) (by decide) (by unfold yV; omega) (fun _ _ => rfl) (by decide) rfl (fun h hR => ?_)
  refine mJ_aload_n hK dX6_save_10 rfl ?_
  refine mJ_aload_n hK dX6_save_11 rfl ?_
  refine xJ_geti hR hK dX6_save_12 fX6_204 (by unfold yV; omega) (fun _ _ => rfl) (by decide) rfl ?_
  refine xJ_puti hR hK dX6_save_15 fX6_269 sX6_40 rfl rfl (by unfold yV; omega) (fun _ _ => rfl) (by decide) rfl (fun h hR => ?_)
  refine mJ_aload_n hK dX6_save_18 rfl ?_
  refine mJ_aload_n hK dX6_save_19 rfl ?_
  refine xJ_geti hR hK dX6_save_20 fX6_210 (by unfold yV; omega) (fun _ _ => rfl) (by decide) rfl ?_
  refine xJ_puti hR hK dX6_save_23 fX6_272 sX6_41 rfl rfl (by unfold yV; omega) (fun _ _ => rfl) (by decide) rfl (fun h hR => ?_)
  refine mJ_aload_n hK dX6_save_26 rfl ?_
  refine mJ_aload_n hK dX6_save_27 rfl ?_
  refine xJ_geti hR hK dX6_save_28 fX6_37 (by unfold yV; omega) (fun _ _ => rfl) (by decide) rfl ?_
  refine xJ_puti hR hK dX6_save_31 fX6_275 sX6_42 rfl rfl (by unfold yV; omega) (fun _ _ => rfl) (by decide) rfl (fun h hR => ?_)
  refine mJ_aload_n hK dX6_save_34 rfl ?_
  refine xJ_getr hR hK dX6_save_35 fX6_41 (by unfold yV; omega) (fun _ _ => rfl) (by decide) (fun _ _ => rfl) ?_
  refine mJ_aload_n hK dX6_save_38 rfl ?_
  refine xJ_getr hR hK dX6_save_39 fX6_90 (by unfold yV; omega) (fun _ _ => rfl) (by decide) (fun _ _ => rfl) ?_
  refine mJ_cSv hK dX6_save_42 lX6_278 (by unfold mFit; decide) (by decide) (k_X6_copy_44_73 hR) rfl rfl (Nat.le_of_ble_eq_true rfl) (fun h hR => ?_)
  refine mJ_aload_n hK dX6_save_45 rfl ?_
  refine xJ_getr hR hK dX6_save_46 fX6_44 (by unfold yV; omega) (fun _ _ => rfl) (by decide) (fun _ _ => rfl) ?_
  refine mJ_aload_n hK dX6_save_49 rfl ?_
  refine xJ_getr hR hK dX6_save_50 fX6_93 (by unfold yV; omega) (fun _ _ => rfl) (by decide) (fun _ _ => rfl) ?_
  refine mJ_cSv hK dX6_save_53 lX6_278 (by unfold mFit; decide) (by decide) (k_X6_copy_45_74 hR) rfl rfl (Nat.le_of_ble_eq_true rfl) (fun h hR => ?_)
  refine mJ_aload_n hK dX6_save_56 rfl ?_
  refine xJ_getr hR hK dX6_save_57 fX6_47 (by unfold yV; omega) (fun _ _ => rfl) (by decide) (fun _ _ => rfl) ?_
  refine mJ_aload_n hK dX6_save_60 rfl ?_
  refine xJ_getr hR hK dX6_save_61 fX6_96 (by unfold yV; omega) (fun _ _ => rfl) (by decide) (fun _ _ => rfl) ?_
  refine mJ_cSv hK dX6_save_64 lX6_278 (by unfold mFit; decide) (by decide) (k_X6_copy_46_75 hR) rfl rfl (Nat.le_of_ble_eq_true rfl) (fun h hR => ?_)
  refine mJ_aload_n hK dX6_save_67 rfl ?_
  refine xJ_getr hR hK dX6_save_68 fX6_50 (by unfold yV; omega) (fun _ _ => rfl) (by decide) (fun _ _ => rfl) ?_
  refine mJ_aload_n hK dX6_save_71 rfl ?_
  refine xJ_getr hR hK dX6_save_72 fX6_99 (by unfold yV; omega) (fun _ _ => rfl) (by decide) (fun _ _ => rfl) ?_
  refine mJ_cSv hK dX6_save_75 lX6_278 (by unfold mFit; decide) (by decide) (k_X6_copy_47_76 hR) rfl rfl (Nat.le_of_ble_eq_true rfl) (fun h hR => ?_)
  refine mJ_aload_n hK dX6_save_78 rfl ?_
  refine xJ_getr hR hK dX6_save_79 fX6_53 (by unfold yV; omega) (fun _ _ => rfl) (by decide) (fun _ _ => rfl) ?_
  refine mJ_aload_n hK dX6_save_82 rfl ?_
  refine xJ_getr hR hK dX6_save_83 fX6_102 (by unfold yV; omega) (fun _ _ => rfl) (by decide) (fun _ _ => rfl) ?_
  refine mJ_cSv hK dX6_save_86 lX6_278 (by unfold mFit; decide) (by decide) (k_X6_copy_50_77 hR) rfl rfl (Nat.le_of_ble_eq_true rfl) (fun h hR => ?_)
  refine mJ_aload_n hK dX6_save_89 rfl ?_
  refine xJ_getr hR hK dX6_save_90 fX6_56 (by unfold yV; omega) (fun _ _ => rfl) (by decide) (fun _ _ => rfl) ?_
  refine mJ_aload_n hK dX6_save_93 rfl ?_
  refine xJ_getr hR hK dX6_save_94 fX6_105 (by unfold yV; omega) (fun _ _ => rfl) (by decide) (fun _ _ => rfl) ?_
  refine mJ_cSv hK dX6_save_97 lX6_278 (by unfold mFit; decide) (by decide) (k_X6_copy_51_78 hR) rfl rfl (Nat.le_of_ble_eq_true rfl) (fun h hR => ?_)
  refine mJ_aload_n hK dX6_save_100 rfl ?_
  refine xJ_getr hR hK dX6_save_101 fX6_34 (by unfold yV; omega) (fun _ _ => rfl) (by decide) (fun _ _ => rfl) ?_
  refine mJ_aload_n hK dX6_save_104 rfl ?_
  refine xJ_getr hR hK dX6_save_105 fX6_108 (by unfold yV; omega) (fun _ _ => rfl) (by decide) (fun _ _ => rfl) ?_
  refine mJ_cSv hK dX6_save_108 lX6_278 (by unfold mFit; decide) (by decide) (k_X6_copy_41_79 hR) rfl rfl (Nat.le_of_ble_eq_true rfl) (fun h hR => ?_)
  refine mJ_aload_n hK dX6_save_111 rfl ?_
  refine xJ_getr hR hK dX6_save_112 fX6_59 (by unfold yV; omega) (fun _ _ => rfl) (by decide) (fun _ _ => rfl) ?_
  refine mJ_aload_n hK dX6_save_115 rfl ?_
  refine xJ_getr hR hK dX6_save_116 fX6_111 (by unfold yV; omega) (fun _ _ => rfl) (by decide) (fun _ _ => rfl) ?_
  refine mJ_cSv hK dX6_save_119 lX6_278 (by unfold mFit; decide) (by decide) (k_X6_copy_52_80 hR) rfl rfl (Nat.le_of_ble_eq_true rfl) (fun h hR => ?_)
  refine mJ_aload_n hK dX6_save_122 rfl ?_
  refine xJ_getr hR hK dX6_save_123 fX6_62 (by unfold yV; omega) (fun _ _ => rfl) (by decide) (fun _ _ => rfl) ?_
  refine mJ_aload_n hK dX6_save_126 rfl ?_
  refine xJ_getr hR hK dX6_save_127 fX6_114 (by unfold yV; omega) (fun _ _ => rfl) (by decide) (fun _ _ => rfl) ?_
  refine mJ_cSv hK dX6_save_130 lX6_282 (by unfold mFit; decide) (by decide) (k_X6_copyLongs_53_81 hR) rfl rfl (Nat.le_of_ble_eq_true rfl) (fun h hR => ?_)
  refine mJ_aload_n hK dX6_save_133 rfl ?_
  refine mJ_cVi hK dX6_save_134 lX6_286 (by unfold mFit; decide) (by decide) (k_X6_messages hR) rfl rfl (Nat.le_of_ble_eq_true rfl) (hR.1 _ _ _ (by unfold yV; omega)) ⟨_, _, rfl⟩ (fun h e9 => ?_)
  subst e9
  refine mJ_iret hK dX6_save_137 rfl hZ (by decide) (by decide) ?_
  exact ⟨rfl, xR_ext hR (by simp only [fr_fr]; rfl)⟩

set_option maxRecDepth 100000 in
set_option maxHeartbeats 4000000 in
theorem k_X6_restore {l : Launch} {D : va_G} {aC : Nat → ClassId} {ad : xAd} {h0 h : mH} {F : xFm} {W : xWm} {pm : Nat → Nat} (hR : xR yV ad h0 F W pm h) (hsv : F 30 0 0 39 = nI 1) : mCon l D aC mX6_restore [.ref (ad 30 0 0)] h (mRi (msm (mRs F 44 0 0) 8) (fun h' => xR yV ad h0 (mRs F) (fr W 53 0 0 (cpN (W 81 0 0) (W 53 0 0) 8)) pm h')) := by
  refine mCon.of [some (.ref (ad 30 0 0))] (by decide +kernel) rfl (Nat.le_of_ble_eq_true rfl) ?_
  intro K el eD eC hK hZ
  subst el eD eC
  refine mJ_aload_n hK dX6_restore_0 rfl ?_
  refine mJ_aload_n hK dX6_restore_1 rfl ?_
  refine xJ_getx (nI 1) hR hK dX6_restore_2 fX6_191 (by unfold yV; omega) (fun _ _ => rfl) (by decide) rfl (by first | exact hsv | (simp [fr, upd]; exact hsv) | (simp [fr, upd, tS]; exact hsv)) ?_
  refine mJ_nif_eq (tgt := 12) hK dX6_restore_5 (by decide) (by omega) (fun c_5 => ?_) (fun c_5 => ?_)
  · exact absurd c_5 (by omega)
  · refine mJ_iconst (v := nI 0) hK dX6_restore_8 (by decide) ?_
    refine mJ_goto (tgt := 13) hK dX6_restore_9 (by decide) ?_
    refine xJ_puti hR hK dX6_restore_13 fX6_117 sX6_0 rfl rfl (by unfold yV; omega) (fun _ _ => rfl) (by decide) rfl (fun h hR => ?_)
    refine mJ_aload_n hK dX6_restore_16 rfl ?_
    refine xJ_getx (nI 0) hR hK dX6_restore_17 fX6_117 (by unfold yV; omega) (fun _ _ => rfl) (by decide) rfl (by simp [fr, upd]) ?_
    refine mJ_nif_le (tgt := 25) hK dX6_restore_20 (by decide) (by omega) (fun c_20 => ?_) (fun c_20 => ?_)
    · refine mJ_aload_n hK dX6_restore_25 rfl ?_
      refine mJ_aload_n hK dX6_restore_26 rfl ?_
      refine xJ_geti hR hK dX6_restore_27 fX6_269 (by unfold yV; omega) (fun _ _ => rfl) (by decide) rfl ?_
      refine xJ_puti hR hK dX6_restore_30 fX6_204 sX6_18 rfl rfl (by unfold yV; omega) (fun _ _ => rfl) (by decide) rfl (fun h hR => ?_)
      refine mJ_aload_n hK dX6_restore_33 rfl ?_
      refine mJ_aload_n hK dX6_restore_34 rfl ?_
      refine xJ_geti hR hK dX6_restore_35 fX6_272 (by unfold yV; omega) (fun _ _ => rfl) (by decide) rfl ?_
      refine xJ_puti hR hK dX6_restore_38 fX6_210 sX6_19 rfl rfl (by unfold yV; omega) (fun _ _ => rfl) (by decide) rfl (fun h hR => ?_)
      refine mJ_aload_n hK dX6_restore_41 rfl ?_
      refine mJ_aload_n hK dX6_restore_42 rfl ?_
      refine xJ_geti hR hK dX6_restore_43 fX6_275 (by unfold yV; omega) (fun _ _ => rfl) (by decide) rfl ?_
      refine xJ_puti hR hK dX6_restore_46 fX6_37 sX6_12 rfl rfl (by unfold yV; omega) (fun _ _ => rfl) (by decide) rfl (fun h hR => ?_)
      refine mJ_aload_n hK dX6_restore_49 rfl ?_
      refine xJ_getr hR hK dX6_restore_50 fX6_90 (by unfold yV; omega) (fun _ _ => rfl) (by decide) (fun _ _ => rfl) ?_
      refine mJ_aload_n hK dX6_restore_53 rfl ?_
      refine xJ_getr hR hK dX6_restore_54 fX6_41 (by unfold yV; omega) (fun _ _ => rfl) (by decide) (fun _ _ => rfl) ?_
      refine mJ_cSv hK dX6_restore_57 lX6_278 (by unfold mFit; decide) (by decide) (k_X6_copy_73_44 hR) rfl rfl (Nat.le_of_ble_eq_true rfl) (fun h hR => ?_)
      refine mJ_aload_n hK dX6_restore_60 rfl ?_
      refine xJ_getr hR hK dX6_restore_61 fX6_93 (by unfold yV; omega) (fun _ _ => rfl) (by decide) (fun _ _ => rfl) ?_
      refine mJ_aload_n hK dX6_restore_64 rfl ?_
      refine xJ_getr hR hK dX6_restore_65 fX6_44 (by unfold yV; omega) (fun _ _ => rfl) (by decide) (fun _ _ => rfl) ?_
      refine mJ_cSv hK dX6_restore_68 lX6_278 (by unfold mFit; decide) (by decide) (k_X6_copy_74_45 hR) rfl rfl (Nat.le_of_ble_eq_true rfl) (fun h hR => ?_)
      refine mJ_aload_n hK dX6_restore_71 rfl ?_
      refine xJ_getr hR hK dX6_restore_72 fX6_96 (by unfold yV; omega) (fun _ _ => rfl) (by decide) (fun _ _ => rfl) ?_
      refine mJ_aload_n hK dX6_restore_75 rfl ?_
      refine xJ_getr hR hK dX6_restore_76 fX6_47 (by unfold yV; omega) (fun _ _ => rfl) (by decide) (fun _ _ => rfl) ?_
      refine mJ_cSv hK dX6_restore_79 lX6_278 (by unfold mFit; decide) (by decide) (k_X6_copy_75_46 hR) rfl rfl (Nat.le_of_ble_eq_true rfl) (fun h hR => ?_)
      refine mJ_aload_n hK dX6_restore_82 rfl ?_
      refine xJ_getr hR hK dX6_restore_83 fX6_99 (by unfold yV; omega) (fun _ _ => rfl) (by decide) (fun _ _ => rfl) ?_
      refine mJ_aload_n hK dX6_restore_86 rfl ?_
      refine xJ_getr hR hK dX6_restore_87 fX6_50 (by unfold yV; omega) (fun _ _ => rfl) (by decide) (fun _ _ => rfl) ?_
      refine mJ_cSv hK dX6_restore_90 lX6_278 (by unfold mFit; decide) (by decide) (k_X6_copy_76_47 hR) rfl rfl (Nat.le_of_ble_eq_true rfl) (fun h hR => ?_)
      refine mJ_aload_n hK dX6_restore_93 rfl ?_
      refine xJ_getr hR hK dX6_restore_94 fX6_102 (by unfold yV; omega) (fun _ _ => rfl) (by decide) (fun _ _ => rfl) ?_
      refine mJ_aload_n hK dX6_restore_97 rfl ?_
      refine xJ_getr hR hK dX6_restore_98 fX6_53 (by unfold yV; omega) (fun _ _ => rfl) (by decide) (fun _ _ => rfl) ?_
      refine mJ_cSv hK dX6_restore_101 lX6_278 (by unfold mFit; decide) (by decide) (k_X6_copy_77_50 hR) rfl rfl (Nat.le_of_ble_eq_true rfl) (fun h hR => ?_)
      refine mJ_aload_n hK dX6_restore_104 rfl ?_
      refine xJ_getr hR hK dX6_restore_105 fX6_105 (by unfold yV; omega) (fun _ _ => rfl) (by decide) (fun _ _ => rfl) ?_
      refine mJ_aload_n hK dX6_restore_108 rfl ?_
      refine xJ_getr hR hK dX6_restore_109 fX6_56 (by unfold yV; omega) (fun _ _ => rfl) (by decide) (fun _ _ => rfl) ?_
      refine mJ_cSv hK dX6_restore_112 lX6_278 (by unfold mFit; decide) (by decide) (k_X6_copy_78_51 hR) rfl rfl (Nat.le_of_ble_eq_true rfl) (fun h hR => ?_)
      refine mJ_aload_n hK dX6_restore_115 rfl ?_
      refine xJ_getr hR hK dX6_restore_116 fX6_108 (by unfold yV; omega) (fun _ _ => rfl) (by decide) (fun _ _ => rfl) ?_
      refine mJ_aload_n hK dX6_restore_119 rfl ?_
      refine xJ_getr hR hK dX6_restore_120 fX6_34 (by unfold yV; omega) (fun _ _ => rfl) (by decide) (fun _ _ => rfl) ?_
      refine mJ_cSv hK dX6_restore_123 lX6_278 (by unfold mFit; decide) (by decide) (k_X6_copy_79_41 hR) rfl rfl (Nat.le_of_ble_eq_true rfl) (fun h hR => ?_)
      refine mJ_aload_n hK dX6_restore_126 rfl ?_
      refine xJ_getr hR hK dX6_restore_127 fX6_111 (by unfold yV; omega) (fun _ _ => rfl) (by decide) (fun _ _ => rfl) ?_
      refine mJ_aload_n hK dX6_restore_130 rfl ?_
      refine xJ_getr hR hK dX6_restore_131 fX6_59 (by unfold yV; omega) (fun _ _ => rfl) (by decide) (fun _ _ => rfl) ?_
      refine mJ_cSv hK dX6_restore_134 lX6_278 (by unfold mFit; decide) (by decide) (k_X6_copy_80_52 hR) rfl rfl (Nat.le_of_ble_eq_true rfl) (fun h hR => ?_)
      refine mJ_aload_n hK dX6_restore_137 rfl ?_
      refine xJ_getr hR hK dX6_restore_138 fX6_114 (by unfold yV; omega) (fun _ _ => rfl) (by decide) (fun _ _ => rfl) ?_
      refine mJ_aload_n hK dX6_restore_141 rfl ?_
      refine xJ_getr hR hK dX6_restore_142 fX6_62 (by unfold yV; omega) (fun _ _ => rfl) (by decide) (fun _ _ => rfl) ?_
      refine mJ_cSv hK dX6_restore_145 lX6_282 (by unfold mFit; decide) (by decide) (k_X6_copyLongs_81_53 hR) rfl rfl (Nat.le_of_ble_eq_true rfl) (fun h hR => ?_)
      refine mJ_aload_n hK dX6_restore_148 rfl ?_
      refine mJ_cVi hK dX6_restore_149 lX6_286 (by unfold mFit; decide) (by decide) (k_X6_messages hR) rfl rfl (Nat.le_of_ble_eq_true rfl) (hR.1 _ _ _ (by unfold yV; omega)) ⟨_, _, rfl⟩ (fun h e9 => ?_)
      subst e9
      refine mJ_iret hK dX6_restore_152 rfl hZ (by decide) (by decide) ?_
      exact ⟨rfl, xR_ext hR (by simp only [fr_fr]; rfl)⟩
    · exact absurd c_20 (by omega)

set_option maxRecDepth 100000 in
set_option maxHeartbeats 4000000 in
theorem k_X6_restore_x {l : Launch} {D : va_G} {aC : Nat → ClassId} {ad : xAd} {h0 h : mH} {F : xFm} {W : xWm} {pm : Nat → Nat} (hR : xR yV ad h0 F W pm h) (hsv : F 30 0 0 39 = nI 0) : mCon l D aC mX6_restore [.ref (ad 30 0 0)] h (mRi (nI 0) (fun h' => xR yV ad h0 (tS F (nI 1)) W pm h')) := by
  refine mCon.of [some (.ref (ad 30 0 0))] (by decide +kernel) rfl (Nat.le_of_ble_eq_true rfl) ?_
  intro K el eD eC hK hZ
  subst el eD eC
  refine mJ_aload_n hK dX6_restore_0 rfl ?_
  refine mJ_aload_n hK dX6_restore_1 rfl ?_
  refine xJ_getx (nI 0) hR hK dX6_restore_2 fX6_191 (by unfold yV; omega) (fun _ _ => rfl) (by decide) rfl (by first | exact hsv | (simp [fr, upd]; exact hsv) | (simp [fr, upd, tS]; exact hsv)) ?_
  refine mJ_nif_eq (tgt := 12) hK dX6_restore_5 (by decide) (by omega) (fun c_5 => ?_) (fun c_5 => ?_)
  · refine mJ_iconst (v := nI 1) hK dX6_restore_12 (by decide) ?_
    refine xJ_puti hR hK dX6_restore_13 fX6_117 sX6_0 rfl rfl (by unfold yV; omega) (fun _ _ => rfl) (by decide) rfl (fun h hR => ?_)
    refine mJ_aload_n hK dX6_restore_16 rfl ?_
    refine xJ_getx (nI 1) hR hK dX6_restore_17 fX6_117 (by unfold yV; omega) (fun _ _ => rfl) (by decide) rfl (by simp [fr, upd]) ?_
    refine mJ_nif_le (tgt := 25) hK dX6_restore_20 (by decide) (by omega) (fun c_20 => ?_) (fun c_20 => ?_)
    · exact absurd c_20 (by omega)
    · refine mJ_iconst (v := nI 0) hK dX6_restore_23 (by decide) ?_
      refine mJ_iret hK dX6_restore_24 rfl hZ (by decide) (by decide) ?_
      exact ⟨rfl, hR⟩
  · exact absurd c_5 (by omega)
