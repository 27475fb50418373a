set_option maxRecDepth 100000 in
set_option maxHeartbeats 4000000 in
theorem k_X4_copyFrom {l : Launch} {D : va_G} {aC : Nat → ClassId} {ad : xAd} {h0 h : mH} {F : xFm} {W : xWm} {pm : Nat → Nat} (hR : xR xV ad h0 F W pm h) {s t : Nat} (hs : s < 2) (ht : t < 2) (hst : t ≠ s) : mCon l D aC mX4_copyFrom [.ref (ad 9 s 0), .ref (ad 9 t 0)] h (mRv (fun h' => xR xV ad h0 (xTc F s t) W pm h')) := by
  refine mCon.of [some (.ref (ad 9 s 0)), some (.ref (ad 9 t 0))] (by decide +kernel) rfl (Nat.le_of_ble_eq_true rfl) ?_
  intro K el eD eC hK hZ
  subst el eD eC
  refine mJ_aload_n hK dX4_copyFrom_0 rfl ?_
  refine xJ_getr hR hK dX4_copyFrom_1 fX4_9 (by unfold xV; omega) (fun _ _ => rfl) (by decide) (fun _ _ => rfl) ?_
  refine mJ_iconst (v := 0) hK dX4_copyFrom_4 (by decide) ?_
  refine mJ_aload_n hK dX4_copyFrom_5 rfl ?_
  refine xJ_getr hR hK dX4_copyFrom_6 fX4_9 (by unfold xV; omega) (fun _ _ => rfl) (by decide) (fun _ _ => rfl) ?_
  refine mJ_iconst (v := 0) hK dX4_copyFrom_9 (by decide) ?_
  refine mJ_bipush (v := nI 24) hK dX4_copyFrom_10 (by decide) ?_
  refine xJ_copy hR hK dX4_copyFrom_12 lX4_40 (by unfold xV; omega) (by unfold xV; omega) (fun _ _ => rfl) (fun _ _ => rfl) rfl (by decide) (by decide) (by decide) (by decide) (Nat.le_of_ble_eq_true rfl) (fun h hR => ?_)
  refine mJ_aload_n hK dX4_copyFrom_15 rfl ?_
  refine xJ_getr hR hK dX4_copyFrom_16 fX4_15 (by unfold xV; omega) (fun _ _ => rfl) (by decide) (fun _ _ => rfl) ?_
  refine mJ_iconst (v := 0) hK dX4_copyFrom_19 (by decide) ?_
  refine mJ_aload_n hK dX4_copyFrom_20 rfl ?_
  refine xJ_getr hR hK dX4_copyFrom_21 fX4_15 (by unfold xV; omega) (fun _ _ => rfl) (by decide) (fun _ _ => rfl) ?_
  refine mJ_iconst (v := 0) hK dX4_copyFrom_24 (by decide) ?_
  refine mJ_bipush (v := nI 24) hK dX4_copyFrom_25 (by decide) ?_
  refine xJ_copy hR hK dX4_copyFrom_27 lX4_40 (by unfold xV; omega) (by unfold xV; omega) (fun _ _ => rfl) (fun _ _ => rfl) rfl (by decide) (by decide) (by decide) (by decide) (Nat.le_of_ble_eq_true rfl) (fun h hR => ?_)
  refine mJ_aload_n hK dX4_copyFrom_30 rfl ?_
  refine mJ_aload_n hK dX4_copyFrom_31 rfl ?_
  refine xJ_geti hR hK dX4_copyFrom_32 fX4_18 (by unfold xV; omega) (fun _ _ => rfl) (by decide) rfl ?_
  refine xJ_puti hR hK dX4_copyFrom_35 fX4_18 sX4_2 rfl rfl (by unfold xV; omega) (fun _ _ => rfl) (by decide) rfl (fun h hR => ?_)
  refine mJ_vret hK dX4_copyFrom_38 rfl hZ (by decide) (by decide) ?_
  exact ⟨rfl, hR⟩

/-- a state's copy: what its rows are behind it -/
def xCpd (F : xFm) (W : xWm) (F' : xFm) (W' : xWm) (s t : Nat) : Prop :=
  (∀ k i j, (i ≠ s ∨ k < 7 ∨ 16 < k) → F' k i j = F k i j ∧ W' k i j = W k i j) ∧
  (∀ c, c < 8 → F' 13 s c 3 = F 13 t c 3 ∧ F' 13 s c 4 = F 13 t c 4 ∧ W' 13 s c 0 = W 13 t c 0 ∧ ∀ n, n < 8 → F' 14 s c n = F 14 t c n ∧ F' 15 s c n = F 15 t c n ∧ F' 16 s c n = F 16 t c n) ∧
  (∀ n, n < 24 → F' 10 s 0 n = F 10 t 0 n ∧ F' 11 s 0 n = F 11 t 0 n) ∧ F' 9 s 0 2 = F 9 t 0 2 ∧ (∀ n, n < 8 → F' 12 s 0 n = F 12 t 0 n) ∧ F' 7 s 0 3 = F 7 t 0 3 ∧ F' 7 s 0 4 = F 7 t 0 4
def xSc (F : xFm) (s t : Nat) : xFm := fr (fr (xTc (xCpE F s t 8) s t) 12 s 0 (va_cpy (F 12 t 0) (F 12 s 0) 0 0 8)) 7 s 0 (upd (upd (F 7 s 0) 3 (F 7 t 0 3)) 4 (F 7 t 0 4))
theorem xSc_cpd {F : xFm} {W : xWm} {s t : Nat} (h : t ≠ s) : xCpd F W (xSc F s t) (xWpE W s t 8) s t := by
  have cp : ∀ {f g : Nat → Int32} {N n : Nat}, n < N → va_cpy f g 0 0 N n = f n := fun {f g N n} hn => by
    rw [pk_cpy_in (Nat.zero_le _) (by omega)]
    congr 1
    omega
  refine ⟨fun k i j hk => ⟨?_, ?_⟩, fun c hc => ⟨?_, ?_, ?_, fun n hn => ⟨?_, ?_, ?_⟩⟩, fun n hn => ⟨?_, ?_⟩, ?_, fun n hn => ?_, ?_, ?_⟩
  · unfold xSc xTc
    rw [fr_n (by omega), fr_n (by omega), fr_n (by omega), fr_n (by omega), fr_n (by omega)]
    unfold xCpE
    rw [if_neg (by omega), if_neg (by omega)]
  · unfold xWpE
    rw [if_neg (by omega)]
  · simp [xSc, xTc, xCpE, fr, hc, upd]
  · simp [xSc, xTc, xCpE, fr, hc, upd]
  · simp [xWpE, hc, vp_updL]
  · simp [xSc, xTc, xCpE, fr, hc, cp hn]
  · simp [xSc, xTc, xCpE, fr, hc, cp hn]
  · simp [xSc, xTc, xCpE, fr, hc, cp hn]
  · simp [xSc, xTc, xCpE, fr, cp hn]
  · simp [xSc, xTc, xCpE, fr, cp hn]
  · simp [xSc, xTc, xCpE, fr, upd]
  · simp [xSc, fr, cp hn]
  · simp [xSc, fr, upd]
  · simp [xSc, fr, upd]

set_option maxRecDepth 100000 in
set_option maxHeartbeats 4000000 in
theorem lp_X3_copyFrom {K : mK} (hK : mCx K mX3_copyFrom) {ad : xAd} {h0 : mH} {F : xFm} {W : xWm} {pm : Nat → Nat} {s t : Nat} (hs : s < 2) (ht : t < 2) (hst : t ≠ s) (hZ : mRt K mX3_copyFrom (mRv (fun h' => xR xV ad h0 (xSc F s t) (xWpE W s t 8) pm h'))) : ∀ (fu : Nat) (e : Nat) (h : mH), 8 - e < fu → (e ≤ 8) → (xR xV ad h0 (xCpE F s t e) (xWpE W s t e) pm h) → mJ K 0 0 2 [some (.ref (ad 7 s 0)), some (.ref (ad 7 t 0)), some (.int (nI e))] [] h := by
  intro fu
  induction fu with
  | zero =>
    intro e h hm0
    exact absurd hm0 (by omega)
  | succ fu ih =>
    intro e h hm0 he hR
    refine mJ_iload_n hK dX3_copyFrom_2 rfl ?_
    refine mJ_bipush (v := nI 8) hK dX3_copyFrom_3 (by decide) ?_
    refine mJ_nge (tgt := 29) hK dX3_copyFrom_5 (by decide) (by omega) (by omega) (fun c_5 => ?_) (fun c_5 => ?_)
    · refine mJ_aload_n hK dX3_copyFrom_29 rfl ?_
      refine xJ_getr hR hK dX3_copyFrom_30 fX3_20 (by unfold xV; omega) (fun _ _ => rfl) (by decide) (fun _ _ => rfl) ?_
      refine mJ_aload_n hK dX3_copyFrom_33 rfl ?_
      refine xJ_getr hR hK dX3_copyFrom_34 fX3_20 (by unfold xV; omega) (fun _ _ => rfl) (by decide) (fun _ _ => rfl) ?_
      refine mJ_cVv hK dX3_copyFrom_37 lX3_37 (by unfold mFit; decide) (by decide) (k_X4_copyFrom hR hs ht hst) rfl rfl (Nat.le_of_ble_eq_true rfl) (hR.1 _ _ _ (by unfold xV; omega)) ⟨_, _, rfl⟩ (fun h hR => ?_)
      refine mJ_aload_n hK dX3_copyFrom_40 rfl ?_
      refine xJ_getr hR hK dX3_copyFrom_41 fX3_24 (by unfold xV; omega) (fun _ _ => rfl) (by decide) (fun _ _ => rfl) ?_
      refine mJ_iconst (v := 0) hK dX3_copyFrom_44 (by decide) ?_
      refine mJ_aload_n hK dX3_copyFrom_45 rfl ?_
      refine xJ_getr hR hK dX3_copyFrom_46 fX3_24 (by unfold xV; omega) (fun _ _ => rfl) (by decide) (fun _ _ => rfl) ?_
      refine mJ_iconst (v := 0) hK dX3_copyFrom_49 (by decide) ?_
      refine mJ_bipush (v := nI 8) hK dX3_copyFrom_50 (by decide) ?_
      refine xJ_copy hR hK dX3_copyFrom_52 lX3_40 (by unfold xV; omega) (by unfold xV; omega) (fun _ _ => rfl) (fun _ _ => rfl) rfl (by decide) (by decide) (by decide) (by decide) (Nat.le_of_ble_eq_true rfl) (fun h hR => ?_)
      refine mJ_aload_n hK dX3_copyFrom_55 rfl ?_
      refine mJ_aload_n hK dX3_copyFrom_56 rfl ?_
      refine xJ_geti hR hK dX3_copyFrom_57 fX3_46 (by unfold xV; omega) (fun _ _ => rfl) (by decide) rfl ?_
      refine xJ_puti hR hK dX3_copyFrom_60 fX3_46 sX3_3 rfl rfl (by unfold xV; omega) (fun _ _ => rfl) (by decide) rfl (fun h hR => ?_)
      refine mJ_aload_n hK dX3_copyFrom_63 rfl ?_
      refine mJ_aload_n hK dX3_copyFrom_64 rfl ?_
      refine xJ_geti hR hK dX3_copyFrom_65 fX3_28 (by unfold xV; omega) (fun _ _ => rfl) (by decide) rfl ?_
      refine xJ_puti hR hK dX3_copyFrom_68 fX3_28 sX3_4 rfl rfl (by unfold xV; omega) (fun _ _ => rfl) (by decide) rfl (fun h hR => ?_)
      refine mJ_vret hK dX3_copyFrom_71 rfl hZ (by decide) (by decide) ?_
      have : e = 8 := by omega
      subst this
      refine ⟨rfl, xR_ext2 hR ?_ rfl⟩
      have e9 : ∀ k (g : Nat → Int32) (G : xFm), fr G k s 0 g k t 0 = G k t 0 := fun k g G => fr_n (fun z => hst z.2.1)
      simp only [e9, fr_s, xSc]
      have o1 : ∀ k, k = 7 ∨ k = 12 → xCpE F s t 8 k s 0 = F k s 0 := fun k hk => by unfold xCpE; rw [if_neg (by omega), if_neg (by omega)]
      have o2 : ∀ k, k = 7 ∨ k = 12 → xCpE F s t 8 k t 0 = F k t 0 := fun k hk => by unfold xCpE; rw [if_neg (by omega), if_neg (by omega)]
      funext k i j
      by_cases e1 : k = 7 ∧ i = s ∧ j = 0
      · obtain ⟨rfl, rfl, rfl⟩ := e1
        simp only [fr_s]
        simp [xTc, fr, o1, o2]
      · rw [fr_n e1, fr_n e1, fr_n e1]
        by_cases e2 : k = 12 ∧ i = s ∧ j = 0
        · obtain ⟨rfl, rfl, rfl⟩ := e2
          simp only [fr_s]
          simp [xTc, fr, o1, o2]
        · rw [fr_n e2, fr_n e2]
    · refine mJ_aload_n hK dX3_copyFrom_8 rfl ?_
      refine xJ_getr hR hK dX3_copyFrom_9 fX3_11 (by unfold xV; omega) (fun _ _ => rfl) (by decide) (fun _ _ => rfl) ?_
      refine mJ_iload_n hK dX3_copyFrom_12 rfl ?_
      refine xJ_aldC e hR hK dX3_copyFrom_13 (by unfold xV; omega) rfl (by omega) ?_
      refine mJ_aload_n hK dX3_copyFrom_14 rfl ?_
      refine xJ_getr hR hK dX3_copyFrom_15 fX3_11 (by unfold xV; omega) (fun _ _ => rfl) (by decide) (fun _ _ => rfl) ?_
      refine mJ_iload_n hK dX3_copyFrom_18 rfl ?_
      refine xJ_aldC e hR hK dX3_copyFrom_19 (by unfold xV; omega) rfl (by omega) ?_
      refine mJ_cVv hK dX3_copyFrom_20 lX3_33 (by unfold mFit; decide) (by decide) (k_X0_copyFrom hR hs ht hst (c := e) (by omega)) rfl rfl (Nat.le_of_ble_eq_true rfl) (hR.1 _ _ _ (by unfold xV; omega)) ⟨_, _, rfl⟩ (fun h hR => ?_)
      refine mJ_iincN hK dX3_copyFrom_23 rfl rfl (by decide) rfl ?_
      refine mJ_goto (tgt := 2) hK dX3_copyFrom_26 (by decide) ?_
      exact ih (e + 1) _ (by omega) (by omega) (xR_ext2 hR (xCpE_s hst) (xWpE_s hst))

set_option maxRecDepth 100000 in
set_option maxHeartbeats 4000000 in
theorem k_X3_copyFrom {l : Launch} {D : va_G} {aC : Nat → ClassId} {ad : xAd} {h0 h : mH} {F : xFm} {W : xWm} {pm : Nat → Nat} (hR : xR xV ad h0 F W pm h) {s t : Nat} (hs : s < 2) (ht : t < 2) (hst : t ≠ s) : mCon l D aC mX3_copyFrom [.ref (ad 7 s 0), .ref (ad 7 t 0)] h (mRv (fun h' => xR xV ad h0 (xSc F s t) (xWpE W s t 8) pm h')) := by
  refine mCon.of [some (.ref (ad 7 s 0)), some (.ref (ad 7 t 0)), none] (by decide +kernel) rfl (Nat.le_of_ble_eq_true rfl) ?_
  intro K el eD eC hK hZ
  subst el eD eC
  refine mJ_iconst (v := nI 0) hK dX3_copyFrom_0 (by decide) ?_
  refine mJ_istore_n hK dX3_copyFrom_1 (by decide) rfl ?_
  exact lp_X3_copyFrom hK hs ht hst hZ 9 0 _ (by omega) (by omega) (xR_ext2 hR xCpE_0.symm xWpE_0.symm)

set_option maxRecDepth 100000 in
set_option maxHeartbeats 4000000 in
theorem lp_X3_messageCount {K : mK} (hK : mCx K mX3_messageCount) {ad : xAd} {h0 : mH} {F : xFm} {W : xWm} {pm : Nat → Nat} {s : Nat} (hs : s < 2) {h9 : mH} (hZ : mRt K mX3_messageCount (mRi (msm (fun c => F 13 s c 3) 8) (fun h' => h' = h9))) : ∀ (fu : Nat) (e : Nat) (h : mH), 8 - e < fu → (e ≤ 8) → (h = h9) → (xR xV ad h0 F W pm h) → mJ K 0 0 4 [some (.ref (ad 7 s 0)), some (.int (msm (fun c => F 13 s c 3) e)), some (.int (nI e))] [] h := by
  intro fu
  induction fu with
  | zero =>
    intro e h hm0
    exact absurd hm0 (by omega)
  | succ fu ih =>
    intro e h hm0 he eh hR
    refine mJ_iload_n hK dX3_messageCount_4 rfl ?_
    refine mJ_bipush (v := nI 8) hK dX3_messageCount_5 (by decide) ?_
    refine mJ_nge (tgt := 28) hK dX3_messageCount_7 (by decide) (by omega) (by omega) (fun c_7 => ?_) (fun c_7 => ?_)
    · refine mJ_iload_n hK dX3_messageCount_28 rfl ?_
      refine mJ_iret hK dX3_messageCount_29 rfl hZ (by decide) (by decide) ?_
      have : e = 8 := by omega
      subst this
      exact ⟨rfl, eh⟩
    · refine mJ_iload_n hK dX3_messageCount_10 rfl ?_
      refine mJ_aload_n hK dX3_messageCount_11 rfl ?_
      refine xJ_getr hR hK dX3_messageCount_12 fX3_11 (by unfold xV; omega) (fun _ _ => rfl) (by decide) (fun _ _ => rfl) ?_
      refine mJ_iload_n hK dX3_messageCount_15 rfl ?_
      refine xJ_aldC e hR hK dX3_messageCount_16 (by unfold xV; omega) rfl (by omega) ?_
      refine xJ_geti hR hK dX3_messageCount_17 fX3_49 (by unfold xV; omega) (fun _ _ => rfl) (by decide) rfl ?_
      refine mJ_iadd hK dX3_messageCount_20 ?_
      refine mJ_istore_n hK dX3_messageCount_21 (by decide) rfl ?_
      refine mJ_iincN hK dX3_messageCount_22 rfl rfl (by decide) rfl ?_
      refine mJ_goto (tgt := 4) hK dX3_messageCount_25 (by decide) ?_
      exact ih (e + 1) _ (by omega) (by omega) eh hR

set_option maxRecDepth 100000 in
set_option maxHeartbeats 4000000 in
theorem k_X3_messageCount {l : Launch} {D : va_G} {aC : Nat → ClassId} {ad : xAd} {h0 h : mH} {F : xFm} {W : xWm} {pm : Nat → Nat} (hR : xR xV ad h0 F W pm h) {s : Nat} (hs : s < 2) : mCon l D aC mX3_messageCount [.ref (ad 7 s 0)] h (mRi (msm (fun c => F 13 s c 3) 8) (fun h' => h' = h)) := by
  refine mCon.of [some (.ref (ad 7 s 0)), none, none] (by decide +kernel) rfl (Nat.le_of_ble_eq_true rfl) ?_
  intro K el eD eC hK hZ
  subst el eD eC
  refine mJ_iconst (v := nI 0) hK dX3_messageCount_0 (by decide) ?_
  refine mJ_istore_n hK dX3_messageCount_1 (by decide) rfl ?_
  refine mJ_iconst (v := nI 0) hK dX3_messageCount_2 (by decide) ?_
  refine mJ_istore_n hK dX3_messageCount_3 (by decide) rfl ?_
  exact lp_X3_messageCount hK hs hZ 9 0 _ (by omega) (by omega) rfl hR
