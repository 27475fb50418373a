def hS (W : xWm) (x : Int64) : xWm := fr W 30 0 0 (vp_updL (W 30 0 0) 0 x)
theorem hS_s {W : xWm} {x y : Int64} : fr (hS W x) 30 0 0 (vp_updL (hS W x 30 0 0) 0 (31 * hS W x 30 0 0 0 + y)) = hS W (31 * x + y) := by
  unfold hS
  rw [fr_fr, fr_s]
  congr 1
  funext j
  unfold vp_updL
  by_cases h : j = 0
  · simp [h]
  · simp [h]
def mgA (F : xFm) (q : Nat → Nat) (x : Int64) : Nat → Int64
  | 0 => x
  | c + 1 => qmx (fun i => F 45 0 0 (8 * c + i)) (fun i => F 46 0 0 (8 * c + i)) (fun i => F 47 0 0 (8 * c + i)) (31 * mgA F q x c + (nI (q c)).toInt64) (q c)
def mgB (F : xFm) (W : xWm) (x : Int64) : Nat → Int64
  | 0 => x
  | c + 1 => 31 * (31 * mgB F W x c + (F 52 0 0 c).toInt64) + W 53 0 0 c
def dgM (F : xFm) (W : xWm) (q : Nat → Nat) (rn g po bl : Nat) (en : Nat → Bool) (nx : Option Nat) (hk : Int64) : Int64 :=
  bmx (F 32 0 0) (31 * (31 * (31 * (31 * (31 * (31 * (31 * tmx (F 50 0 0) (F 51 0 0) (31 * mgB F W (mgA F q (rmx (F 34 0 0) (F 41 0 0) (31 * 1847 + (nI rn).toInt64) rn) 8) 8 + (nI g).toInt64) (g - 24) (g - (g - 24)) + (F 30 0 0 18).toInt64) + (nI po).toInt64) + (bmk (fun r => decide (F 34 0 0 r &&& wtM q = F 34 0 0 r)) rn).toInt64) + (bmk en rn).toInt64) + (opI nx).toInt64) + hk) + (nI bl).toInt64) bl
set_option maxRecDepth 100000 in
set_option maxHeartbeats 4000000 in
theorem k_X6_mix {l : Launch} {D : va_G} {aC : Nat → ClassId} {ad : xAd} {h0 h : mH} {F : xFm} {W : xWm} {pm : Nat → Nat} {x : Int64} (hR : xR yV ad h0 F (hS W x) pm h) (y : Int64) : mCon l D aC mX6_mix [.ref (ad 30 0 0), .long y] h (mRv (fun h' => xR yV ad h0 F (hS W (31 * x + y)) pm h')) := by
  refine mCon.of [some (.ref (ad 30 0 0)), some (.long y), none] (by decide +kernel) rfl (Nat.le_of_ble_eq_true rfl) ?_
  intro K el eD eC hK hZ
  subst el eD eC
  refine mJ_aload_n hK dX6_mix_0 rfl ?_
  refine mJ_ldc2 hK dX6_mix_1 cX6_289 ?_
  refine mJ_aload_n hK dX6_mix_4 rfl ?_
  refine xJ_getl hR hK dX6_mix_5 fX6_291 (by unfold yV; omega) (fun _ _ => rfl) (by decide) (fun _ _ => rfl) ?_
  refine mJ_lmul hK dX6_mix_8 ?_
  refine mJ_lload_n hK dX6_mix_9 rfl ?_
  refine mJ_ladd hK dX6_mix_10 ?_
  refine xJ_putl hR hK dX6_mix_11 fX6_291 sX6_52 (by unfold yV; omega) (fun _ _ => rfl) (by decide) (fun _ _ => xL_6) (fun h hR => ?_)
  refine mJ_vret hK dX6_mix_14 rfl hZ (by decide) (by decide) ?_
  exact ⟨rfl, xR_ext2 hR rfl hS_s⟩

set_option maxRecDepth 100000 in
set_option maxHeartbeats 4000000 in
theorem lp_X6_mixMessages_i {K : mK} (hK : mCx K mX6_mixMessages) {ad : xAd} {h0 : mH} {F : xFm} {W : xWm} {pm : Nat → Nat} {q : Nat → Nat} (hq : ∀ c, c < 8 → F 44 0 0 c = nI (q c) ∧ q c ≤ 8) {c : Nat} (hc : c < 8) {x : Int64} (hkk : ∀ h' : mH, xR yV ad h0 F (hS W (qmx (fun i => F 45 0 0 (8 * c + i)) (fun i => F 46 0 0 (8 * c + i)) (fun i => F 47 0 0 (8 * c + i)) x (q c))) pm h' → mJ K 0 0 85 [some (.ref (ad 30 0 0)), some (.int (nI c)), some (.int (nI (q c)))] [] h') : ∀ (fu : Nat) (e : Nat) (h : mH), q c - e < fu → (e ≤ q c) → (xR yV ad h0 F (hS W (qmx (fun i => F 45 0 0 (8 * c + i)) (fun i => F 46 0 0 (8 * c + i)) (fun i => F 47 0 0 (8 * c + i)) x e)) pm h) → mJ K 0 0 21 [some (.ref (ad 30 0 0)), some (.int (nI c)), some (.int (nI e))] [] h := by
  intro fu
  induction fu with
  | zero =>
    intro e h hm0
    exact absurd hm0 (by omega)
  | succ fu ih =>
    intro e h hm0 he hR
    have hq8 := (hq c hc).2
    refine mJ_iload_n hK dX6_mixMessages_21 rfl ?_
    refine mJ_aload_n hK dX6_mixMessages_22 rfl ?_
    refine xJ_getr hR hK dX6_mixMessages_23 fX6_41 (by unfold yV; omega) (fun _ _ => rfl) (by decide) (fun _ _ => rfl) ?_
    refine mJ_iload_n hK dX6_mixMessages_26 rfl ?_
    refine xJ_ialdx c (nI (q c)) hR hK dX6_mixMessages_27 (by unfold yV; omega) (fun _ _ => rfl) rfl (by omega) (by decide) ((hq c hc).1) ?_
    refine mJ_nge (tgt := 85) hK dX6_mixMessages_28 (by decide) (by first | omega | (have := (hq c hc).2; omega)) (by first | omega | (have := (hq c hc).2; omega)) (fun c_28 => ?_) (fun c_28 => ?_)
    · have : e = q c := by omega
      subst this
      exact hkk _ hR
    · refine mJ_aload_n hK dX6_mixMessages_31 rfl ?_
      refine mJ_aload_n hK dX6_mixMessages_32 rfl ?_
      refine xJ_getr hR hK dX6_mixMessages_33 fX6_44 (by unfold yV; omega) (fun _ _ => rfl) (by decide) (fun _ _ => rfl) ?_
      refine mJ_bipush (v := nI 8) hK dX6_mixMessages_36 (by decide) ?_
      refine mJ_iload_n hK dX6_mixMessages_38 rfl ?_
      refine mJ_imulN hK dX6_mixMessages_39 ?_
      refine mJ_iload_n hK dX6_mixMessages_40 rfl ?_
      refine mJ_iaddN hK dX6_mixMessages_41 ?_
      refine xJ_iald ((8 * c) + e) hR hK dX6_mixMessages_42 (by unfold yV; omega) (fun _ _ => rfl) rfl (by omega) (by decide) ?_
      refine mJ_i2l hK dX6_mixMessages_43 ?_
      refine mJ_cVv hK dX6_mixMessages_44 lX6_295 (by unfold mFit; decide) (by decide) (k_X6_mix hR _) rfl rfl (Nat.le_of_ble_eq_true rfl) (hR.1 _ _ _ (by unfold yV; omega)) ⟨_, _, rfl⟩ (fun h hR => ?_)
      refine mJ_aload_n hK dX6_mixMessages_47 rfl ?_
      refine mJ_aload_n hK dX6_mixMessages_48 rfl ?_
      refine xJ_getr hR hK dX6_mixMessages_49 fX6_47 (by unfold yV; omega) (fun _ _ => rfl) (by decide) (fun _ _ => rfl) ?_
      refine mJ_bipush (v := nI 8) hK dX6_mixMessages_52 (by decide) ?_
      refine mJ_iload_n hK dX6_mixMessages_54 rfl ?_
      refine mJ_imulN hK dX6_mixMessages_55 ?_
      refine mJ_iload_n hK dX6_mixMessages_56 rfl ?_
      refine mJ_iaddN hK dX6_mixMessages_57 ?_
      refine xJ_iald ((8 * c) + e) hR hK dX6_mixMessages_58 (by unfold yV; omega) (fun _ _ => rfl) rfl (by omega) (by decide) ?_
      refine mJ_i2l hK dX6_mixMessages_59 ?_
      refine mJ_cVv hK dX6_mixMessages_60 lX6_295 (by unfold mFit; decide) (by decide) (k_X6_mix hR _) rfl rfl (Nat.le_of_ble_eq_true rfl) (hR.1 _ _ _ (by unfold yV; omega)) ⟨_, _, rfl⟩ (fun h hR => ?_)
      refine mJ_aload_n hK dX6_mixMessages_63 rfl ?_
      refine mJ_aload_n hK dX6_mixMessages_64 rfl ?_
      refine xJ_getr hR hK dX6_mixMessages_65 fX6_50 (by unfold yV; omega) (fun _ _ => rfl) (by decide) (fun _ _ => rfl) ?_
      refine mJ_bipush (v := nI 8) hK dX6_mixMessages_68 (by decide) ?_
      refine mJ_iload_n hK dX6_mixMessages_70 rfl ?_
      refine mJ_imulN hK dX6_mixMessages_71 ?_
      refine mJ_iload_n hK dX6_mixMessages_72 rfl ?_
      refine mJ_iaddN hK dX6_mixMessages_73 ?_
      refine xJ_iald ((8 * c) + e) hR hK dX6_mixMessages_74 (by unfold yV; omega) (fun _ _ => rfl) rfl (by omega) (by decide) ?_
      refine mJ_i2l hK dX6_mixMessages_75 ?_
      refine mJ_cVv hK dX6_mixMessages_76 lX6_295 (by unfold mFit; decide) (by decide) (k_X6_mix hR _) rfl rfl (Nat.le_of_ble_eq_true rfl) (hR.1 _ _ _ (by unfold yV; omega)) ⟨_, _, rfl⟩ (fun h hR => ?_)
      refine mJ_iincN hK dX6_mixMessages_79 rfl rfl (by decide) rfl ?_
      refine mJ_goto (tgt := 21) hK dX6_mixMessages_82 (by decide) ?_
      exact ih (e + 1) _ (by omega) (by omega) hR

set_option maxRecDepth 100000 in
set_option maxHeartbeats 4000000 in
theorem lp_X6_mixMessages {K : mK} (hK : mCx K mX6_mixMessages) {ad : xAd} {h0 : mH} {F : xFm} {W : xWm} {pm : Nat → Nat} {q : Nat → Nat} (hq : ∀ c, c < 8 → F 44 0 0 c = nI (q c) ∧ q c ≤ 8) {x : Int64} (hZ : mRt K mX6_mixMessages (mRv (fun h' => xR yV ad h0 F (hS W (mgA F q x 8)) pm h'))) : ∀ (fu : Nat) (e : Nat) (u : Option Value) (h : mH), 8 - e < fu → (e ≤ 8) → (xR yV ad h0 F (hS W (mgA F q x e)) pm h) → mJ K 0 0 2 [some (.ref (ad 30 0 0)), some (.int (nI e)), u] [] h := by
  intro fu
  induction fu with
  | zero =>
    intro e u h hm0
    exact absurd hm0 (by omega)
  | succ fu ih =>
    intro e u h hm0 he hR
    refine mJ_iload_n hK dX6_mixMessages_2 rfl ?_
    refine mJ_bipush (v := nI 8) hK dX6_mixMessages_3 (by decide) ?_
    refine mJ_nge (tgt := 91) hK dX6_mixMessages_5 (by decide) (by omega) (by omega) (fun c_5 => ?_) (fun c_5 => ?_)
    · refine mJ_vret hK dX6_mixMessages_91 rfl hZ (by decide) (by decide) ?_
      have : e = 8 := by omega
      subst this
      exact ⟨rfl, hR⟩
    · refine mJ_aload_n hK dX6_mixMessages_8 rfl ?_
      refine mJ_aload_n hK dX6_mixMessages_9 rfl ?_
      refine xJ_getr hR hK dX6_mixMessages_10 fX6_41 (by unfold yV; omega) (fun _ _ => rfl) (by decide) (fun _ _ => rfl) ?_
      refine mJ_iload_n hK dX6_mixMessages_13 rfl ?_
      refine xJ_ialdx e (nI (q e)) hR hK dX6_mixMessages_14 (by unfold yV; omega) (fun _ _ => rfl) rfl (by omega) (by decide) ((hq e (by omega)).1) ?_
      refine mJ_i2l hK dX6_mixMessages_15 ?_
      refine mJ_cVv hK dX6_mixMessages_16 lX6_295 (by unfold mFit; decide) (by decide) (k_X6_mix hR _) rfl rfl (Nat.le_of_ble_eq_true rfl) (hR.1 _ _ _ (by unfold yV; omega)) ⟨_, _, rfl⟩ (fun h hR => ?_)
      refine mJ_iconst (v := nI 0) hK dX6_mixMessages_19 (by decide) ?_
      refine mJ_istore_n hK dX6_mixMessages_20 (by decide) rfl ?_
      refine lp_X6_mixMessages_i hK hq (c := e) (by omega) ?_ (q e + 1) 0 _ (by omega) (by omega) hR
      intro h hR
      refine mJ_iincN hK dX6_mixMessages_85 rfl rfl (by decide) rfl ?_
      refine mJ_goto (tgt := 2) hK dX6_mixMessages_88 (by decide) ?_
      exact ih (e + 1) _ _ (by omega) (by omega) hR

set_option maxRecDepth 100000 in
set_option maxHeartbeats 4000000 in
theorem k_X6_mixMessages {l : Launch} {D : va_G} {aC : Nat → ClassId} {ad : xAd} {h0 h : mH} {F : xFm} {W : xWm} {pm : Nat → Nat} {x : Int64} (hR : xR yV ad h0 F (hS W x) pm h) {q : Nat → Nat} (hq : ∀ c, c < 8 → F 44 0 0 c = nI (q c) ∧ q c ≤ 8) : mCon l D aC mX6_mixMessages [.ref (ad 30 0 0)] h (mRv (fun h' => xR yV ad h0 F (hS W (mgA F q x 8)) pm h')) := by
  refine mCon.of [some (.ref (ad 30 0 0)), none, none] (by decide +kernel) rfl (Nat.le_of_ble_eq_true rfl) ?_
  intro K el eD eC hK hZ
  subst el eD eC
  refine mJ_iconst (v := nI 0) hK dX6_mixMessages_0 (by decide) ?_
  refine mJ_istore_n hK dX6_mixMessages_1 (by decide) rfl ?_
  exact lp_X6_mixMessages hK hq hZ 9 0 none _ (by omega) (by omega) hR

set_option maxRecDepth 100000 in
set_option maxHeartbeats 4000000 in
theorem lp_X6_mixTickets {K : mK} (hK : mCx K mX6_mixTickets) {ad : xAd} {h0 : mH} {F : xFm} {W : xWm} {pm : Nat → Nat} {g : Nat} (hg : F 30 0 0 19 = nI g) (hgb : g < 1000000) {x : Int64} (hZ : mRt K mX6_mixTickets (mRv (fun h' => xR yV ad h0 F (hS W (tmx (F 50 0 0) (F 51 0 0) (31 * x + (nI g).toInt64) (g - 24) (g - (g - 24)))) pm h'))) : ∀ (fu : Nat) (e : Nat) (h : mH), g - (g - 24) - e < fu → (e ≤ g - (g - 24)) → (xR yV ad h0 F (hS W (tmx (F 50 0 0) (F 51 0 0) (31 * x + (nI g).toInt64) (g - 24) e)) pm h) → mJ K 0 0 30 [some (.ref (ad 30 0 0)), some (.int (nI (g - 24 + e)))] [] h := by
  intro fu
  induction fu with
  | zero =>
    intro e h hm0
    exact absurd hm0 (by omega)
  | succ fu ih =>
    intro e h hm0 he hR
    refine mJ_iload_n hK dX6_mixTickets_30 rfl ?_
    refine mJ_aload_n hK dX6_mixTickets_31 rfl ?_
    refine xJ_getx (nI g) hR hK dX6_mixTickets_32 fX6_210 (by unfold yV; omega) (fun _ _ => rfl) (by decide) rfl (hg) ?_
    refine mJ_nge (tgt := 85) hK dX6_mixTickets_35 (by decide) (by omega) (by omega) (fun c_35 => ?_) (fun c_35 => ?_)
    · refine mJ_vret hK dX6_mixTickets_85 rfl hZ (by decide) (by decide) ?_
      have : e = g - (g - 24) := by omega
      subst this
      exact ⟨rfl, hR⟩
    · refine mJ_aload_n hK dX6_mixTickets_38 rfl ?_
      refine mJ_aload_n hK dX6_mixTickets_39 rfl ?_
      refine xJ_getr hR hK dX6_mixTickets_40 fX6_53 (by unfold yV; omega) (fun _ _ => rfl) (by decide) (fun _ _ => rfl) ?_
      refine mJ_iload_n hK dX6_mixTickets_43 rfl ?_
      refine mJ_bipush (v := nI 24) hK dX6_mixTickets_44 (by decide) ?_
      refine mJ_iremN hK dX6_mixTickets_46 (by omega) (by omega) (by omega) ?_
      refine xJ_iald ((g - 24 + e) % 24) hR hK dX6_mixTickets_47 (by unfold yV; omega) (fun _ _ => rfl) rfl (by omega) (by decide) ?_
      refine mJ_i2l hK dX6_mixTickets_48 ?_
      refine mJ_cVv hK dX6_mixTickets_49 lX6_295 (by unfold mFit; decide) (by decide) (k_X6_mix hR _) rfl rfl (Nat.le_of_ble_eq_true rfl) (hR.1 _ _ _ (by unfold yV; omega)) ⟨_, _, rfl⟩ (fun h hR => ?_)
      refine mJ_aload_n hK dX6_mixTickets_52 rfl ?_
      refine xJ_getr hR hK dX6_mixTickets_53 fX6_53 (by unfold yV; omega) (fun _ _ => rfl) (by decide) (fun _ _ => rfl) ?_
      refine mJ_iload_n hK dX6_mixTickets_56 rfl ?_
      refine mJ_bipush (v := nI 24) hK dX6_mixTickets_57 (by decide) ?_
      refine mJ_iremN hK dX6_mixTickets_59 (by omega) (by omega) (by omega) ?_
      refine xJ_iald ((g - 24 + e) % 24) hR hK dX6_mixTickets_60 (by unfold yV; omega) (fun _ _ => rfl) rfl (by omega) (by decide) ?_
      refine mJ_iconst (v := nI 1) hK dX6_mixTickets_61 (by decide) ?_
      refine mJ_icmp_ne (tgt := 79) hK dX6_mixTickets_62 (by decide) (fun c_62 => ?_) (fun c_62 => ?_)
      · refine mJ_iincN hK dX6_mixTickets_79 rfl rfl (by decide) rfl ?_
        refine mJ_goto (tgt := 30) hK dX6_mixTickets_82 (by decide) ?_
        refine ih (e + 1) _ (by omega) (by omega) (xR_ext2 hR rfl ?_)
        first | (rw [tmx, if_pos c_62]; try rfl) | (rw [tmx, if_neg c_62]; try rfl)
      · refine mJ_aload_n hK dX6_mixTickets_65 rfl ?_
        refine mJ_aload_n hK dX6_mixTickets_66 rfl ?_
        refine xJ_getr hR hK dX6_mixTickets_67 fX6_56 (by unfold yV; omega) (fun _ _ => rfl) (by decide) (fun _ _ => rfl) ?_
        refine mJ_iload_n hK dX6_mixTickets_70 rfl ?_
        refine mJ_bipush (v := nI 24) hK dX6_mixTickets_71 (by decide) ?_
        refine mJ_iremN hK dX6_mixTickets_73 (by omega) (by omega) (by omega) ?_
        refine xJ_iald ((g - 24 + e) % 24) hR hK dX6_mixTickets_74 (by unfold yV; omega) (fun _ _ => rfl) rfl (by omega) (by decide) ?_
        refine mJ_i2l hK dX6_mixTickets_75 ?_
        refine mJ_cVv hK dX6_mixTickets_76 lX6_295 (by unfold mFit; decide) (by decide) (k_X6_mix hR _) rfl rfl (Nat.le_of_ble_eq_true rfl) (hR.1 _ _ _ (by unfold yV; omega)) ⟨_, _, rfl⟩ (fun h hR => ?_)
        refine mJ_iincN hK dX6_mixTickets_79 rfl rfl (by decide) rfl ?_
        refine mJ_goto (tgt := 30) hK dX6_mixTickets_82 (by decide) ?_
        refine ih (e + 1) _ (by omega) (by omega) (xR_ext2 hR rfl ?_)
        first | (rw [tmx, if_pos c_62]; try rfl) | (rw [tmx, if_neg c_62]; try rfl)

set_option maxRecDepth 100000 in
set_option maxHeartbeats 4000000 in
theorem k_X6_mixTickets {l : Launch} {D : va_G} {aC : Nat → ClassId} {ad : xAd} {h0 h : mH} {F : xFm} {W : xWm} {pm : Nat → Nat} {x : Int64} (hR : xR yV ad h0 F (hS W x) pm h) {g : Nat} (hg : F 30 0 0 19 = nI g) (hgb : g < 1000000) : mCon l D aC mX6_mixTickets [.ref (ad 30 0 0)] h (mRv (fun h' => xR yV ad h0 F (hS W (tmx (F 50 0 0) (F 51 0 0) (31 * x + (nI g).toInt64) (g - 24) (g - (g - 24)))) pm h')) := by
  refine mCon.of [some (.ref (ad 30 0 0)), none] (by decide +kernel) rfl (Nat.le_of_ble_eq_true rfl) ?_
  intro K el eD eC hK hZ
  subst el eD eC
  refine mJ_aload_n hK dX6_mixTickets_0 rfl ?_
  refine mJ_aload_n hK dX6_mixTickets_1 rfl ?_
  refine xJ_getx (nI g) hR hK dX6_mixTickets_2 fX6_210 (by unfold yV; omega) (fun _ _ => rfl) (by decide) rfl (hg) ?_
  refine mJ_i2l hK dX6_mixTickets_5 ?_
  refine mJ_cVv hK dX6_mixTickets_6 lX6_295 (by unfold mFit; decide) (by decide) (k_X6_mix hR _) rfl rfl (Nat.le_of_ble_eq_true rfl) (hR.1 _ _ _ (by unfold yV; omega)) ⟨_, _, rfl⟩ (fun h hR => ?_)
  refine mJ_aload_n hK dX6_mixTickets_9 rfl ?_
  refine xJ_getx (nI g) hR hK dX6_mixTickets_10 fX6_210 (by unfold yV; omega) (fun _ _ => rfl) (by decide) rfl (hg) ?_
  refine mJ_bipush (v := nI 24) hK dX6_mixTickets_13 (by decide) ?_
  refine mJ_nle (tgt := 28) hK dX6_mixTickets_15 (by decide) (by omega) (by omega) (fun c_15 => ?_) (fun c_15 => ?_)
  · refine mJ_iconst (v := nI 0) hK dX6_mixTickets_28 (by decide) ?_
    refine mJ_istore_n hK dX6_mixTickets_29 (by decide) rfl ?_
    first | exact lp_X6_mixTickets hK hg hgb hZ 25 0 _ (by omega) (by omega) hR | (have e0 : g - 24 = 0 := by omega); refine mJ_L ?_ (lp_X6_mixTickets hK hg hgb hZ 25 0 _ (by omega) (by omega) hR); rw [e0]; rfl
  · refine mJ_aload_n hK dX6_mixTickets_18 rfl ?_
    refine xJ_getx (nI g) hR hK dX6_mixTickets_19 fX6_210 (by unfold yV; omega) (fun _ _ => rfl) (by decide) rfl (hg) ?_
    refine mJ_bipush (v := nI 24) hK dX6_mixTickets_22 (by decide) ?_
    refine mJ_isubN hK dX6_mixTickets_24 (by omega) ?_
    refine mJ_goto (tgt := 29) hK dX6_mixTickets_25 (by decide) ?_
    refine mJ_istore_n hK dX6_mixTickets_29 (by decide) rfl ?_
    first | exact lp_X6_mixTickets hK hg hgb hZ 25 0 _ (by omega) (by omega) hR | (have e0 : g - 24 = 0 := by omega); refine mJ_L ?_ (lp_X6_mixTickets hK hg hgb hZ 25 0 _ (by omega) (by omega) hR); rw [e0]; rfl

set_option maxRecDepth 100000 in
set_option maxHeartbeats 4000000 in
theorem lp_X6_digest_r {K : mK} (hK : mCx K mX6_digest) {ad : xAd} {h0 : mH} {F : xFm} {W : xWm} {pm : Nat → Nat} {rn : Nat} (hrn : F 30 0 0 3 = nI rn) (hrn8 : rn ≤ 8) {x : Int64} (hkk : ∀ h' : mH, xR yV ad h0 F (hS W (rmx (F 34 0 0) (F 41 0 0) x rn)) pm h' → mJ K 0 0 59 [some (.ref (ad 30 0 0)), some (.int (nI (rn)))] [] h') : ∀ (fu : Nat) (e : Nat) (h : mH), rn - e < fu → (e ≤ rn) → (xR yV ad h0 F (hS W (rmx (F 34 0 0) (F 41 0 0) x e)) pm h) → mJ K 0 0 23 [some (.ref (ad 30 0 0)), some (.int (nI e))] [] h := by
  intro fu
  induction fu with
  | zero =>
    intro e h hm0
    exact absurd hm0 (by omega)
  | succ fu ih =>
    intro e h hm0 he hR
    refine mJ_iload_n hK dX6_digest_23 rfl ?_
    refine mJ_aload_n hK dX6_digest_24 rfl ?_
    refine xJ_getx (nI rn) hR hK dX6_digest_25 fX6_188 (by unfold yV; omega) (fun _ _ => rfl) (by decide) rfl (by first | exact hrn | (simp [fr, upd]; exact hrn) | (simp [fr, upd, tS]; exact hrn)) ?_
    refine mJ_nge (tgt := 59) hK dX6_digest_28 (by decide) (by omega) (by omega) (fun c_28 => ?_) (fun c_28 => ?_)
    · have : e = rn := by omega
      subst this
      exact hkk _ hR
    · refine mJ_aload_n hK dX6_digest_31 rfl ?_
      refine mJ_aload_n hK dX6_digest_32 rfl ?_
      refine xJ_getr hR hK dX6_digest_33 fX6_13 (by unfold yV; omega) (fun _ _ => rfl) (by decide) (fun _ _ => rfl) ?_
      refine mJ_iload_n hK dX6_digest_36 rfl ?_
      refine xJ_iald e hR hK dX6_digest_37 (by unfold yV; omega) (fun _ _ => rfl) rfl (by omega) (by decide) ?_
      refine mJ_i2l hK dX6_digest_38 ?_
      refine mJ_cVv hK dX6_digest_39 lX6_295 (by unfold mFit; decide) (by decide) (k_X6_mix hR _) rfl rfl (Nat.le_of_ble_eq_true rfl) (hR.1 _ _ _ (by unfold yV; omega)) ⟨_, _, rfl⟩ (fun h hR => ?_)
      refine mJ_aload_n hK dX6_digest_42 rfl ?_
      refine mJ_aload_n hK dX6_digest_43 rfl ?_
      refine xJ_getr hR hK dX6_digest_44 fX6_34 (by unfold yV; omega) (fun _ _ => rfl) (by decide) (fun _ _ => rfl) ?_
      refine mJ_iload_n hK dX6_digest_47 rfl ?_
      refine xJ_iald e hR hK dX6_digest_48 (by unfold yV; omega) (fun _ _ => rfl) rfl (by omega) (by decide) ?_
      refine mJ_i2l hK dX6_digest_49 ?_
      refine mJ_cVv hK dX6_digest_50 lX6_295 (by unfold mFit; decide) (by decide) (k_X6_mix hR _) rfl rfl (Nat.le_of_ble_eq_true rfl) (hR.1 _ _ _ (by unfold yV; omega)) ⟨_, _, rfl⟩ (fun h hR => ?_)
      refine mJ_iincN hK dX6_digest_53 rfl rfl (by decide) rfl ?_
      refine mJ_goto (tgt := 23) hK dX6_digest_56 (by decide) ?_
      exact ih (e + 1) _ (by omega) (by omega) hR

set_option maxRecDepth 100000 in
set_option maxHeartbeats 4000000 in
theorem lp_X6_digest_c {K : mK} (hK : mCx K mX6_digest) {ad : xAd} {h0 : mH} {F : xFm} {W : xWm} {pm : Nat → Nat}  {x : Int64} (hkk : ∀ h' : mH, xR yV ad h0 F (hS W (mgB F W x 8)) pm h' → mJ K 0 0 98 [some (.ref (ad 30 0 0)), some (.int (nI (8)))] [] h') : ∀ (fu : Nat) (e : Nat) (h : mH), 8 - e < fu → (e ≤ 8) → (xR yV ad h0 F (hS W (mgB F W x e)) pm h) → mJ K 0 0 65 [some (.ref (ad 30 0 0)), some (.int (nI e))] [] h := by
  intro fu
  induction fu with
  | zero =>
    intro e h hm0
    exact absurd hm0 (by omega)
  | succ fu ih =>
    intro e h hm0 he hR
    refine mJ_iload_n hK dX6_digest_65 rfl ?_
    refine mJ_bipush (v := nI 8) hK dX6_digest_66 (by decide) ?_
    refine mJ_nge (tgt := 98) hK dX6_digest_68 (by decide) (by omega) (by omega) (fun c_68 => ?_) (fun c_68 => ?_)
    · have : e = 8 := by omega
      subst this
      exact hkk _ hR
    · refine mJ_aload_n hK dX6_digest_71 rfl ?_
      refine mJ_aload_n hK dX6_digest_72 rfl ?_
      refine xJ_getr hR hK dX6_digest_73 fX6_59 (by unfold yV; omega) (fun _ _ => rfl) (by decide) (fun _ _ => rfl) ?_
      refine mJ_iload_n hK dX6_digest_76 rfl ?_
      refine xJ_iald e hR hK dX6_digest_77 (by unfold yV; omega) (fun _ _ => rfl) rfl (by omega) (by decide) ?_
      refine mJ_i2l hK dX6_digest_78 ?_
      refine mJ_cVv hK dX6_digest_79 lX6_295 (by unfold mFit; decide) (by decide) (k_X6_mix hR _) rfl rfl (Nat.le_of_ble_eq_true rfl) (hR.1 _ _ _ (by unfold yV; omega)) ⟨_, _, rfl⟩ (fun h hR => ?_)
      refine mJ_aload_n hK dX6_digest_82 rfl ?_
      refine mJ_aload_n hK dX6_digest_83 rfl ?_
      refine xJ_getr hR hK dX6_digest_84 fX6_62 (by unfold yV; omega) (fun _ _ => rfl) (by decide) (fun _ _ => rfl) ?_
      refine mJ_iload_n hK dX6_digest_87 rfl ?_
      refine xJ_lald e hR hK dX6_digest_88 (by unfold yV; omega) (fun _ _ => rfl) rfl (by omega) (by decide) ?_
      refine mJ_cVv hK dX6_digest_89 lX6_295 (by unfold mFit; decide) (by decide) (k_X6_mix hR _) rfl rfl (Nat.le_of_ble_eq_true rfl) (hR.1 _ _ _ (by unfold yV; omega)) ⟨_, _, rfl⟩ (fun h hR => ?_)
      refine mJ_iincN hK dX6_digest_92 rfl rfl (by decide) rfl ?_
      refine mJ_goto (tgt := 65) hK dX6_digest_95 (by decide) ?_
      exact ih (e + 1) _ (by omega) (by omega) hR

set_option maxRecDepth 100000 in
set_option maxHeartbeats 4000000 in
theorem lp_X6_digest_b {K : mK} (hK : mCx K mX6_digest) {ad : xAd} {h0 : mH} {F : xFm} {W : xWm} {pm : Nat → Nat} {bl : Nat} (hbl : F 30 0 0 1 = nI bl) (hbl40 : bl ≤ 40) {x : Int64} (hkk : ∀ h' : mH, xR yV ad h0 F (hS W (bmx (F 32 0 0) x bl)) pm h' → mJ K 0 0 199 [some (.ref (ad 30 0 0)), some (.int (nI (bl)))] [] h') : ∀ (fu : Nat) (e : Nat) (h : mH), bl - e < fu → (e ≤ bl) → (xR yV ad h0 F (hS W (bmx (F 32 0 0) x e)) pm h) → mJ K 0 0 174 [some (.ref (ad 30 0 0)), some (.int (nI e))] [] h := by
  intro fu
  induction fu with
  | zero =>
    intro e h hm0
    exact absurd hm0 (by omega)
  | succ fu ih =>
    intro e h hm0 he hR
    refine mJ_iload_n hK dX6_digest_174 rfl ?_
    refine mJ_aload_n hK dX6_digest_175 rfl ?_
    refine xJ_getx (nI bl) hR hK dX6_digest_176 fX6_124 (by unfold yV; omega) (fun _ _ => rfl) (by decide) rfl (hbl) ?_
    refine mJ_nge (tgt := 199) hK dX6_digest_179 (by decide) (by omega) (by omega) (fun c_179 => ?_) (fun c_179 => ?_)
    · have : e = bl := by omega
      subst this
      exact hkk _ hR
    · refine mJ_aload_n hK dX6_digest_182 rfl ?_
      refine mJ_aload_n hK dX6_digest_183 rfl ?_
      refine xJ_getr hR hK dX6_digest_184 fX6_7 (by unfold yV; omega) (fun _ _ => rfl) (by decide) (fun _ _ => rfl) ?_
      refine mJ_iload_n hK dX6_digest_187 rfl ?_
      refine xJ_iald e hR hK dX6_digest_188 (by unfold yV; omega) (fun _ _ => rfl) rfl (by omega) (by decide) ?_
      refine mJ_i2l hK dX6_digest_189 ?_
      refine mJ_cVv hK dX6_digest_190 lX6_295 (by unfold mFit; decide) (by decide) (k_X6_mix hR _) rfl rfl (Nat.le_of_ble_eq_true rfl) (hR.1 _ _ _ (by unfold yV; omega)) ⟨_, _, rfl⟩ (fun h hR => ?_)
      refine mJ_iincN hK dX6_digest_193 rfl rfl (by decide) rfl ?_
      refine mJ_goto (tgt := 174) hK dX6_digest_196 (by decide) ?_
      exact ih (e + 1) _ (by omega) (by omega) hR

set_option maxRecDepth 100000 in
set_option maxHeartbeats 4000000 in
theorem k_X6_digest_0 {l : Launch} {D : va_G} {aC : Nat → ClassId} {ad : xAd} {h0 h : mH} {F : xFm} {W : xWm} {pm : Nat → Nat} (hR : xR yV ad h0 F W pm h) {rn : Nat} (hrn : F 30 0 0 3 = nI rn) (hrn8 : rn ≤ 8) {q : Nat → Nat} (hq : ∀ c, c < 8 → F 44 0 0 c = nI (q c) ∧ q c ≤ 8) {ga gb om : Nat → Nat} {mt : Nat → Option (Nat → Nat)} (hM : rM F q rn ga gb om mt) {po : Nat} (hpo : F 30 0 0 13 = nI po) (hpo2 : po ≤ 2) {st : Nat} (hst : F 30 0 0 12 + nI 1 = nI st) (hst8 : st ≤ 8) {s0 : Nat} (hs0 : s0 = if po = 1 then st else 0) {g : Nat} (hg : F 30 0 0 19 = nI g) (hgb : g < 1000000) {bl : Nat} (hbl : F 30 0 0 1 = nI bl) (hbl40 : bl ≤ 40) (hsv : F 30 0 0 39 = nI 0) : mCon l D aC mX6_digest [.ref (ad 30 0 0)] h (mRl (dgM F W q rn g po bl (enM F q om mt) (nxL (enM F q om mt) (F 41 0 0) po rn s0 rn 0 none) 0) (fun h' => ∃ (ch : Nat → Int32) (x : Int64), xR yV ad h0 (fr (tS F (nI 0)) 66 0 0 ch) (hS W x) pm h')) := by
  refine mCon.of [some (.ref (ad 30 0 0)), none] (by decide +kernel) rfl (Nat.le_of_ble_eq_true rfl) ?_
  intro K el eD eC hK hZ
  subst el eD eC
  refine mJ_aload_n hK dX6_digest_0 rfl ?_
  refine mJ_iconst (v := nI 0) hK dX6_digest_1 (by decide) ?_
  refine xJ_puti hR hK dX6_digest_2 fX6_117 sX6_0 rfl rfl (by unfold yV; omega) (fun _ _ => rfl) (by decide) rfl (fun h hR => ?_)
  refine mJ_aload_n hK dX6_digest_5 rfl ?_
  refine mJ_ldc2 hK dX6_digest_6 cX6_299 ?_
  refine xJ_putl hR hK dX6_digest_9 fX6_291 sX6_52 (by unfold yV; omega) (fun _ _ => rfl) (by decide) (fun _ _ => xL_6) (fun h hR => ?_)
  have hR : xR yV ad h0 (tS F (nI 0)) (hS W 1847) pm h := hR
  refine mJ_aload_n hK dX6_digest_12 rfl ?_
  refine mJ_aload_n hK dX6_digest_13 rfl ?_
  refine xJ_getx (nI rn) hR hK dX6_digest_14 fX6_188 (by unfold yV; omega) (fun _ _ => rfl) (by decide) rfl (hrn) ?_
  refine mJ_i2l hK dX6_digest_17 ?_
  refine mJ_cVv hK dX6_digest_18 lX6_295 (by unfold mFit; decide) (by decide) (k_X6_mix hR _) rfl rfl (Nat.le_of_ble_eq_true rfl) (hR.1 _ _ _ (by unfold yV; omega)) ⟨_, _, rfl⟩ (fun h hR => ?_)
  refine mJ_iconst (v := nI 0) hK dX6_digest_21 (by decide) ?_
  refine mJ_istore_n hK dX6_digest_22 (by decide) rfl ?_
  refine lp_X6_digest_r hK (F := tS F (nI 0)) (rn := rn) hrn hrn8 ?_ (rn + 1) 0 _ (by omega) (by omega) hR
  intro h hR
  refine mJ_aload_n hK dX6_digest_59 rfl ?_
  refine mJ_cVv hK dX6_digest_60 lX6_301 (by unfold mFit; decide) (by decide) (k_X6_mixMessages hR (q := q) hq) rfl rfl (Nat.le_of_ble_eq_true rfl) (hR.1 _ _ _ (by unfold yV; omega)) ⟨_, _, rfl⟩ (fun h hR => ?_)
  refine mJ_iconst (v := nI 0) hK dX6_digest_63 (by decide) ?_
  refine mJ_istore_n hK dX6_digest_64 (by decide) rfl ?_
  refine lp_X6_digest_c hK (F := tS F (nI 0)) ?_ 9 0 _ (by omega) (by omega) hR
  intro h hR
  refine mJ_aload_n hK dX6_digest_98 rfl ?_
  refine mJ_cVv hK dX6_digest_99 lX6_304 (by unfold mFit; decide) (by decide) (k_X6_mixTickets hR (g := g) hg hgb) rfl rfl (Nat.le_of_ble_eq_true rfl) (hR.1 _ _ _ (by unfold yV; omega)) ⟨_, _, rfl⟩ (fun h hR => ?_)
  refine mJ_aload_n hK dX6_digest_102 rfl ?_
  refine mJ_aload_n hK dX6_digest_103 rfl ?_
  refine xJ_geti hR hK dX6_digest_104 fX6_204 (by unfold yV; omega) (fun _ _ => rfl) (by decide) rfl ?_
  refine mJ_i2l hK dX6_digest_107 ?_
  refine mJ_cVv hK dX6_digest_108 lX6_295 (by unfold mFit; decide) (by decide) (k_X6_mix hR _) rfl rfl (Nat.le_of_ble_eq_true rfl) (hR.1 _ _ _ (by unfold yV; omega)) ⟨_, _, rfl⟩ (fun h hR => ?_)
  refine mJ_aload_n hK dX6_digest_111 rfl ?_
  refine mJ_aload_n hK dX6_digest_112 rfl ?_
  refine xJ_getx (nI po) hR hK dX6_digest_113 fX6_201 (by unfold yV; omega) (fun _ _ => rfl) (by decide) rfl (hpo) ?_
  refine mJ_i2l hK dX6_digest_116 ?_
  refine mJ_cVv hK dX6_digest_117 lX6_295 (by unfold mFit; decide) (by decide) (k_X6_mix hR _) rfl rfl (Nat.le_of_ble_eq_true rfl) (hR.1 _ _ _ (by unfold yV; omega)) ⟨_, _, rfl⟩ (fun h hR => ?_)
  refine mJ_aload_n hK dX6_digest_120 rfl ?_
  refine mJ_aload_n hK dX6_digest_121 rfl ?_
  refine mJ_cVi hK dX6_digest_122 lX6_220 (by unfold mFit; decide) (by decide) (k_X6_readyNow hR (rn := rn) hrn hrn8 (q := q) hq) rfl rfl (Nat.le_of_ble_eq_true rfl) (hR.1 _ _ _ (by unfold yV; omega)) ⟨_, _, rfl⟩ (fun h e9 => ?_)
  subst e9
  refine mJ_i2l hK dX6_digest_125 ?_
  refine mJ_cVv hK dX6_digest_126 lX6_295 (by unfold mFit; decide) (by decide) (k_X6_mix hR _) rfl rfl (Nat.le_of_ble_eq_true rfl) (hR.1 _ _ _ (by unfold yV; omega)) ⟨_, _, rfl⟩ (fun h hR => ?_)
  refine mJ_aload_n hK dX6_digest_129 rfl ?_
  refine mJ_aload_n hK dX6_digest_130 rfl ?_
  refine mJ_cVi hK dX6_digest_131 lX6_242 (by unfold mFit; decide) (by decide) (k_X6_enabledNow hR (rn := rn) hrn hrn8 (q := q) hq (om := om) (mt := mt) (ga := ga) (gb := gb) hM) rfl rfl (Nat.le_of_ble_eq_true rfl) (hR.1 _ _ _ (by unfold yV; omega)) ⟨_, _, rfl⟩ (fun h hE => ?_)
  obtain ⟨ch1, hR⟩ := hE
  refine mJ_i2l hK dX6_digest_134 ?_
  refine mJ_cVv hK dX6_digest_135 lX6_295 (by unfold mFit; decide) (by decide) (k_X6_mix hR _) rfl rfl (Nat.le_of_ble_eq_true rfl) (hR.1 _ _ _ (by unfold yV; omega)) ⟨_, _, rfl⟩ (fun h hR => ?_)
  refine mJ_aload_n hK dX6_digest_138 rfl ?_
  refine mJ_aload_n hK dX6_digest_139 rfl ?_
  refine mJ_cVi hK dX6_digest_140 lX6_245 (by unfold mFit; decide) (by decide) (k_X6_nextNow hR (rn := rn) hrn hrn8 (q := q) hq (om := om) (mt := mt) (ga := ga) (gb := gb) hM (po := po) hpo hpo2 (st := st) hst hst8 hs0) rfl rfl (Nat.le_of_ble_eq_true rfl) (hR.1 _ _ _ (by unfold yV; omega)) ⟨_, _, rfl⟩ (fun h hE => ?_)
  obtain ⟨ch2, hR⟩ := hE
  rw [fr_fr] at hR
  refine mJ_i2l hK dX6_digest_143 ?_
  refine mJ_cVv hK dX6_digest_144 lX6_295 (by unfold mFit; decide) (by decide) (k_X6_mix hR _) rfl rfl (Nat.le_of_ble_eq_true rfl) (hR.1 _ _ _ (by unfold yV; omega)) ⟨_, _, rfl⟩ (fun h hR => ?_)
  refine mJ_aload_n hK dX6_digest_147 rfl ?_
  refine mJ_aload_n hK dX6_digest_148 rfl ?_
  refine xJ_getx (nI 0) hR hK dX6_digest_149 fX6_191 (by unfold yV; omega) (fun _ _ => rfl) (by decide) rfl (hsv) ?_
  refine mJ_nif_eq (tgt := 159) hK dX6_digest_152 (by decide) (by omega) (fun c_152 => ?_) (fun c_152 => ?_)
  · refine mJ_lconst (v := 0) hK dX6_digest_159 (by decide) ?_
    refine mJ_cVv hK dX6_digest_160 lX6_295 (by unfold mFit; decide) (by decide) (k_X6_mix hR _) rfl rfl (Nat.le_of_ble_eq_true rfl) (hR.1 _ _ _ (by unfold yV; omega)) ⟨_, _, rfl⟩ (fun h hR => ?_)
    refine mJ_aload_n hK dX6_digest_163 rfl ?_
    refine mJ_aload_n hK dX6_digest_164 rfl ?_
    refine xJ_getx (nI bl) hR hK dX6_digest_165 fX6_124 (by unfold yV; omega) (fun _ _ => rfl) (by decide) rfl (hbl) ?_
    refine mJ_i2l hK dX6_digest_168 ?_
    refine mJ_cVv hK dX6_digest_169 lX6_295 (by unfold mFit; decide) (by decide) (k_X6_mix hR _) rfl rfl (Nat.le_of_ble_eq_true rfl) (hR.1 _ _ _ (by unfold yV; omega)) ⟨_, _, rfl⟩ (fun h hR => ?_)
    refine mJ_iconst (v := nI 0) hK dX6_digest_172 (by decide) ?_
    refine mJ_istore_n hK dX6_digest_173 (by decide) rfl ?_
    refine lp_X6_digest_b hK (F := fr (tS F (nI 0)) 66 0 0 ch2) (bl := bl) hbl hbl40 ?_ (bl + 1) 0 _ (by omega) (by omega) hR
    intro h hR
    refine mJ_aload_n hK dX6_digest_199 rfl ?_
    refine xJ_getl hR hK dX6_digest_200 fX6_291 (by unfold yV; omega) (fun _ _ => rfl) (by decide) (fun _ _ => rfl) ?_
    refine mJ_lret hK dX6_digest_203 rfl hZ (by decide) (by decide) ?_
    exact ⟨rfl, ch2, _, hR⟩
  · exact absurd c_152 (by omega)

set_option maxRecDepth 100000 in
set_option maxHeartbeats 4000000 in
theorem k_X6_digest_1 {l : Launch} {D : va_G} {aC : Nat → ClassId} {ad : xAd} {h0 h : mH} {F : xFm} {W : xWm} {pm : Nat → Nat} (hR : xR yV ad h0 F W pm h) {rn : Nat} (hrn : F 30 0 0 3 = nI rn) (hrn8 : rn ≤ 8) {q : Nat → Nat} (hq : ∀ c, c < 8 → F 44 0 0 c = nI (q c) ∧ q c ≤ 8) {ga gb om : Nat → Nat} {mt : Nat → Option (Nat → Nat)} (hM : rM F q rn ga gb om mt) {po : Nat} (hpo : F 30 0 0 13 = nI po) (hpo2 : po ≤ 2) {st : Nat} (hst : F 30 0 0 12 + nI 1 = nI st) (hst8 : st ≤ 8) {s0 : Nat} (hs0 : s0 = if po = 1 then st else 0) {g : Nat} (hg : F 30 0 0 19 = nI g) (hgb : g < 1000000) {bl : Nat} (hbl : F 30 0 0 1 = nI bl) (hbl40 : bl ≤ 40) (hsv : F 30 0 0 39 = nI 1) : mCon l D aC mX6_digest [.ref (ad 30 0 0)] h (mRl (dgM F W q rn g po bl (enM F q om mt) (nxL (enM F q om mt) (F 41 0 0) po rn s0 rn 0 none) 1) (fun h' => ∃ (ch : Nat → Int32) (x : Int64), xR yV ad h0 (fr (tS F (nI 0)) 66 0 0 ch) (hS W x) pm h')) := by
  refine mCon.of [some (.ref (ad 30 0 0)), none] (by decide +kernel) rfl (Nat.le_of_ble_eq_true rfl) ?_
  intro K el eD eC hK hZ
  subst el eD eC
  refine mJ_aload_n hK dX6_digest_0 rfl ?_
  refine mJ_iconst (v := nI 0) hK dX6_digest_1 (by decide) ?_
  refine xJ_puti hR hK dX6_digest_2 fX6_117 sX6_0 rfl rfl (by unfold yV; omega) (fun _ _ => rfl) (by decide) rfl (fun h hR => ?_)
  refine mJ_aload_n hK dX6_digest_5 rfl ?_
  refine mJ_ldc2 hK dX6_digest_6 cX6_299 ?_
  refine xJ_putl hR hK dX6_digest_9 fX6_291 sX6_52 (by unfold yV; omega) (fun _ _ => rfl) (by decide) (fun _ _ => xL_6) (fun h hR => ?_)
  have hR : xR yV ad h0 (tS F (nI 0)) (hS W 1847) pm h := hR
  refine mJ_aload_n hK dX6_digest_12 rfl ?_
  refine mJ_aload_n hK dX6_digest_13 rfl ?_
  refine xJ_getx (nI rn) hR hK dX6_digest_14 fX6_188 (by unfold yV; omega) (fun _ _ => rfl) (by decide) rfl (hrn) ?_
  refine mJ_i2l hK dX6_digest_17 ?_
  refine mJ_cVv hK dX6_digest_18 lX6_295 (by unfold mFit; decide) (by decide) (k_X6_mix hR _) rfl rfl (Nat.le_of_ble_eq_true rfl) (hR.1 _ _ _ (by unfold yV; omega)) ⟨_, _, rfl⟩ (fun h hR => ?_)
  refine mJ_iconst (v := nI 0) hK dX6_digest_21 (by decide) ?_
  refine mJ_istore_n hK dX6_digest_22 (by decide) rfl ?_
  refine lp_X6_digest_r hK (F := tS F (nI 0)) (rn := rn) hrn hrn8 ?_ (rn + 1) 0 _ (by omega) (by omega) hR
  intro h hR
  refine mJ_aload_n hK dX6_digest_59 rfl ?_
  refine mJ_cVv hK dX6_digest_60 lX6_301 (by unfold mFit; decide) (by decide) (k_X6_mixMessages hR (q := q) hq) rfl rfl (Nat.le_of_ble_eq_true rfl) (hR.1 _ _ _ (by unfold yV; omega)) ⟨_, _, rfl⟩ (fun h hR => ?_)
  refine mJ_iconst (v := nI 0) hK dX6_digest_63 (by decide) ?_
  refine mJ_istore_n hK dX6_digest_64 (by decide) rfl ?_
  refine lp_X6_digest_c hK (F := tS F (nI 0)) ?_ 9 0 _ (by omega) (by omega) hR
  intro h hR
  refine mJ_aload_n hK dX6_digest_98 rfl ?_
  refine mJ_cVv hK dX6_digest_99 lX6_304 (by unfold mFit; decide) (by decide) (k_X6_mixTickets hR (g := g) hg hgb) rfl rfl (Nat.le_of_ble_eq_true rfl) (hR.1 _ _ _ (by unfold yV; omega)) ⟨_, _, rfl⟩ (fun h hR => ?_)
  refine mJ_aload_n hK dX6_digest_102 rfl ?_
  refine mJ_aload_n hK dX6_digest_103 rfl ?_
  refine xJ_geti hR hK dX6_digest_104 fX6_204 (by unfold yV; omega) (fun _ _ => rfl) (by decide) rfl ?_
  refine mJ_i2l hK dX6_digest_107 ?_
  refine mJ_cVv hK dX6_digest_108 lX6_295 (by unfold mFit; decide) (by decide) (k_X6_mix hR _) rfl rfl (Nat.le_of_ble_eq_true rfl) (hR.1 _ _ _ (by unfold yV; omega)) ⟨_, _, rfl⟩ (fun h hR => ?_)
  refine mJ_aload_n hK dX6_digest_111 rfl ?_
  refine mJ_aload_n hK dX6_digest_112 rfl ?_
  refine xJ_getx (nI po) hR hK dX6_digest_113 fX6_201 (by unfold yV; omega) (fun _ _ => rfl) (by decide) rfl (hpo) ?_
  refine mJ_i2l hK dX6_digest_116 ?_
  refine mJ_cVv hK dX6_digest_117 lX6_295 (by unfold mFit; decide) (by decide) (k_X6_mix hR _) rfl rfl (Nat.le_of_ble_eq_true rfl) (hR.1 _ _ _ (by unfold yV; omega)) ⟨_, _, rfl⟩ (fun h hR => ?_)
  refine mJ_aload_n hK dX6_digest_120 rfl ?_
  refine mJ_aload_n hK dX6_digest_121 rfl ?_
  refine mJ_cVi hK dX6_digest_122 lX6_220 (by unfold mFit; decide) (by decide) (k_X6_readyNow hR (rn := rn) hrn hrn8 (q := q) hq) rfl rfl (Nat.le_of_ble_eq_true rfl) (hR.1 _ _ _ (by unfold yV; omega)) ⟨_, _, rfl⟩ (fun h e9 => ?_)
  subst e9
  refine mJ_i2l hK dX6_digest_125 ?_
  refine mJ_cVv hK dX6_digest_126 lX6_295 (by unfold mFit; decide) (by decide) (k_X6_mix hR _) rfl rfl (Nat.le_of_ble_eq_true rfl) (hR.1 _ _ _ (by unfold yV; omega)) ⟨_, _, rfl⟩ (fun h hR => ?_)
  refine mJ_aload_n hK dX6_digest_129 rfl ?_
  refine mJ_aload_n hK dX6_digest_130 rfl ?_
  refine mJ_cVi hK dX6_digest_131 lX6_242 (by unfold mFit; decide) (by decide) (k_X6_enabledNow hR (rn := rn) hrn hrn8 (q := q) hq (om := om) (mt := mt) (ga := ga) (gb := gb) hM) rfl rfl (Nat.le_of_ble_eq_true rfl) (hR.1 _ _ _ (by unfold yV; omega)) ⟨_, _, rfl⟩ (fun h hE => ?_)
  obtain ⟨ch1, hR⟩ := hE
  refine mJ_i2l hK dX6_digest_134 ?_
  refine mJ_cVv hK dX6_digest_135 lX6_295 (by unfold mFit; decide) (by decide) (k_X6_mix hR _) rfl rfl (Nat.le_of_ble_eq_true rfl) (hR.1 _ _ _ (by unfold yV; omega)) ⟨_, _, rfl⟩ (fun h hR => ?_)
  refine mJ_aload_n hK dX6_digest_138 rfl ?_
  refine mJ_aload_n hK dX6_digest_139 rfl ?_
  refine mJ_cVi hK dX6_digest_140 lX6_245 (by unfold mFit; decide) (by decide) (k_X6_nextNow hR (rn := rn) hrn hrn8 (q := q) hq (om := om) (mt := mt) (ga := ga) (gb := gb) hM (po := po) hpo hpo2 (st := st) hst hst8 hs0) rfl rfl (Nat.le_of_ble_eq_true rfl) (hR.1 _ _ _ (by unfold yV; omega)) ⟨_, _, rfl⟩ (fun h hE => ?_)
  obtain ⟨ch2, hR⟩ := hE
  rw [fr_fr] at hR
  refine mJ_i2l hK dX6_digest_143 ?_
  refine mJ_cVv hK dX6_digest_144 lX6_295 (by unfold mFit; decide) (by decide) (k_X6_mix hR _) rfl rfl (Nat.le_of_ble_eq_true rfl) (hR.1 _ _ _ (by unfold yV; omega)) ⟨_, _, rfl⟩ (fun h hR => ?_)
  refine mJ_aload_n hK dX6_digest_147 rfl ?_
  refine mJ_aload_n hK dX6_digest_148 rfl ?_
  refine xJ_getx (nI 1) hR hK dX6_digest_149 fX6_191 (by unfold yV; omega) (fun _ _ => rfl) (by decide) rfl (hsv) ?_
  refine mJ_nif_eq (tgt := 159) hK dX6_digest_152 (by decide) (by omega) (fun c_152 => ?_) (fun c_152 => ?_)
  · exact absurd c_152 (by omega)
  · refine mJ_lconst (v := 1) hK dX6_digest_155 (by decide) ?_
    refine mJ_goto (tgt := 160) hK dX6_digest_156 (by decide) ?_
    refine mJ_cVv hK dX6_digest_160 lX6_295 (by unfold mFit; decide) (by decide) (k_X6_mix hR _) rfl rfl (Nat.le_of_ble_eq_true rfl) (hR.1 _ _ _ (by unfold yV; omega)) ⟨_, _, rfl⟩ (fun h hR => ?_)
    refine mJ_aload_n hK dX6_digest_163 rfl ?_
    refine mJ_aload_n hK dX6_digest_164 rfl ?_
    refine xJ_getx (nI bl) hR hK dX6_digest_165 fX6_124 (by unfold yV; omega) (fun _ _ => rfl) (by decide) rfl (hbl) ?_
    refine mJ_i2l hK dX6_digest_168 ?_
    refine mJ_cVv hK dX6_digest_169 lX6_295 (by unfold mFit; decide) (by decide) (k_X6_mix hR _) rfl rfl (Nat.le_of_ble_eq_true rfl) (hR.1 _ _ _ (by unfold yV; omega)) ⟨_, _, rfl⟩ (fun h hR => ?_)
    refine mJ_iconst (v := nI 0) hK dX6_digest_172 (by decide) ?_
    refine mJ_istore_n hK dX6_digest_173 (by decide) rfl ?_
    refine lp_X6_digest_b hK (F := fr (tS F (nI 0)) 66 0 0 ch2) (bl := bl) hbl hbl40 ?_ (bl + 1) 0 _ (by omega) (by omega) hR
    intro h hR
    refine mJ_aload_n hK dX6_digest_199 rfl ?_
    refine xJ_getl hR hK dX6_digest_200 fX6_291 (by unfold yV; omega) (fun _ _ => rfl) (by decide) (fun _ _ => rfl) ?_
    refine mJ_lret hK dX6_digest_203 rfl hZ (by decide) (by decide) ?_
    exact ⟨rfl, ch2, _, hR⟩
