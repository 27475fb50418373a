/-- a channel's message taken: the class's rows behind it -/
def tkS (cn q : Nat → Nat) (g r c : Nat) (z : xFm × xWm) : xFm × xWm :=
  if usP (z.1 17 r 0 0) (nI c) then
    (if usP (z.1 17 r 0 4) (nI c) then xTk (fr (fr z.1 5 0 0 (upd (z.1 5 0 0) c (z.1 14 0 c (cn c)))) 6 0 0 (upd (z.1 6 0 0) c (z.1 16 0 c (cn c)))) 0 c (cn c) (q c - 1) (q c)
     else xSt (xTk (fr (fr z.1 5 0 0 (upd (z.1 5 0 0) c (z.1 14 0 c (cn c)))) 6 0 0 (upd (z.1 6 0 0) c (z.1 16 0 c (cn c)))) 0 c (cn c) (q c - 1) (q c)) 0 g (z.1 16 0 c (cn c)) (nI 2) (nI 0),
     fr z.2 13 0 c (vp_updL (z.2 13 0 c) 0 (z.2 13 0 c 0 + (z.1 7 0 0 3 - z.1 15 0 c (cn c)).toInt64)))
  else z
def tkN (cn q : Nat → Nat) (g r : Nat) (z : xFm × xWm) : Nat → xFm × xWm
  | 0 => z
  | c + 1 => tkS cn q g r c (tkN cn q g r z c)
theorem xSt_o {F : xFm} {s g : Nat} {x a b : Int32} {k i j : Nat} (h1 : k ≠ 10) (h2 : k ≠ 11) : xSt F s g x a b k i j = F k i j := by
  unfold xSt
  split
  · rw [fr_k h2, fr_k h1]
  · rfl
theorem xTk_o {F : xFm} {s c b e n : Nat} {k i j : Nat} (h : ¬ (13 ≤ k ∧ k ≤ 16 ∧ i = s ∧ j = c)) : xTk F s c b e n k i j = F k i j := by
  unfold xTk
  rw [fr_n (by omega), fr_n (by omega), fr_n (by omega), fr_n (by omega)]
theorem tkS_fix {cn q : Nat → Nat} {g r c : Nat} {z : xFm × xWm} {k i j : Nat} (h5 : k ≠ 5) (h6 : k ≠ 6) (h10 : k ≠ 10) (h11 : k ≠ 11) (h : ¬ (13 ≤ k ∧ k ≤ 16 ∧ i = 0 ∧ j = c)) : (tkS cn q g r c z).1 k i j = z.1 k i j ∧ (tkS cn q g r c z).2 k i j = z.2 k i j := by
  unfold tkS
  split
  · refine ⟨?_, fr_n (by omega)⟩
    split
    · dsimp only; rw [xTk_o h, fr_k h6, fr_k h5]
    · dsimp only; rw [xSt_o h10 h11, xTk_o h, fr_k h6, fr_k h5]
  · exact ⟨rfl, rfl⟩
theorem tkN_fix {cn q : Nat → Nat} {g r : Nat} {z : xFm × xWm} {k i j : Nat} (h5 : k ≠ 5) (h6 : k ≠ 6) (h10 : k ≠ 10) (h11 : k ≠ 11) : ∀ e, ¬ (13 ≤ k ∧ k ≤ 16 ∧ i = 0 ∧ j < e) → (tkN cn q g r z e).1 k i j = z.1 k i j ∧ (tkN cn q g r z e).2 k i j = z.2 k i j
  | 0, _ => ⟨rfl, rfl⟩
  | e + 1, h => by
    have h1 := tkS_fix (cn := cn) (q := q) (g := g) (r := r) (c := e) (z := tkN cn q g r z e) (i := i) (j := j) h5 h6 h10 h11 (by omega)
    have h2 := tkN_fix (cn := cn) (q := q) (g := g) (r := r) (z := z) (i := i) (j := j) h5 h6 h10 h11 e (by omega)
    exact ⟨h1.1.trans h2.1, h1.2.trans h2.2⟩
set_option maxRecDepth 100000 in
set_option maxHeartbeats 4000000 in
theorem lp_X5_takeMessages {K : mK} (hK : mCx K mX5_takeMessages) {ad : xAd} {h0 : mH} {F : xFm} {W : xWm} {pm : Nat → Nat} {r : Nat} (hr : r < 9) {q : Nat → Nat} (hq : ∀ c, c < 8 → F 13 0 c 3 = nI (q c) ∧ q c ≤ 8) {cn : Nat → Nat} (hch : ∀ c, c < 8 → F 4 0 0 c = nI (cn c)) (hcn : ∀ c, c < 8 → usP (F 17 r 0 0) (nI c) → cn c < q c) {g : Nat} (hg : F 9 0 0 2 = nI g) (hgb : g < 1000000) (hZ : mRt K mX5_takeMessages (mRv (fun h' => xR xV ad h0 (tkN cn q g r (F, W) 8).1 (tkN cn q g r (F, W) 8).2 pm h'))) : ∀ (fu : Nat) (e : Nat) (G : xFm) (V : xWm) (u : Option Value) (h : mH), 8 - e < fu → (e ≤ 8) → (tkN cn q g r (F, W) e = (G, V)) → (xR xV ad h0 G V pm h) → mJ K 0 0 2 [some (.ref (ad 0 0 0)), some (.ref (ad 17 r 0)), some (.int (nI e)), u] [] h := by
  intro fu
  induction fu with
  | zero =>
    intro e G V u h hm0
    exact absurd hm0 (by omega)
  | succ fu ih =>
    intro e G V u h hm0 he hT hR
    have hx : ∀ k i j, k ≠ 5 → k ≠ 6 → k ≠ 10 → k ≠ 11 → ¬ (13 ≤ k ∧ k ≤ 16 ∧ i = 0 ∧ j < e) → G k i j = F k i j := fun k i j a b c d z => by have := (tkN_fix (cn := cn) (q := q) (g := g) (r := r) (z := (F, W)) (i := i) (j := j) a b c d e z).1; rw [hT] at this; exact this
    have gG : G 9 0 0 2 = nI g := (congrFun (hx 9 0 0 (by omega) (by omega) (by omega) (by omega) (by omega)) 2).trans hg
    have rG : G 17 r 0 = F 17 r 0 := hx 17 r 0 (by omega) (by omega) (by omega) (by omega) (by omega)
    have qG : G 13 0 e = F 13 0 e := hx 13 0 e (by omega) (by omega) (by omega) (by omega) (by omega)
    have cG : G 4 0 0 = F 4 0 0 := hx 4 0 0 (by omega) (by omega) (by omega) (by omega) (by omega)
    refine mJ_iload_n hK dX5_takeMessages_2 rfl ?_
    refine mJ_bipush (v := nI 8) hK dX5_takeMessages_3 (by decide) ?_
    refine mJ_nge (tgt := 107) hK dX5_takeMessages_5 (by decide) (by omega) (by omega) (fun c_5 => ?_) (fun c_5 => ?_)
    · refine mJ_vret hK dX5_takeMessages_107 rfl hZ (by decide) (by decide) ?_
      have : e = 8 := by omega
      subst this
      exact ⟨rfl, by rw [hT]; exact hR⟩
    · refine mJ_aload_n hK dX5_takeMessages_8 rfl ?_
      refine mJ_iload_n hK dX5_takeMessages_9 rfl ?_
      refine mJ_cVi hK dX5_takeMessages_10 lX5_164 (by unfold mFit; decide) (by decide) (k_X1_uses hR hr _) rfl rfl (Nat.le_of_ble_eq_true rfl) (hR.1 _ _ _ (by unfold xV; omega)) ⟨_, _, rfl⟩ (fun h e9 => ?_)
      subst e9
      refine mJ_ifb_eq (tgt := 101) hK dX5_takeMessages_13 (by decide) (fun c_13 => ?_) (fun c_13 => ?_)
      · refine mJ_iincN hK dX5_takeMessages_101 rfl rfl (by decide) rfl ?_
        refine mJ_goto (tgt := 2) hK dX5_takeMessages_104 (by decide) ?_
        refine ih (e + 1) _ _ u _ (by omega) (by omega) ?_ hR
        show tkS cn q g r e (tkN cn q g r (F, W) e) = _
        rw [hT]
        unfold tkS
        rw [if_neg c_13]
      · have hn : G 13 0 e 3 = nI (q e) := by rw [qG]; exact (hq e (by omega)).1
        have hn8 := (hq e (by omega)).2
        have hi := hcn e (by omega) (by rw [← rG]; exact c_13)
        have hce : G 4 0 0 e = nI (cn e) := by rw [cG]; exact hch e (by omega)
        refine mJ_aload_n hK dX5_takeMessages_16 rfl ?_
        refine xJ_getr hR hK dX5_takeMessages_17 fX5_29 (by unfold xV; omega) (fun _ _ => rfl) (by decide) (fun _ _ => rfl) ?_
        refine xJ_getr hR hK dX5_takeMessages_20 fX5_108 (by unfold xV; omega) (fun _ _ => rfl) (by decide) (fun _ _ => rfl) ?_
        refine mJ_iload_n hK dX5_takeMessages_23 rfl ?_
        refine xJ_aldC e hR hK dX5_takeMessages_24 (by unfold xV; omega) rfl (by omega) ?_
        refine mJ_astore_n hK dX5_takeMessages_25 (by decide) rfl ?_
        refine mJ_aload_n hK dX5_takeMessages_26 rfl ?_
        refine xJ_getr hR hK dX5_takeMessages_27 fX5_39 (by unfold xV; omega) (fun _ _ => rfl) (by decide) (fun _ _ => rfl) ?_
        refine mJ_iload_n hK dX5_takeMessages_30 rfl ?_
        refine mJ_aload_n hK dX5_takeMessages_31 rfl ?_
        refine mJ_aload_n hK dX5_takeMessages_32 rfl ?_
        refine xJ_getr hR hK dX5_takeMessages_33 fX5_36 (by unfold xV; omega) (fun _ _ => rfl) (by decide) (fun _ _ => rfl) ?_
        refine mJ_iload_n hK dX5_takeMessages_36 rfl ?_
        refine xJ_ialdx e (nI (cn e)) hR hK dX5_takeMessages_37 (by unfold xV; omega) (fun _ _ => rfl) rfl (by omega) (by decide) (by first | exact hce | (simp [fr, upd]; exact hce)) ?_
        refine mJ_cVi hK dX5_takeMessages_38 lX5_147 (by unfold mFit; decide) (by decide) (k_X0_valueAt hR (by omega) (by omega) hn hn8 hi) rfl rfl (Nat.le_of_ble_eq_true rfl) (hR.1 _ _ _ (by unfold xV; omega)) ⟨_, _, rfl⟩ (fun h e9 => ?_)
        subst e9
        refine xJ_iast e hR hK dX5_takeMessages_41 (by unfold xV; omega) (fun _ _ => rfl) rfl (by omega) (by decide) (fun h hR => ?_)
        refine mJ_aload_n hK dX5_takeMessages_42 rfl ?_
        refine xJ_getr hR hK dX5_takeMessages_43 fX5_42 (by unfold xV; omega) (fun _ _ => rfl) (by decide) (fun _ _ => rfl) ?_
        refine mJ_iload_n hK dX5_takeMessages_46 rfl ?_
        refine mJ_aload_n hK dX5_takeMessages_47 rfl ?_
        refine mJ_aload_n hK dX5_takeMessages_48 rfl ?_
        refine xJ_getr hR hK dX5_takeMessages_49 fX5_36 (by unfold xV; omega) (fun _ _ => rfl) (by decide) (fun _ _ => rfl) ?_
        refine mJ_iload_n hK dX5_takeMessages_52 rfl ?_
        refine xJ_ialdx e (nI (cn e)) hR hK dX5_takeMessages_53 (by unfold xV; omega) (fun _ _ => rfl) rfl (by omega) (by decide) (by first | exact hce | (simp [fr, upd]; exact hce)) ?_
        refine mJ_cVi hK dX5_takeMessages_54 lX5_296 (by unfold mFit; decide) (by decide) (k_X0_ticketAt hR (by omega) (by omega) hn hn8 hi) rfl rfl (Nat.le_of_ble_eq_true rfl) (hR.1 _ _ _ (by unfold xV; omega)) ⟨_, _, rfl⟩ (fun h e9 => ?_)
        subst e9
        refine xJ_iast e hR hK dX5_takeMessages_57 (by unfold xV; omega) (fun _ _ => rfl) rfl (by omega) (by decide) (fun h hR => ?_)
        refine mJ_aload_n hK dX5_takeMessages_58 rfl ?_
        refine mJ_aload_n hK dX5_takeMessages_59 rfl ?_
        refine xJ_getr hR hK dX5_takeMessages_60 fX5_36 (by unfold xV; omega) (fun _ _ => rfl) (by decide) (fun _ _ => rfl) ?_
        refine mJ_iload_n hK dX5_takeMessages_63 rfl ?_
        refine xJ_ialdx e (nI (cn e)) hR hK dX5_takeMessages_64 (by unfold xV; omega) (fun _ _ => rfl) rfl (by omega) (by decide) (by first | exact hce | (simp [fr, upd]; exact hce)) ?_
        refine mJ_aload_n hK dX5_takeMessages_65 rfl ?_
        refine xJ_getr hR hK dX5_takeMessages_66 fX5_29 (by unfold xV; omega) (fun _ _ => rfl) (by decide) (fun _ _ => rfl) ?_
        refine xJ_geti hR hK dX5_takeMessages_69 fX5_119 (by unfold xV; omega) (fun _ _ => rfl) (by decide) rfl ?_
        refine mJ_cVv hK dX5_takeMessages_72 lX5_299 (by unfold mFit; decide) (by decide) (k_X0_take hR (by omega) (by omega) hn hn8 hi _) rfl rfl (Nat.le_of_ble_eq_true rfl) (hR.1 _ _ _ (by unfold xV; omega)) ⟨_, _, rfl⟩ (fun h hR => ?_)
        refine mJ_aload_n hK dX5_takeMessages_75 rfl ?_
        refine mJ_iload_n hK dX5_takeMessages_76 rfl ?_
        refine mJ_cVi hK dX5_takeMessages_77 lX5_302 (by unfold mFit; decide) (by decide) (k_X1_repliesTo hR hr _) rfl rfl (Nat.le_of_ble_eq_true rfl) (hR.1 _ _ _ (by unfold xV; omega)) ⟨_, _, rfl⟩ (fun h e9 => ?_)
        subst e9
        refine mJ_ifb_ne (tgt := 101) hK dX5_takeMessages_80 (by decide) (fun c_80 => ?_) (fun c_80 => ?_)
        · refine mJ_iincN hK dX5_takeMessages_101 rfl rfl (by decide) rfl ?_
          refine mJ_goto (tgt := 2) hK dX5_takeMessages_104 (by decide) ?_
          refine ih (e + 1) _ _ (some (.ref (ad 13 0 e))) _ (by omega) (by omega) ?_ hR
          show tkS cn q g r e (tkN cn q g r (F, W) e) = _
          rw [hT]
          unfold tkS
          rw [if_pos c_13]
          first | (rw [if_pos (show usP (G 17 r 0 4) (nI e) from c_80)]; rfl) | (rw [if_neg (show ¬ usP (G 17 r 0 4) (nI e) from c_80)]; rfl)
        · refine mJ_aload_n hK dX5_takeMessages_83 rfl ?_
          refine xJ_getr hR hK dX5_takeMessages_84 fX5_29 (by unfold xV; omega) (fun _ _ => rfl) (by decide) (fun _ _ => rfl) ?_
          refine xJ_getr hR hK dX5_takeMessages_87 fX5_122 (by unfold xV; omega) (fun _ _ => rfl) (by decide) (fun _ _ => rfl) ?_
          refine mJ_aload_n hK dX5_takeMessages_90 rfl ?_
          refine xJ_getr hR hK dX5_takeMessages_91 fX5_42 (by unfold xV; omega) (fun _ _ => rfl) (by decide) (fun _ _ => rfl) ?_
          refine mJ_iload_n hK dX5_takeMessages_94 rfl ?_
          refine xJ_ialdx e (G 16 0 e (cn e)) hR hK dX5_takeMessages_95 (by unfold xV; omega) (fun _ _ => rfl) rfl (by omega) (by decide) (by simp [xTk, fr, upd]) ?_
          refine mJ_iconst (v := nI 2) hK dX5_takeMessages_96 (by decide) ?_
          refine mJ_iconst (v := nI 0) hK dX5_takeMessages_97 (by decide) ?_
          refine mJ_cVv hK dX5_takeMessages_98 lX5_305 (by unfold mFit; decide) (by decide) (k_X4_settle hR (by omega) gG hgb _ _ _) rfl rfl (Nat.le_of_ble_eq_true rfl) (hR.1 _ _ _ (by unfold xV; omega)) ⟨_, _, rfl⟩ (fun h hR => ?_)
          refine mJ_iincN hK dX5_takeMessages_101 rfl rfl (by decide) rfl ?_
          refine mJ_goto (tgt := 2) hK dX5_takeMessages_104 (by decide) ?_
          refine ih (e + 1) _ _ (some (.ref (ad 13 0 e))) _ (by omega) (by omega) ?_ hR
          show tkS cn q g r e (tkN cn q g r (F, W) e) = _
          rw [hT]
          unfold tkS
          rw [if_pos c_13]
          first | (rw [if_pos (show usP (G 17 r 0 4) (nI e) from c_80)]; rfl) | (rw [if_neg (show ¬ usP (G 17 r 0 4) (nI e) from c_80)]; rfl)

set_option maxRecDepth 100000 in
set_option maxHeartbeats 4000000 in
theorem k_X5_takeMessages {l : Launch} {D : va_G} {aC : Nat → ClassId} {ad : xAd} {h0 h : mH} {F : xFm} {W : xWm} {pm : Nat → Nat} (hR : xR xV ad h0 F W pm h) {r : Nat} (hr : r < 9) {q : Nat → Nat} (hq : ∀ c, c < 8 → F 13 0 c 3 = nI (q c) ∧ q c ≤ 8) {cn : Nat → Nat} (hch : ∀ c, c < 8 → F 4 0 0 c = nI (cn c)) (hcn : ∀ c, c < 8 → usP (F 17 r 0 0) (nI c) → cn c < q c) {g : Nat} (hg : F 9 0 0 2 = nI g) (hgb : g < 1000000) : mCon l D aC mX5_takeMessages [.ref (ad 0 0 0), .ref (ad 17 r 0)] h (mRv (fun h' => xR xV ad h0 (tkN cn q g r (F, W) 8).1 (tkN cn q g r (F, W) 8).2 pm h')) := by
  refine mCon.of [some (.ref (ad 0 0 0)), some (.ref (ad 17 r 0)), none, none] (by decide +kernel) rfl (Nat.le_of_ble_eq_true rfl) ?_
  intro K el eD eC hK hZ
  subst el eD eC
  refine mJ_iconst (v := nI 0) hK dX5_takeMessages_0 (by decide) ?_
  refine mJ_istore_n hK dX5_takeMessages_1 (by decide) rfl ?_
  exact lp_X5_takeMessages hK hr hq hch hcn hg hgb hZ 9 0 _ _ none _ (by omega) (by omega) rfl hR

set_option maxRecDepth 100000 in
set_option maxHeartbeats 4000000 in
theorem k_X5_carryOut_r {l : Launch} {D : va_G} {aC : Nat → ClassId} {ad : xAd} {h0 h : mH} {F : xFm} {W : xWm} {pm : Nat → Nat} (hR : xR xV ad h0 F W pm h) {r : Nat} (hr : r < 9) {o t : Nat} (ho : o < 4) (ht : F 18 r 0 o = nI t) (ht8 : t < 8) {k : Nat} (hk : F 20 r 0 o = nI k) (hk3 : k ≤ 3) {on : Nat → Nat} (hon : ∀ i, i < k → F 22 r 0 (o * 3 + i) = nI (on (o * 3 + i)) ∧ on (o * 3 + i) < 18) {g : Nat} (hg : F 9 0 0 2 = nI g) (hgb : g < 1000000) (hp : ¬ F 19 r 0 o = 0) : mCon l D aC mX5_carryOut [.ref (ad 0 0 0), .ref (ad 17 r 0), .int (nI o)] h (mRv (fun h' => xR xV ad h0 (xSt F 0 g (F 6 0 0 t) (nI 1) (ovC (ovL (F 21 r 0) on (F 5 0 0) (o * 3) k))) W pm h')) := by
  refine mCon.of [some (.ref (ad 0 0 0)), some (.ref (ad 17 r 0)), some (.int (nI o)), none, none] (by decide +kernel) rfl (Nat.le_of_ble_eq_true rfl) ?_
  intro K el eD eC hK hZ
  subst el eD eC
  refine mJ_aload_n hK dX5_carryOut_0 rfl ?_
  refine xJ_getr hR hK dX5_carryOut_1 fX5_308 (by unfold xV; omega) (fun _ _ => rfl) (by decide) (fun _ _ => rfl) ?_
  refine mJ_iload_n hK dX5_carryOut_4 rfl ?_
  refine xJ_ialdx o (nI t) hR hK dX5_carryOut_5 (by unfold xV; omega) (fun _ _ => rfl) rfl (by omega) (by decide) (ht) ?_
  refine mJ_istore_n hK dX5_carryOut_6 (by decide) rfl ?_
  refine mJ_iload_n hK dX5_carryOut_7 rfl ?_
  refine mJ_cSi hK dX5_carryOut_8 lX5_161 (by unfold mFit; decide) (by decide) (k_X5_isChannelN (by omega)) rfl rfl (Nat.le_of_ble_eq_true rfl) (fun h e9 => ?_)
  subst e9
  refine mJ_ifb_ne (tgt := 15) hK dX5_carryOut_11 (by decide) (fun c_11 => ?_) (fun c_11 => ?_)
  · refine mJ_aload_n hK dX5_carryOut_15 rfl ?_
    refine mJ_iload_n hK dX5_carryOut_16 rfl ?_
    refine mJ_aload_n hK dX5_carryOut_17 rfl ?_
    refine xJ_getr hR hK dX5_carryOut_18 fX5_39 (by unfold xV; omega) (fun _ _ => rfl) (by decide) (fun _ _ => rfl) ?_
    refine mJ_cVi hK dX5_carryOut_21 lX5_311 (by unfold mFit; decide) (by decide) (k_X1_outputValue hR hr ho hk hk3 hon) rfl rfl (Nat.le_of_ble_eq_true rfl) (hR.1 _ _ _ (by unfold xV; omega)) ⟨_, _, rfl⟩ (fun h e9 => ?_)
    subst e9
    refine mJ_istore hK dX5_carryOut_24 (by decide) rfl ?_
    refine mJ_aload_n hK dX5_carryOut_26 rfl ?_
    refine xJ_getr hR hK dX5_carryOut_27 fX5_315 (by unfold xV; omega) (fun _ _ => rfl) (by decide) (fun _ _ => rfl) ?_
    refine mJ_iload_n hK dX5_carryOut_30 rfl ?_
    refine xJ_zald o hR hK dX5_carryOut_31 (by unfold xV; omega) (fun _ _ => rfl) rfl (by omega) (by decide) ?_
    refine mJ_if_eq (tgt := 57) hK dX5_carryOut_32 (by decide) (fun c_32 => ?_) (fun c_32 => ?_)
    · exact absurd c_32 hp
    · refine mJ_aload_n hK dX5_carryOut_35 rfl ?_
      refine xJ_getr hR hK dX5_carryOut_36 fX5_29 (by unfold xV; omega) (fun _ _ => rfl) (by decide) (fun _ _ => rfl) ?_
      refine xJ_getr hR hK dX5_carryOut_39 fX5_122 (by unfold xV; omega) (fun _ _ => rfl) (by decide) (fun _ _ => rfl) ?_
      refine mJ_aload_n hK dX5_carryOut_42 rfl ?_
      refine xJ_getr hR hK dX5_carryOut_43 fX5_42 (by unfold xV; omega) (fun _ _ => rfl) (by decide) (fun _ _ => rfl) ?_
      refine mJ_iload_n hK dX5_carryOut_46 rfl ?_
      refine xJ_iald t hR hK dX5_carryOut_47 (by unfold xV; omega) (fun _ _ => rfl) rfl (by omega) (by decide) ?_
      refine mJ_iconst (v := nI 1) hK dX5_carryOut_48 (by decide) ?_
      refine mJ_iload hK dX5_carryOut_49 rfl ?_
      refine mJ_cVv hK dX5_carryOut_51 lX5_305 (by unfold mFit; decide) (by decide) (k_X4_settle hR (by omega) hg hgb _ _ _) rfl rfl (Nat.le_of_ble_eq_true rfl) (hR.1 _ _ _ (by unfold xV; omega)) ⟨_, _, rfl⟩ (fun h hR => ?_)
      refine mJ_goto (tgt := 79) hK dX5_carryOut_54 (by decide) ?_
      refine mJ_vret hK dX5_carryOut_79 rfl hZ (by decide) (by decide) ?_
      exact ⟨rfl, hR⟩
  · exact absurd c_11 (by omega)

set_option maxRecDepth 100000 in
set_option maxHeartbeats 4000000 in
theorem k_X5_carryOut_p {l : Launch} {D : va_G} {aC : Nat → ClassId} {ad : xAd} {h0 h : mH} {F : xFm} {W : xWm} {pm : Nat → Nat} (hR : xR xV ad h0 F W pm h) {r : Nat} (hr : r < 9) {o t : Nat} (ho : o < 4) (ht : F 18 r 0 o = nI t) (ht8 : t < 8) {k : Nat} (hk : F 20 r 0 o = nI k) (hk3 : k ≤ 3) {on : Nat → Nat} (hon : ∀ i, i < k → F 22 r 0 (o * 3 + i) = nI (on (o * 3 + i)) ∧ on (o * 3 + i) < 18) {n : Nat} (hn : F 13 0 t 3 = nI n) (hn8 : n < 8) (hp : F 19 r 0 o = 0) : mCon l D aC mX5_carryOut [.ref (ad 0 0 0), .ref (ad 17 r 0), .int (nI o)] h (mRv (fun h' => xR xV ad h0 (xPut F 0 t n (ovC (ovL (F 21 r 0) on (F 5 0 0) (o * 3) k)) (F 7 0 0 3) (-1)) W pm h')) := by
  refine mCon.of [some (.ref (ad 0 0 0)), some (.ref (ad 17 r 0)), some (.int (nI o)), none, none] (by decide +kernel) rfl (Nat.le_of_ble_eq_true rfl) ?_
  intro K el eD eC hK hZ
  subst el eD eC
  refine mJ_aload_n hK dX5_carryOut_0 rfl ?_
  refine xJ_getr hR hK dX5_carryOut_1 fX5_308 (by unfold xV; omega) (fun _ _ => rfl) (by decide) (fun _ _ => rfl) ?_
  refine mJ_iload_n hK dX5_carryOut_4 rfl ?_
  refine xJ_ialdx o (nI t) hR hK dX5_carryOut_5 (by unfold xV; omega) (fun _ _ => rfl) rfl (by omega) (by decide) (ht) ?_
  refine mJ_istore_n hK dX5_carryOut_6 (by decide) rfl ?_
  refine mJ_iload_n hK dX5_carryOut_7 rfl ?_
  refine mJ_cSi hK dX5_carryOut_8 lX5_161 (by unfold mFit; decide) (by decide) (k_X5_isChannelN (by omega)) rfl rfl (Nat.le_of_ble_eq_true rfl) (fun h e9 => ?_)
  subst e9
  refine mJ_ifb_ne (tgt := 15) hK dX5_carryOut_11 (by decide) (fun c_11 => ?_) (fun c_11 => ?_)
  · refine mJ_aload_n hK dX5_carryOut_15 rfl ?_
    refine mJ_iload_n hK dX5_carryOut_16 rfl ?_
    refine mJ_aload_n hK dX5_carryOut_17 rfl ?_
    refine xJ_getr hR hK dX5_carryOut_18 fX5_39 (by unfold xV; omega) (fun _ _ => rfl) (by decide) (fun _ _ => rfl) ?_
    refine mJ_cVi hK dX5_carryOut_21 lX5_311 (by unfold mFit; decide) (by decide) (k_X1_outputValue hR hr ho hk hk3 hon) rfl rfl (Nat.le_of_ble_eq_true rfl) (hR.1 _ _ _ (by unfold xV; omega)) ⟨_, _, rfl⟩ (fun h e9 => ?_)
    subst e9
    refine mJ_istore hK dX5_carryOut_24 (by decide) rfl ?_
    refine mJ_aload_n hK dX5_carryOut_26 rfl ?_
    refine xJ_getr hR hK dX5_carryOut_27 fX5_315 (by unfold xV; omega) (fun _ _ => rfl) (by decide) (fun _ _ => rfl) ?_
    refine mJ_iload_n hK dX5_carryOut_30 rfl ?_
    refine xJ_zald o hR hK dX5_carryOut_31 (by unfold xV; omega) (fun _ _ => rfl) rfl (by omega) (by decide) ?_
    refine mJ_if_eq (tgt := 57) hK dX5_carryOut_32 (by decide) (fun c_32 => ?_) (fun c_32 => ?_)
    · refine mJ_aload_n hK dX5_carryOut_57 rfl ?_
      refine xJ_getr hR hK dX5_carryOut_58 fX5_29 (by unfold xV; omega) (fun _ _ => rfl) (by decide) (fun _ _ => rfl) ?_
      refine xJ_getr hR hK dX5_carryOut_61 fX5_108 (by unfold xV; omega) (fun _ _ => rfl) (by decide) (fun _ _ => rfl) ?_
      refine mJ_iload_n hK dX5_carryOut_64 rfl ?_
      refine xJ_aldC t hR hK dX5_carryOut_65 (by unfold xV; omega) rfl (by omega) ?_
      refine mJ_iload hK dX5_carryOut_66 rfl ?_
      refine mJ_aload_n hK dX5_carryOut_68 rfl ?_
      refine xJ_getr hR hK dX5_carryOut_69 fX5_29 (by unfold xV; omega) (fun _ _ => rfl) (by decide) (fun _ _ => rfl) ?_
      refine xJ_geti hR hK dX5_carryOut_72 fX5_119 (by unfold xV; omega) (fun _ _ => rfl) (by decide) rfl ?_
      refine mJ_iconst (v := -1) hK dX5_carryOut_75 (by decide) ?_
      refine mJ_cVv hK dX5_carryOut_76 lX5_131 (by unfold mFit; decide) (by decide) (k_X0_put hR (by omega) ht8 hn hn8 _ _ _) rfl rfl (Nat.le_of_ble_eq_true rfl) (hR.1 _ _ _ (by unfold xV; omega)) ⟨_, _, rfl⟩ (fun h hR => ?_)
      refine mJ_vret hK dX5_carryOut_79 rfl hZ (by decide) (by decide) ?_
      exact ⟨rfl, hR⟩
    · exact absurd hp c_32
  · exact absurd c_11 (by omega)
