def dgA (F : xFm) (q : Nat → Nat) (x : Int64) : Nat → Int64
  | 0 => x
  | c + 1 => qmx (F 14 0 c) (F 15 0 c) (F 16 0 c) (31 * dgA F q x c + (nI (q c)).toInt64) (q c)
def dgB (F : xFm) (W : xWm) (x : Int64) : Nat → Int64
  | 0 => x
  | c + 1 => 31 * (31 * dgB F W x c + (F 13 0 c 4).toInt64) + W 13 0 c 0
set_option maxRecDepth 100000 in
set_option maxHeartbeats 4000000 in
theorem lp_X5_digest1 {K : mK} (hK : mCx K mX5_digest) {ad : xAd} {h0 : mH} {F : xFm} {W : xWm} {pm : Nat → Nat} {q : Nat → Nat} (hq : ∀ c, c < 8 → F 13 0 c 3 = nI (q c) ∧ q c ≤ 8) {h : mH} (hR : xR xV ad h0 F W pm h) {x : Int64} (kout : mJ K 0 0 36 [some (.ref (ad 0 0 0)), some (.long (dgA F q x 8)), none, some (.int (nI 8))] [] h) {Q : Option Value → mH → Prop} (hZ : mRt K mX5_digest Q) : ∀ (fu : Nat) (e : Nat), 8 - e < fu → (e ≤ 8) → mJ K 0 0 10 [some (.ref (ad 0 0 0)), some (.long (dgA F q x e)), none, some (.int (nI e))] [] h := by
  intro fu
  induction fu with
  | zero =>
    intro e hm0
    exact absurd hm0 (by omega)
  | succ fu ih =>
    intro e hm0 he
    refine mJ_iload_n hK dX5_digest_10 rfl ?_
    refine mJ_bipush (v := nI 8) hK dX5_digest_11 (by decide) ?_
    refine mJ_nge (tgt := 36) hK dX5_digest_13 (by decide) (by omega) (by omega) (fun c_13 => ?_) (fun c_13 => ?_)
    · have : e = 8 := by omega
      subst this
      exact kout
    · refine mJ_aload_n hK dX5_digest_16 rfl ?_
      refine xJ_getr hR hK dX5_digest_17 fX5_29 (by unfold xV; omega) (fun _ _ => rfl) (by decide) (fun _ _ => rfl) ?_
      refine xJ_getr hR hK dX5_digest_20 fX5_108 (by unfold xV; omega) (fun _ _ => rfl) (by decide) (fun _ _ => rfl) ?_
      refine mJ_iload_n hK dX5_digest_23 rfl ?_
      refine xJ_aldC e hR hK dX5_digest_24 (by unfold xV; omega) rfl (by omega) ?_
      refine mJ_lload_n hK dX5_digest_25 rfl ?_
      refine mJ_cVl hK dX5_digest_26 lX5_221 (by unfold mFit; decide) (by decide) (k_X0_mixMessages hR (by omega) (c := e) (by omega) (hq e (by omega)).1 (hq e (by omega)).2 _) rfl rfl (Nat.le_of_ble_eq_true rfl) (hR.1 _ _ _ (by unfold xV; omega)) ⟨_, _, rfl⟩ (fun h e9 => ?_)
      subst e9
      refine mJ_lstore_n hK dX5_digest_29 (by decide) rfl ?_
      refine mJ_iincN hK dX5_digest_30 rfl rfl (by decide) rfl ?_
      refine mJ_goto (tgt := 10) hK dX5_digest_33 (by decide) ?_
      exact ih (e + 1) (by omega) (by omega)

set_option maxRecDepth 100000 in
set_option maxHeartbeats 4000000 in
theorem lp_X5_digest2 {K : mK} (hK : mCx K mX5_digest) {ad : xAd} {h0 : mH} {F : xFm} {W : xWm} {pm : Nat → Nat} {h : mH} (hR : xR xV ad h0 F W pm h) {x : Int64} (kout : mJ K 0 0 85 [some (.ref (ad 0 0 0)), some (.long (dgB F W x 8)), none, some (.int (nI 8))] [] h) {Q : Option Value → mH → Prop} (hZ : mRt K mX5_digest Q) : ∀ (fu : Nat) (e : Nat), 8 - e < fu → (e ≤ 8) → mJ K 0 0 38 [some (.ref (ad 0 0 0)), some (.long (dgB F W x e)), none, some (.int (nI e))] [] h := by
  intro fu
  induction fu with
  | zero =>
    intro e hm0
    exact absurd hm0 (by omega)
  | succ fu ih =>
    intro e hm0 he
    refine mJ_iload_n hK dX5_digest_38 rfl ?_
    refine mJ_bipush (v := nI 8) hK dX5_digest_39 (by decide) ?_
    refine mJ_nge (tgt := 85) hK dX5_digest_41 (by decide) (by omega) (by omega) (fun c_41 => ?_) (fun c_41 => ?_)
    · have : e = 8 := by omega
      subst this
      exact kout
    · refine mJ_lload_n hK dX5_digest_44 rfl ?_
      refine mJ_aload_n hK dX5_digest_45 rfl ?_
      refine xJ_getr hR hK dX5_digest_46 fX5_29 (by unfold xV; omega) (fun _ _ => rfl) (by decide) (fun _ _ => rfl) ?_
      refine xJ_getr hR hK dX5_digest_49 fX5_108 (by unfold xV; omega) (fun _ _ => rfl) (by decide) (fun _ _ => rfl) ?_
      refine mJ_iload_n hK dX5_digest_52 rfl ?_
      refine xJ_aldC e hR hK dX5_digest_53 (by unfold xV; omega) rfl (by omega) ?_
      refine xJ_geti hR hK dX5_digest_54 fX5_199 (by unfold xV; omega) (fun _ _ => rfl) (by decide) rfl ?_
      refine mJ_i2l hK dX5_digest_57 ?_
      refine mJ_cSl hK dX5_digest_58 lX5_224 (by unfold mFit; decide) (by decide) (k_X5_mix _ _) rfl rfl (Nat.le_of_ble_eq_true rfl) (fun h e9 => ?_)
      subst e9
      refine mJ_lstore_n hK dX5_digest_61 (by decide) rfl ?_
      refine mJ_lload_n hK dX5_digest_62 rfl ?_
      refine mJ_aload_n hK dX5_digest_63 rfl ?_
      refine xJ_getr hR hK dX5_digest_64 fX5_29 (by unfold xV; omega) (fun _ _ => rfl) (by decide) (fun _ _ => rfl) ?_
      refine xJ_getr hR hK dX5_digest_67 fX5_108 (by unfold xV; omega) (fun _ _ => rfl) (by decide) (fun _ _ => rfl) ?_
      refine mJ_iload_n hK dX5_digest_70 rfl ?_
      refine xJ_aldC e hR hK dX5_digest_71 (by unfold xV; omega) rfl (by omega) ?_
      refine xJ_getl hR hK dX5_digest_72 fX5_202 (by unfold xV; omega) (fun _ _ => rfl) (by decide) (fun _ _ => rfl) ?_
      refine mJ_cSl hK dX5_digest_75 lX5_224 (by unfold mFit; decide) (by decide) (k_X5_mix _ _) rfl rfl (Nat.le_of_ble_eq_true rfl) (fun h e9 => ?_)
      subst e9
      refine mJ_lstore_n hK dX5_digest_78 (by decide) rfl ?_
      refine mJ_iincN hK dX5_digest_79 rfl rfl (by decide) rfl ?_
      refine mJ_goto (tgt := 38) hK dX5_digest_82 (by decide) ?_
      exact ih (e + 1) (by omega) (by omega)

def dgE (F : xFm) (W : xWm) (pm : Nat → Nat) (q : Nat → Nat) (rn g po bl : Nat) (nx : Option Nat) (hk : Int64) : Int64 :=
  bmx (F 1 0 0) (31 * (31 * (31 * (31 * (31 * (31 * (31 * tmx (F 10 0 0) (F 11 0 0) (31 * dgB F W (dgA F q (rmx (fun r => F 17 (pm r) 0 0) (F 12 0 0) (31 * 1847 + (nI rn).toInt64) rn) 8) 8 + (nI g).toInt64) (g - 24) (g - (g - 24)) + (F 7 0 0 3).toInt64) + (nI po).toInt64) + (bmk (fun r => decide (F 17 (pm r) 0 0 &&& wtM q = F 17 (pm r) 0 0)) rn).toInt64) + (bmk (fun i => enF F q (pm i)) rn).toInt64) + (opI nx).toInt64) + hk) + (nI bl).toInt64) bl
set_option maxRecDepth 100000 in
set_option maxHeartbeats 4000000 in
theorem k_X5_digest_0 {l : Launch} {D : va_G} {aC : Nat → ClassId} {ad : xAd} {h0 h : mH} {F : xFm} {W : xWm} {pm : Nat → Nat} (hR : xR xV ad h0 F W pm h) {rn : Nat} (hrn : F 0 0 0 4 = nI rn) (hrn8 : rn ≤ 8) (hpm : ∀ i, i < 9 → pm i < 9) {q : Nat → Nat} (hq : ∀ c, c < 8 → F 13 0 c 3 = nI (q c) ∧ q c ≤ 8) (hw : ∀ i, i < rn → rwf F (pm i)) (hrd : ∀ i, i < rn → rdy F q (pm i)) {po : Nat} (hpo : F 0 0 0 5 = nI po) (hpo2 : po ≤ 2) {st : Nat} (hst : F 7 0 0 4 + nI 1 = nI st) (hst8 : st ≤ 8) {s0 : Nat} (hs0 : s0 = if po = 1 then st else 0) {g : Nat} (hg : F 9 0 0 2 = nI g) (hgb : g < 1000000) {bl : Nat} (hbl : F 0 0 0 1 = nI bl) (hbl40 : bl ≤ 40) (hkp : F 0 0 0 8 = nI 0) : mCon l D aC mX5_digest [.ref (ad 0 0 0)] h (mRl (dgE F W pm q rn g po bl (nxL (fun i => enF F q (pm i)) (F 12 0 0) po rn s0 rn 0 none) 0) (fun h' => ∃ ch : Nat → Int32, xR xV ad h0 (fr F 4 0 0 ch) W pm h')) := by
  refine mCon.of [some (.ref (ad 0 0 0)), none, none, none] (by decide +kernel) rfl (Nat.le_of_ble_eq_true rfl) ?_
  intro K el eD eC hK hZ
  subst el eD eC
  refine mJ_aload_n hK dX5_digest_0 rfl ?_
  refine mJ_ldc2 hK dX5_digest_1 cX5_215 ?_
  refine mJ_cVl hK dX5_digest_4 lX5_217 (by unfold mFit; decide) (by decide) (k_X5_mixRules hR hrn hrn8 hpm _) rfl rfl (Nat.le_of_ble_eq_true rfl) (hR.1 _ _ _ (by unfold xV; omega)) ⟨_, _, rfl⟩ (fun h e9 => ?_)
  subst e9
  refine mJ_lstore_n hK dX5_digest_7 (by decide) rfl ?_
  refine mJ_iconst (v := nI 0) hK dX5_digest_8 (by decide) ?_
  refine mJ_istore_n hK dX5_digest_9 (by decide) rfl ?_
  refine lp_X5_digest1 hK hq hR ?_ hZ 9 0 (by omega) (by omega)
  refine mJ_iconst (v := nI 0) hK dX5_digest_36 (by decide) ?_
  refine mJ_istore_n hK dX5_digest_37 (by decide) rfl ?_
  refine lp_X5_digest2 hK hR ?_ hZ 9 0 (by omega) (by omega)
  refine mJ_aload_n hK dX5_digest_85 rfl ?_
  refine xJ_getr hR hK dX5_digest_86 fX5_29 (by unfold xV; omega) (fun _ _ => rfl) (by decide) (fun _ _ => rfl) ?_
  refine xJ_getr hR hK dX5_digest_89 fX5_122 (by unfold xV; omega) (fun _ _ => rfl) (by decide) (fun _ _ => rfl) ?_
  refine mJ_lload_n hK dX5_digest_92 rfl ?_
  refine mJ_cVl hK dX5_digest_93 lX5_228 (by unfold mFit; decide) (by decide) (k_X4_mixTickets hR (by omega) hg hgb _) rfl rfl (Nat.le_of_ble_eq_true rfl) (hR.1 _ _ _ (by unfold xV; omega)) ⟨_, _, rfl⟩ (fun h e9 => ?_)
  subst e9
  refine mJ_lstore_n hK dX5_digest_96 (by decide) rfl ?_
  refine mJ_lload_n hK dX5_digest_97 rfl ?_
  refine mJ_aload_n hK dX5_digest_98 rfl ?_
  refine xJ_getr hR hK dX5_digest_99 fX5_29 (by unfold xV; omega) (fun _ _ => rfl) (by decide) (fun _ _ => rfl) ?_
  refine xJ_geti hR hK dX5_digest_102 fX5_119 (by unfold xV; omega) (fun _ _ => rfl) (by decide) rfl ?_
  refine mJ_i2l hK dX5_digest_105 ?_
  refine mJ_cSl hK dX5_digest_106 lX5_224 (by unfold mFit; decide) (by decide) (k_X5_mix _ _) rfl rfl (Nat.le_of_ble_eq_true rfl) (fun h e9 => ?_)
  subst e9
  refine mJ_lstore_n hK dX5_digest_109 (by decide) rfl ?_
  refine mJ_lload_n hK dX5_digest_110 rfl ?_
  refine mJ_aload_n hK dX5_digest_111 rfl ?_
  refine xJ_getx (nI po) hR hK dX5_digest_112 fX5_100 (by unfold xV; omega) (fun _ _ => rfl) (by decide) rfl (hpo) ?_
  refine mJ_i2l hK dX5_digest_115 ?_
  refine mJ_cSl hK dX5_digest_116 lX5_224 (by unfold mFit; decide) (by decide) (k_X5_mix _ _) rfl rfl (Nat.le_of_ble_eq_true rfl) (fun h e9 => ?_)
  subst e9
  refine mJ_lstore_n hK dX5_digest_119 (by decide) rfl ?_
  refine mJ_lload_n hK dX5_digest_120 rfl ?_
  refine mJ_aload_n hK dX5_digest_121 rfl ?_
  refine mJ_cVi hK dX5_digest_122 lX5_231 (by unfold mFit; decide) (by decide) (k_X5_readyRules hR hrn hrn8 hpm hq) rfl rfl (Nat.le_of_ble_eq_true rfl) (hR.1 _ _ _ (by unfold xV; omega)) ⟨_, _, rfl⟩ (fun h e9 => ?_)
  subst e9
  refine mJ_i2l hK dX5_digest_125 ?_
  refine mJ_cSl hK dX5_digest_126 lX5_224 (by unfold mFit; decide) (by decide) (k_X5_mix _ _) rfl rfl (Nat.le_of_ble_eq_true rfl) (fun h e9 => ?_)
  subst e9
  refine mJ_lstore_n hK dX5_digest_129 (by decide) rfl ?_
  refine mJ_lload_n hK dX5_digest_130 rfl ?_
  refine mJ_aload_n hK dX5_digest_131 rfl ?_
  refine mJ_cVi hK dX5_digest_132 lX5_185 (by unfold mFit; decide) (by decide) (k_X5_enabledRules hR hrn hrn8 hpm hq hw hrd) rfl rfl (Nat.le_of_ble_eq_true rfl) (hR.1 _ _ _ (by unfold xV; omega)) ⟨_, _, rfl⟩ (fun h hE => ?_)
  obtain ⟨c1, hR⟩ := hE
  refine mJ_i2l hK dX5_digest_135 ?_
  refine mJ_cSl hK dX5_digest_136 lX5_224 (by unfold mFit; decide) (by decide) (k_X5_mix _ _) rfl rfl (Nat.le_of_ble_eq_true rfl) (fun h e9 => ?_)
  subst e9
  refine mJ_lstore_n hK dX5_digest_139 (by decide) rfl ?_
  refine mJ_lload_n hK dX5_digest_140 rfl ?_
  refine mJ_aload_n hK dX5_digest_141 rfl ?_
  refine mJ_cVi hK dX5_digest_142 lX5_172 (by unfold mFit; decide) (by decide) (k_X5_nextRule hR hrn hrn8 hpm hq hw hrd hpo hpo2 hst hst8 hs0) rfl rfl (Nat.le_of_ble_eq_true rfl) (hR.1 _ _ _ (by unfold xV; omega)) ⟨_, _, rfl⟩ (fun h hE => ?_)
  obtain ⟨c2, hR⟩ := hE
  rw [fr_fr] at hR
  refine mJ_i2l hK dX5_digest_145 ?_
  refine mJ_cSl hK dX5_digest_146 lX5_224 (by unfold mFit; decide) (by decide) (k_X5_mix _ _) rfl rfl (Nat.le_of_ble_eq_true rfl) (fun h e9 => ?_)
  subst e9
  refine mJ_lstore_n hK dX5_digest_149 (by decide) rfl ?_
  refine mJ_lload_n hK dX5_digest_150 rfl ?_
  refine mJ_aload_n hK dX5_digest_151 rfl ?_
  refine xJ_getx (nI 0) hR hK dX5_digest_152 fX5_84 (by unfold xV; omega) (fun _ _ => rfl) (by decide) rfl (hkp) ?_
  refine mJ_nif_eq (tgt := 162) hK dX5_digest_155 (by decide) (by omega) (fun c_155 => ?_) (fun c_155 => ?_)
  · refine mJ_lconst (v := 0) hK dX5_digest_162 (by decide) ?_
    refine mJ_cSl hK dX5_digest_163 lX5_224 (by unfold mFit; decide) (by decide) (k_X5_mix _ _) rfl rfl (Nat.le_of_ble_eq_true rfl) (fun h e9 => ?_)
    subst e9
    refine mJ_lstore_n hK dX5_digest_166 (by decide) rfl ?_
    refine mJ_aload_n hK dX5_digest_167 rfl ?_
    refine mJ_lload_n hK dX5_digest_168 rfl ?_
    refine mJ_cVl hK dX5_digest_169 lX5_234 (by unfold mFit; decide) (by decide) (k_X5_mixBuffer hR hbl hbl40 _) rfl rfl (Nat.le_of_ble_eq_true rfl) (hR.1 _ _ _ (by unfold xV; omega)) ⟨_, _, rfl⟩ (fun h e9 => ?_)
    subst e9
    refine mJ_lret hK dX5_digest_172 rfl hZ (by decide) (by decide) ?_
    exact ⟨rfl, c2, hR⟩
  · exact absurd c_155 (by omega)

set_option maxRecDepth 100000 in
set_option maxHeartbeats 4000000 in
theorem k_X5_digest_1 {l : Launch} {D : va_G} {aC : Nat → ClassId} {ad : xAd} {h0 h : mH} {F : xFm} {W : xWm} {pm : Nat → Nat} (hR : xR xV ad h0 F W pm h) {rn : Nat} (hrn : F 0 0 0 4 = nI rn) (hrn8 : rn ≤ 8) (hpm : ∀ i, i < 9 → pm i < 9) {q : Nat → Nat} (hq : ∀ c, c < 8 → F 13 0 c 3 = nI (q c) ∧ q c ≤ 8) (hw : ∀ i, i < rn → rwf F (pm i)) (hrd : ∀ i, i < rn → rdy F q (pm i)) {po : Nat} (hpo : F 0 0 0 5 = nI po) (hpo2 : po ≤ 2) {st : Nat} (hst : F 7 0 0 4 + nI 1 = nI st) (hst8 : st ≤ 8) {s0 : Nat} (hs0 : s0 = if po = 1 then st else 0) {g : Nat} (hg : F 9 0 0 2 = nI g) (hgb : g < 1000000) {bl : Nat} (hbl : F 0 0 0 1 = nI bl) (hbl40 : bl ≤ 40) (hkp : F 0 0 0 8 = nI 1) : mCon l D aC mX5_digest [.ref (ad 0 0 0)] h (mRl (dgE F W pm q rn g po bl (nxL (fun i => enF F q (pm i)) (F 12 0 0) po rn s0 rn 0 none) 1) (fun h' => ∃ ch : Nat → Int32, xR xV ad h0 (fr F 4 0 0 ch) W pm h')) := by
  refine mCon.of [some (.ref (ad 0 0 0)), none, none, none] (by decide +kernel) rfl (Nat.le_of_ble_eq_true rfl) ?_
  intro K el eD eC hK hZ
  subst el eD eC
  refine mJ_aload_n hK dX5_digest_0 rfl ?_
  refine mJ_ldc2 hK dX5_digest_1 cX5_215 ?_
  refine mJ_cVl hK dX5_digest_4 lX5_217 (by unfold mFit; decide) (by decide) (k_X5_mixRules hR hrn hrn8 hpm _) rfl rfl (Nat.le_of_ble_eq_true rfl) (hR.1 _ _ _ (by unfold xV; omega)) ⟨_, _, rfl⟩ (fun h e9 => ?_)
  subst e9
  refine mJ_lstore_n hK dX5_digest_7 (by decide) rfl ?_
  refine mJ_iconst (v := nI 0) hK dX5_digest_8 (by decide) ?_
  refine mJ_istore_n hK dX5_digest_9 (by decide) rfl ?_
  refine lp_X5_digest1 hK hq hR ?_ hZ 9 0 (by omega) (by omega)
  refine mJ_iconst (v := nI 0) hK dX5_digest_36 (by decide) ?_
  refine mJ_istore_n hK dX5_digest_37 (by decide) rfl ?_
  refine lp_X5_digest2 hK hR ?_ hZ 9 0 (by omega) (by omega)
  refine mJ_aload_n hK dX5_digest_85 rfl ?_
  refine xJ_getr hR hK dX5_digest_86 fX5_29 (by unfold xV; omega) (fun _ _ => rfl) (by decide) (fun _ _ => rfl) ?_
  refine xJ_getr hR hK dX5_digest_89 fX5_122 (by unfold xV; omega) (fun _ _ => rfl) (by decide) (fun _ _ => rfl) ?_
  refine mJ_lload_n hK dX5_digest_92 rfl ?_
  refine mJ_cVl hK dX5_digest_93 lX5_228 (by unfold mFit; decide) (by decide) (k_X4_mixTickets hR (by omega) hg hgb _) rfl rfl (Nat.le_of_ble_eq_true rfl) (hR.1 _ _ _ (by unfold xV; omega)) ⟨_, _, rfl⟩ (fun h e9 => ?_)
  subst e9
  refine mJ_lstore_n hK dX5_digest_96 (by decide) rfl ?_
  refine mJ_lload_n hK dX5_digest_97 rfl ?_
  refine mJ_aload_n hK dX5_digest_98 rfl ?_
  refine xJ_getr hR hK dX5_digest_99 fX5_29 (by unfold xV; omega) (fun _ _ => rfl) (by decide) (fun _ _ => rfl) ?_
  refine xJ_geti hR hK dX5_digest_102 fX5_119 (by unfold xV; omega) (fun _ _ => rfl) (by decide) rfl ?_
  refine mJ_i2l hK dX5_digest_105 ?_
  refine mJ_cSl hK dX5_digest_106 lX5_224 (by unfold mFit; decide) (by decide) (k_X5_mix _ _) rfl rfl (Nat.le_of_ble_eq_true rfl) (fun h e9 => ?_)
  subst e9
  refine mJ_lstore_n hK dX5_digest_109 (by decide) rfl ?_
  refine mJ_lload_n hK dX5_digest_110 rfl ?_
  refine mJ_aload_n hK dX5_digest_111 rfl ?_
  refine xJ_getx (nI po) hR hK dX5_digest_112 fX5_100 (by unfold xV; omega) (fun _ _ => rfl) (by decide) rfl (hpo) ?_
  refine mJ_i2l hK dX5_digest_115 ?_
  refine mJ_cSl hK dX5_digest_116 lX5_224 (by unfold mFit; decide) (by decide) (k_X5_mix _ _) rfl rfl (Nat.le_of_ble_eq_true rfl) (fun h e9 => ?_)
  subst e9
  refine mJ_lstore_n hK dX5_digest_119 (by decide) rfl ?_
  refine mJ_lload_n hK dX5_digest_120 rfl ?_
  refine mJ_aload_n hK dX5_digest_121 rfl ?_
  refine mJ_cVi hK dX5_digest_122 lX5_231 (by unfold mFit; decide) (by decide) (k_X5_readyRules hR hrn hrn8 hpm hq) rfl rfl (Nat.le_of_ble_eq_true rfl) (hR.1 _ _ _ (by unfold xV; omega)) ⟨_, _, rfl⟩ (fun h e9 => ?_)
  subst e9
  refine mJ_i2l hK dX5_digest_125 ?_
  refine mJ_cSl hK dX5_digest_126 lX5_224 (by unfold mFit; decide) (by decide) (k_X5_mix _ _) rfl rfl (Nat.le_of_ble_eq_true rfl) (fun h e9 => ?_)
  subst e9
  refine mJ_lstore_n hK dX5_digest_129 (by decide) rfl ?_
  refine mJ_lload_n hK dX5_digest_130 rfl ?_
  refine mJ_aload_n hK dX5_digest_131 rfl ?_
  refine mJ_cVi hK dX5_digest_132 lX5_185 (by unfold mFit; decide) (by decide) (k_X5_enabledRules hR hrn hrn8 hpm hq hw hrd) rfl rfl (Nat.le_of_ble_eq_true rfl) (hR.1 _ _ _ (by unfold xV; omega)) ⟨_, _, rfl⟩ (fun h hE => ?_)
  obtain ⟨c1, hR⟩ := hE
  refine mJ_i2l hK dX5_digest_135 ?_
  refine mJ_cSl hK dX5_digest_136 lX5_224 (by unfold mFit; decide) (by decide) (k_X5_mix _ _) rfl rfl (Nat.le_of_ble_eq_true rfl) (fun h e9 => ?_)
  subst e9
  refine mJ_lstore_n hK dX5_digest_139 (by decide) rfl ?_
  refine mJ_lload_n hK dX5_digest_140 rfl ?_
  refine mJ_aload_n hK dX5_digest_141 rfl ?_
  refine mJ_cVi hK dX5_digest_142 lX5_172 (by unfold mFit; decide) (by decide) (k_X5_nextRule hR hrn hrn8 hpm hq hw hrd hpo hpo2 hst hst8 hs0) rfl rfl (Nat.le_of_ble_eq_true rfl) (hR.1 _ _ _ (by unfold xV; omega)) ⟨_, _, rfl⟩ (fun h hE => ?_)
  obtain ⟨c2, hR⟩ := hE
  rw [fr_fr] at hR
  refine mJ_i2l hK dX5_digest_145 ?_
  refine mJ_cSl hK dX5_digest_146 lX5_224 (by unfold mFit; decide) (by decide) (k_X5_mix _ _) rfl rfl (Nat.le_of_ble_eq_true rfl) (fun h e9 => ?_)
  subst e9
  refine mJ_lstore_n hK dX5_digest_149 (by decide) rfl ?_
  refine mJ_lload_n hK dX5_digest_150 rfl ?_
  refine mJ_aload_n hK dX5_digest_151 rfl ?_
  refine xJ_getx (nI 1) hR hK dX5_digest_152 fX5_84 (by unfold xV; omega) (fun _ _ => rfl) (by decide) rfl (hkp) ?_
  refine mJ_nif_eq (tgt := 162) hK dX5_digest_155 (by decide) (by omega) (fun c_155 => ?_) (fun c_155 => ?_)
  · exact absurd c_155 (by omega)
  · refine mJ_lconst (v := 1) hK dX5_digest_158 (by decide) ?_
    refine mJ_goto (tgt := 163) hK dX5_digest_159 (by decide) ?_
    refine mJ_cSl hK dX5_digest_163 lX5_224 (by unfold mFit; decide) (by decide) (k_X5_mix _ _) rfl rfl (Nat.le_of_ble_eq_true rfl) (fun h e9 => ?_)
    subst e9
    refine mJ_lstore_n hK dX5_digest_166 (by decide) rfl ?_
    refine mJ_aload_n hK dX5_digest_167 rfl ?_
    refine mJ_lload_n hK dX5_digest_168 rfl ?_
    refine mJ_cVl hK dX5_digest_169 lX5_234 (by unfold mFit; decide) (by decide) (k_X5_mixBuffer hR hbl hbl40 _) rfl rfl (Nat.le_of_ble_eq_true rfl) (hR.1 _ _ _ (by unfold xV; omega)) ⟨_, _, rfl⟩ (fun h e9 => ?_)
    subst e9
    refine mJ_lret hK dX5_digest_172 rfl hZ (by decide) (by decide) ?_
    exact ⟨rfl, c2, hR⟩

/-- how many of a chain's firings there are before the first that isn't, at most n of them -/
def rnC (nx : Nat → Option Nat) : Nat → Nat → Nat
  | 0, e => e
  | n + 1, e => if (nx e).isSome = true then rnC nx n (e + 1) else e
theorem rnC_s {nx : Nat → Option Nat} {n e : Nat} (h : e < n) (hs : (nx e).isSome = true) : rnC nx (n - e) e = rnC nx (n - (e + 1)) (e + 1) := by
  obtain ⟨m, hm⟩ : ∃ m, n - e = m + 1 := ⟨n - e - 1, by omega⟩
  have h2 : n - (e + 1) = m := by omega
  rw [hm, h2, rnC, if_pos hs]
theorem rnC_n {nx : Nat → Option Nat} {n e : Nat} (h : e < n) (hs : ¬ (nx e).isSome = true) : rnC nx (n - e) e = e := by
  obtain ⟨m, hm⟩ : ∃ m, n - e = m + 1 := ⟨n - e - 1, by omega⟩
  rw [hm, rnC, if_neg hs]
set_option maxRecDepth 100000 in
set_option maxHeartbeats 4000000 in
theorem lp_X5_run {K : mK} (hK : mCx K mX5_run) {a : Nat} {lim n : Nat} (hlim : lim ≤ 100) {nx : Nat → Option Nat} {I J : Nat → mH → Prop} {P : mH → Prop} (hth : ∀ h e, I e h → ∃ fs : List Value, h a = some (.inr (5, fs))) (hf : ∀ e h, e < lim → I e h → mCon (kl K) (kD K) (kC K) mX5_fire [.ref a] h (mRi (opI (nx e)) (J e))) (hk9 : ∀ e k, nx e = some k → k < 2 ^ 31) (hS : ∀ e h k, nx e = some k → J e h → I (e + 1) h) (hN : ∀ e h, nx e = none → J e h → P h) (hL : ∀ h, I lim h → P h) (hZ : mRt K mX5_run (mRi (nI n) P)) : ∀ (fu : Nat) (e : Nat) (h : mH), lim - e < fu → (e ≤ lim) → (n = rnC nx (lim - e) e) → (I e h) → mJ K 0 0 23 [some (.ref a), some (.int (nI lim)), some (.int (nI e))] [] h := by
  intro fu
  induction fu with
  | zero =>
    intro e h hm0
    exact absurd hm0 (by omega)
  | succ fu ih =>
    intro e h hm0 he hn hI
    obtain ⟨fs, hfs⟩ := hth h e hI
    refine mJ_iload_n hK dX5_run_23 rfl ?_
    refine mJ_iload_n hK dX5_run_24 rfl ?_
    refine mJ_nge (tgt := 42) hK dX5_run_25 (by decide) (by omega) (by omega) (fun c_25 => ?_) (fun c_25 => ?_)
    · refine mJ_iload_n hK dX5_run_42 rfl ?_
      refine mJ_iret hK dX5_run_43 rfl hZ (by decide) (by decide) ?_
      have : e = lim := by omega
      subst this
      rw [Nat.sub_self] at hn
      exact ⟨by rw [hn]; rfl, hL h hI⟩
    · cases hx : nx e with
      | none =>
        refine mJ_aload_n hK dX5_run_28 rfl ?_
        refine mJ_cVi hK dX5_run_29 lX5_182 (by unfold mFit; decide) (by decide) (hf e h c_25 hI) rfl rfl (Nat.le_of_ble_eq_true rfl) hfs ⟨_, _, rfl⟩ (fun h9 hE => ?_)
        refine mJ_iconst (v := -1) hK dX5_run_32 (by decide) ?_
        refine mJ_icmp_eq (tgt := 42) hK dX5_run_33 (by decide) (fun c_33 => ?_) (fun c_33 => ?_)
        · refine mJ_iload_n hK dX5_run_42 rfl ?_
          refine mJ_iret hK dX5_run_43 rfl hZ (by decide) (by decide) ?_
          exact ⟨by rw [hn, rnC_n c_25 (by rw [hx]; decide)], hN e h9 (by rw [hx]) hE⟩
        · rw [hx] at c_33
          exact absurd rfl c_33
      | some k9 =>
        refine mJ_aload_n hK dX5_run_28 rfl ?_
        refine mJ_cVi hK dX5_run_29 lX5_182 (by unfold mFit; decide) (by decide) (hf e h c_25 hI) rfl rfl (Nat.le_of_ble_eq_true rfl) hfs ⟨_, _, rfl⟩ (fun h9 hE => ?_)
        refine mJ_iconst (v := -1) hK dX5_run_32 (by decide) ?_
        refine mJ_icmp_eq (tgt := 42) hK dX5_run_33 (by decide) (fun c_33 => ?_) (fun c_33 => ?_)
        · rw [hx] at c_33
          exact absurd c_33 (nI_m1 (hk9 e k9 hx))
        · refine mJ_iincN hK dX5_run_36 rfl rfl (by decide) rfl ?_
          refine mJ_goto (tgt := 23) hK dX5_run_39 (by decide) ?_
          exact ih (e + 1) h9 (by omega) (by omega) (by rw [hn, rnC_s c_25 (by rw [hx]; rfl)]) (hS e h9 k9 hx hE)

theorem k_X5_run {l : Launch} {D : va_G} {aC : Nat → ClassId} {a : Nat} {lim n : Nat} (hl1 : 1 ≤ lim) (hlim : lim ≤ 100) {nx : Nat → Option Nat} {I J : Nat → mH → Prop} {P : mH → Prop} {h : mH} (hth : ∀ h e, I e h → ∃ fs : List Value, h a = some (.inr (5, fs))) (hf : ∀ e h, e < lim → I e h → mCon l D aC mX5_fire [.ref a] h (mRi (opI (nx e)) (J e))) (hk9 : ∀ e k, nx e = some k → k < 2 ^ 31) (hS : ∀ e h k, nx e = some k → J e h → I (e + 1) h) (hN : ∀ e h, nx e = none → J e h → P h) (hL : ∀ h, I lim h → P h) (hn : n = rnC nx lim 0) (hI : I 0 h) : mCon l D aC mX5_run [.ref a, .int (nI lim)] h (mRi (nI n) P) := by
  refine mCon.of [some (.ref a), some (.int (nI lim)), none] (by decide +kernel) rfl (Nat.le_of_ble_eq_true rfl) ?_
  intro K el eD eC hK hZ
  subst el eD eC
  refine mJ_iload_n hK dX5_run_0 rfl ?_
  refine mJ_iconst (v := nI 1) hK dX5_run_1 (by decide) ?_
  refine mJ_nlt (tgt := 11) hK dX5_run_2 (by decide) (by omega) (by omega) (fun c_2 => ?_) (fun c_2 => ?_)
  · exact absurd c_2 (by omega)
  · refine mJ_iload_n hK dX5_run_5 rfl ?_
    refine mJ_bipush (v := nI 100) hK dX5_run_6 (by decide) ?_
    refine mJ_nle (tgt := 21) hK dX5_run_8 (by decide) (by omega) (by omega) (fun c_8 => ?_) (fun c_8 => ?_)
    · refine mJ_iconst (v := nI 0) hK dX5_run_21 (by decide) ?_
      refine mJ_istore_n hK dX5_run_22 (by decide) rfl ?_
      exact lp_X5_run hK hlim hth hf hk9 hS hN hL hZ (lim + 1) 0 h (by omega) (by omega) hn hI
    · exact absurd c_8 (by omega)
set_option maxRecDepth 100000 in
set_option maxHeartbeats 4000000 in
theorem k_X5_run_x {l : Launch} {D : va_G} {aC : Nat → ClassId} {a : Nat} {h : mH} {x : Int32} (hx : ¬ (nI 1 ≤ x ∧ x ≤ nI 100)) : mXon l D aC mX5_run [.ref a, .int x] h (fun _ _ => False) (fun E h' => E = "java/lang/IllegalArgumentException" ∧ h' = h) := by
  refine mXon.of [some (.ref a), some (.int x), none] (by decide +kernel) rfl (Nat.le_of_ble_eq_true rfl) ?_
  intro K el eD eC hK hZ hX
  subst el eD eC
  refine mJ_iload_n hK dX5_run_0 rfl ?_
  refine mJ_iconst (v := nI 1) hK dX5_run_1 (by decide) ?_
  refine mJ_icmp_lt (tgt := 11) hK dX5_run_2 (by decide) (fun c_2 => ?_) (fun c_2 => ?_)
  · refine mJ_throw (text := "the limit is not 1 to 100") hK hX tw_46 (by decide +kernel) dX5_run_11 dX5_run_14 dX5_run_15 dX5_run_17 dX5_run_20 (by decide) (Nat.le_of_ble_eq_true rfl) (by decide) (by decide) ?_
    exact ⟨rfl, rfl⟩
  · refine mJ_iload_n hK dX5_run_5 rfl ?_
    refine mJ_bipush (v := nI 100) hK dX5_run_6 (by decide) ?_
    refine mJ_icmp_le (tgt := 21) hK dX5_run_8 (by decide) (fun c_8 => ?_) (fun c_8 => ?_)
    · exact absurd ⟨Int32.not_lt.mp c_2, c_8⟩ hx
    · refine mJ_throw (text := "the limit is not 1 to 100") hK hX tw_46 (by decide +kernel) dX5_run_11 dX5_run_14 dX5_run_15 dX5_run_17 dX5_run_20 (by decide) (Nat.le_of_ble_eq_true rfl) (by decide) (by decide) ?_
      exact ⟨rfl, rfl⟩
