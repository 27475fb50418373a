set_option maxRecDepth 100000 in
set_option maxHeartbeats 4000000 in
theorem lp_X6_copyRule_1 {K : mK} (hK : mCx K mX6_copyRule) {ad : xAd} {h0 : mH} {F : xFm} {W : xWm} {pm : Nat → Nat} {t : Nat} (ht : t < 7) (hkk : ∀ h' : mH, xR yV ad h0 (fr F 35 0 0 (cpT (F 35 0 0) (3 * t) (3 * (t + 1)) 3)) W pm h' → mJ K 0 0 69 [some (.ref (ad 30 0 0)), some (.int (nI t)), some (.int (nI (t + 1))), some (.int (nI 3))] [] h') : ∀ (fu : Nat) (e : Nat) (h : mH), 3 - e < fu → (e ≤ 3) → (xR yV ad h0 (fr F 35 0 0 (cpT (F 35 0 0) (3 * t) (3 * (t + 1)) e)) W pm h) → mJ K 0 0 38 [some (.ref (ad 30 0 0)), some (.int (nI t)), some (.int (nI (t + 1))), some (.int (nI e))] [] h := by
  intro fu
  induction fu with
  | zero =>
    intro e h hm0
    exact absurd hm0 (by omega)
  | succ fu ih =>
    intro e h hm0 he hR
    refine mJ_iload_n hK dX6_copyRule_38 rfl ?_
    refine mJ_iconst (v := nI 3) hK dX6_copyRule_39 (by decide) ?_
    refine mJ_nge (tgt := 69) hK dX6_copyRule_40 (by decide) (by omega) (by omega) (fun c_40 => ?_) (fun c_40 => ?_)
    · have : e = 3 := by omega
      subst this
      exact hkk _ hR
    · refine mJ_aload_n hK dX6_copyRule_43 rfl ?_
      refine xJ_getr hR hK dX6_copyRule_44 fX6_16 (by unfold yV; omega) (fun _ _ => rfl) (by decide) (fun _ _ => rfl) ?_
      refine mJ_iconst (v := nI 3) hK dX6_copyRule_47 (by decide) ?_
      refine mJ_iload_n hK dX6_copyRule_48 rfl ?_
      refine mJ_imulN hK dX6_copyRule_49 ?_
      refine mJ_iload_n hK dX6_copyRule_50 rfl ?_
      refine mJ_iaddN hK dX6_copyRule_51 ?_
      refine mJ_aload_n hK dX6_copyRule_52 rfl ?_
      refine xJ_getr hR hK dX6_copyRule_53 fX6_16 (by unfold yV; omega) (fun _ _ => rfl) (by decide) (fun _ _ => rfl) ?_
      refine mJ_iconst (v := nI 3) hK dX6_copyRule_56 (by decide) ?_
      refine mJ_iload_n hK dX6_copyRule_57 rfl ?_
      refine mJ_imulN hK dX6_copyRule_58 ?_
      refine mJ_iload_n hK dX6_copyRule_59 rfl ?_
      refine mJ_iaddN hK dX6_copyRule_60 ?_
      refine xJ_iald ((3 * (t + 1)) + e) hR hK dX6_copyRule_61 (by unfold yV; omega) (fun _ _ => rfl) rfl (by omega) (by decide) ?_
      refine xJ_iast ((3 * t) + e) hR hK dX6_copyRule_62 (by unfold yV; omega) (fun _ _ => rfl) rfl (by omega) (by decide) (fun h hR => ?_)
      refine mJ_iincN hK dX6_copyRule_63 rfl rfl (by decide) rfl ?_
      refine mJ_goto (tgt := 38) hK dX6_copyRule_66 (by decide) ?_
      exact ih (e + 1) _ (by omega) (by omega) (xR_ext hR (by rw [fr_s, fr_fr]; exact congrArg (fr F 35 0 0) (cpT_s (by omega))))

set_option maxRecDepth 100000 in
set_option maxHeartbeats 4000000 in
theorem lp_X6_copyRule_2 {K : mK} (hK : mCx K mX6_copyRule) {ad : xAd} {h0 : mH} {F : xFm} {W : xWm} {pm : Nat → Nat} {t : Nat} (ht : t < 7) (hkk : ∀ h' : mH, xR yV ad h0 (fr (fr F 37 0 0 (cpT (F 37 0 0) (4 * t) (4 * (t + 1)) 4)) 38 0 0 (cpT (F 38 0 0) (4 * t) (4 * (t + 1)) 4)) W pm h' → mJ K 0 0 122 [some (.ref (ad 30 0 0)), some (.int (nI t)), some (.int (nI (t + 1))), some (.int (nI 4))] [] h') : ∀ (fu : Nat) (e : Nat) (h : mH), 4 - e < fu → (e ≤ 4) → (xR yV ad h0 (fr (fr F 37 0 0 (cpT (F 37 0 0) (4 * t) (4 * (t + 1)) e)) 38 0 0 (cpT (F 38 0 0) (4 * t) (4 * (t + 1)) e)) W pm h) → mJ K 0 0 71 [some (.ref (ad 30 0 0)), some (.int (nI t)), some (.int (nI (t + 1))), some (.int (nI e))] [] h := by
  intro fu
  induction fu with
  | zero =>
    intro e h hm0
    exact absurd hm0 (by omega)
  | succ fu ih =>
    intro e h hm0 he hR
    refine mJ_iload_n hK dX6_copyRule_71 rfl ?_
    refine mJ_iconst (v := nI 4) hK dX6_copyRule_72 (by decide) ?_
    refine mJ_nge (tgt := 122) hK dX6_copyRule_73 (by decide) (by omega) (by omega) (fun c_73 => ?_) (fun c_73 => ?_)
    · have : e = 4 := by omega
      subst this
      exact hkk _ hR
    · refine mJ_aload_n hK dX6_copyRule_76 rfl ?_
      refine xJ_getr hR hK dX6_copyRule_77 fX6_22 (by unfold yV; omega) (fun _ _ => rfl) (by decide) (fun _ _ => rfl) ?_
      refine mJ_iconst (v := nI 4) hK dX6_copyRule_80 (by decide) ?_
      refine mJ_iload_n hK dX6_copyRule_81 rfl ?_
      refine mJ_imulN hK dX6_copyRule_82 ?_
      refine mJ_iload_n hK dX6_copyRule_83 rfl ?_
      refine mJ_iaddN hK dX6_copyRule_84 ?_
      refine mJ_aload_n hK dX6_copyRule_85 rfl ?_
      refine xJ_getr hR hK dX6_copyRule_86 fX6_22 (by unfold yV; omega) (fun _ _ => rfl) (by decide) (fun _ _ => rfl) ?_
      refine mJ_iconst (v := nI 4) hK dX6_copyRule_89 (by decide) ?_
      refine mJ_iload_n hK dX6_copyRule_90 rfl ?_
      refine mJ_imulN hK dX6_copyRule_91 ?_
      refine mJ_iload_n hK dX6_copyRule_92 rfl ?_
      refine mJ_iaddN hK dX6_copyRule_93 ?_
      refine xJ_iald ((4 * (t + 1)) + e) hR hK dX6_copyRule_94 (by unfold yV; omega) (fun _ _ => rfl) rfl (by omega) (by decide) ?_
      refine xJ_iast ((4 * t) + e) hR hK dX6_copyRule_95 (by unfold yV; omega) (fun _ _ => rfl) rfl (by omega) (by decide) (fun h hR => ?_)
      refine mJ_aload_n hK dX6_copyRule_96 rfl ?_
      refine xJ_getr hR hK dX6_copyRule_97 fX6_25 (by unfold yV; omega) (fun _ _ => rfl) (by decide) (fun _ _ => rfl) ?_
      refine mJ_iconst (v := nI 4) hK dX6_copyRule_100 (by decide) ?_
      refine mJ_iload_n hK dX6_copyRule_101 rfl ?_
      refine mJ_imulN hK dX6_copyRule_102 ?_
      refine mJ_iload_n hK dX6_copyRule_103 rfl ?_
      refine mJ_iaddN hK dX6_copyRule_104 ?_
      refine mJ_aload_n hK dX6_copyRule_105 rfl ?_
      refine xJ_getr hR hK dX6_copyRule_106 fX6_25 (by unfold yV; omega) (fun _ _ => rfl) (by decide) (fun _ _ => rfl) ?_
      refine mJ_iconst (v := nI 4) hK dX6_copyRule_109 (by decide) ?_
      refine mJ_iload_n hK dX6_copyRule_110 rfl ?_
      refine mJ_imulN hK dX6_copyRule_111 ?_
      refine mJ_iload_n hK dX6_copyRule_112 rfl ?_
      refine mJ_iaddN hK dX6_copyRule_113 ?_
      refine xJ_iald ((4 * (t + 1)) + e) hR hK dX6_copyRule_114 (by unfold yV; omega) (fun _ _ => rfl) rfl (by omega) (by decide) ?_
      refine xJ_iast ((4 * t) + e) hR hK dX6_copyRule_115 (by unfold yV; omega) (fun _ _ => rfl) rfl (by omega) (by decide) (fun h hR => ?_)
      refine mJ_iincN hK dX6_copyRule_116 rfl rfl (by decide) rfl ?_
      refine mJ_goto (tgt := 71) hK dX6_copyRule_119 (by decide) ?_
      refine ih (e + 1) _ (by omega) (by omega) (xR_ext hR ((fr_22 (by omega)).trans ?_))
      exact congr (congrArg (fun a b => fr (fr F 37 0 0 a) 38 0 0 b) (cpT_s (by omega))) (cpT_s (by omega))

set_option maxRecDepth 100000 in
set_option maxHeartbeats 4000000 in
theorem lp_X6_copyRule_3 {K : mK} (hK : mCx K mX6_copyRule) {ad : xAd} {h0 : mH} {F : xFm} {W : xWm} {pm : Nat → Nat} {t : Nat} (ht : t < 7) (hkk : ∀ h' : mH, xR yV ad h0 (fr (fr F 39 0 0 (cpT (F 39 0 0) (12 * t) (12 * (t + 1)) 12)) 40 0 0 (cpT (F 40 0 0) (12 * t) (12 * (t + 1)) 12)) W pm h' → mJ K 0 0 180 [some (.ref (ad 30 0 0)), some (.int (nI t)), some (.int (nI (t + 1))), some (.int (nI 12))] [] h') : ∀ (fu : Nat) (e : Nat) (h : mH), 12 - e < fu → (e ≤ 12) → (xR yV ad h0 (fr (fr F 39 0 0 (cpT (F 39 0 0) (12 * t) (12 * (t + 1)) e)) 40 0 0 (cpT (F 40 0 0) (12 * t) (12 * (t + 1)) e)) W pm h) → mJ K 0 0 124 [some (.ref (ad 30 0 0)), some (.int (nI t)), some (.int (nI (t + 1))), some (.int (nI e))] [] h := by
  intro fu
  induction fu with
  | zero =>
    intro e h hm0
    exact absurd hm0 (by omega)
  | succ fu ih =>
    intro e h hm0 he hR
    refine mJ_iload_n hK dX6_copyRule_124 rfl ?_
    refine mJ_bipush (v := nI 12) hK dX6_copyRule_125 (by decide) ?_
    refine mJ_nge (tgt := 180) hK dX6_copyRule_127 (by decide) (by omega) (by omega) (fun c_127 => ?_) (fun c_127 => ?_)
    · have : e = 12 := by omega
      subst this
      exact hkk _ hR
    · refine mJ_aload_n hK dX6_copyRule_130 rfl ?_
      refine xJ_getr hR hK dX6_copyRule_131 fX6_28 (by unfold yV; omega) (fun _ _ => rfl) (by decide) (fun _ _ => rfl) ?_
      refine mJ_bipush (v := nI 12) hK dX6_copyRule_134 (by decide) ?_
      refine mJ_iload_n hK dX6_copyRule_136 rfl ?_
      refine mJ_imulN hK dX6_copyRule_137 ?_
      refine mJ_iload_n hK dX6_copyRule_138 rfl ?_
      refine mJ_iaddN hK dX6_copyRule_139 ?_
      refine mJ_aload_n hK dX6_copyRule_140 rfl ?_
      refine xJ_getr hR hK dX6_copyRule_141 fX6_28 (by unfold yV; omega) (fun _ _ => rfl) (by decide) (fun _ _ => rfl) ?_
      refine mJ_bipush (v := nI 12) hK dX6_copyRule_144 (by decide) ?_
      refine mJ_iload_n hK dX6_copyRule_146 rfl ?_
      refine mJ_imulN hK dX6_copyRule_147 ?_
      refine mJ_iload_n hK dX6_copyRule_148 rfl ?_
      refine mJ_iaddN hK dX6_copyRule_149 ?_
      refine xJ_iald ((12 * (t + 1)) + e) hR hK dX6_copyRule_150 (by unfold yV; omega) (fun _ _ => rfl) rfl (by omega) (by decide) ?_
      refine xJ_iast ((12 * t) + e) hR hK dX6_copyRule_151 (by unfold yV; omega) (fun _ _ => rfl) rfl (by omega) (by decide) (fun h hR => ?_)
      refine mJ_aload_n hK dX6_copyRule_152 rfl ?_
      refine xJ_getr hR hK dX6_copyRule_153 fX6_31 (by unfold yV; omega) (fun _ _ => rfl) (by decide) (fun _ _ => rfl) ?_
      refine mJ_bipush (v := nI 12) hK dX6_copyRule_156 (by decide) ?_
      refine mJ_iload_n hK dX6_copyRule_158 rfl ?_
      refine mJ_imulN hK dX6_copyRule_159 ?_
      refine mJ_iload_n hK dX6_copyRule_160 rfl ?_
      refine mJ_iaddN hK dX6_copyRule_161 ?_
      refine mJ_aload_n hK dX6_copyRule_162 rfl ?_
      refine xJ_getr hR hK dX6_copyRule_163 fX6_31 (by unfold yV; omega) (fun _ _ => rfl) (by decide) (fun _ _ => rfl) ?_
      refine mJ_bipush (v := nI 12) hK dX6_copyRule_166 (by decide) ?_
      refine mJ_iload_n hK dX6_copyRule_168 rfl ?_
      refine mJ_imulN hK dX6_copyRule_169 ?_
      refine mJ_iload_n hK dX6_copyRule_170 rfl ?_
      refine mJ_iaddN hK dX6_copyRule_171 ?_
      refine xJ_iald ((12 * (t + 1)) + e) hR hK dX6_copyRule_172 (by unfold yV; omega) (fun _ _ => rfl) rfl (by omega) (by decide) ?_
      refine xJ_iast ((12 * t) + e) hR hK dX6_copyRule_173 (by unfold yV; omega) (fun _ _ => rfl) rfl (by omega) (by decide) (fun h hR => ?_)
      refine mJ_iincN hK dX6_copyRule_174 rfl rfl (by decide) rfl ?_
      refine mJ_goto (tgt := 124) hK dX6_copyRule_177 (by decide) ?_
      refine ih (e + 1) _ (by omega) (by omega) (xR_ext hR ((fr_22 (by omega)).trans ?_))
      exact congr (congrArg (fun a b => fr (fr F 39 0 0 a) 40 0 0 b) (cpT_s (by omega))) (cpT_s (by omega))

def mC1 (F : xFm) (t : Nat) : xFm := fr (fr (fr F 34 0 0 (upd (F 34 0 0) t (F 34 0 0 (t + 1)))) 36 0 0 (upd (F 36 0 0) t (F 36 0 0 (t + 1)))) 41 0 0 (upd (F 41 0 0) t (F 41 0 0 (t + 1)))
def mC2 (F : xFm) (t : Nat) : xFm := fr (mC1 F t) 35 0 0 (cpT (F 35 0 0) (3 * t) (3 * (t + 1)) 3)
def mC3 (F : xFm) (t : Nat) : xFm := fr (fr (mC2 F t) 37 0 0 (cpT (F 37 0 0) (4 * t) (4 * (t + 1)) 4)) 38 0 0 (cpT (F 38 0 0) (4 * t) (4 * (t + 1)) 4)
def mCr (F : xFm) (t : Nat) : xFm := fr (fr (mC3 F t) 39 0 0 (cpT (F 39 0 0) (12 * t) (12 * (t + 1)) 12)) 40 0 0 (cpT (F 40 0 0) (12 * t) (12 * (t + 1)) 12)
set_option maxRecDepth 100000 in
set_option maxHeartbeats 4000000 in
theorem k_X6_copyRule {l : Launch} {D : va_G} {aC : Nat → ClassId} {ad : xAd} {h0 h : mH} {F : xFm} {W : xWm} {pm : Nat → Nat} (hR : xR yV ad h0 F W pm h) {t : Nat} (ht : t < 7) : mCon l D aC mX6_copyRule [.ref (ad 30 0 0), .int (nI t), .int (nI (t + 1))] h (mRv (fun h' => xR yV ad h0 (mCr F t) W pm h')) := by
  refine mCon.of [some (.ref (ad 30 0 0)), some (.int (nI t)), some (.int (nI (t + 1))), none] (by decide +kernel) rfl (Nat.le_of_ble_eq_true rfl) ?_
  intro K el eD eC hK hZ
  subst el eD eC
  refine mJ_aload_n hK dX6_copyRule_0 rfl ?_
  refine xJ_getr hR hK dX6_copyRule_1 fX6_13 (by unfold yV; omega) (fun _ _ => rfl) (by decide) (fun _ _ => rfl) ?_
  refine mJ_iload_n hK dX6_copyRule_4 rfl ?_
  refine mJ_aload_n hK dX6_copyRule_5 rfl ?_
  refine xJ_getr hR hK dX6_copyRule_6 fX6_13 (by unfold yV; omega) (fun _ _ => rfl) (by decide) (fun _ _ => rfl) ?_
  refine mJ_iload_n hK dX6_copyRule_9 rfl ?_
  refine xJ_iald (t + 1) hR hK dX6_copyRule_10 (by unfold yV; omega) (fun _ _ => rfl) rfl (by omega) (by decide) ?_
  refine xJ_iast t hR hK dX6_copyRule_11 (by unfold yV; omega) (fun _ _ => rfl) rfl (by omega) (by decide) (fun h hR => ?_)
  refine mJ_aload_n hK dX6_copyRule_12 rfl ?_
  refine xJ_getr hR hK dX6_copyRule_13 fX6_19 (by unfold yV; omega) (fun _ _ => rfl) (by decide) (fun _ _ => rfl) ?_
  refine mJ_iload_n hK dX6_copyRule_16 rfl ?_
  refine mJ_aload_n hK dX6_copyRule_17 rfl ?_
  refine xJ_getr hR hK dX6_copyRule_18 fX6_19 (by unfold yV; omega) (fun _ _ => rfl) (by decide) (fun _ _ => rfl) ?_
  refine mJ_iload_n hK dX6_copyRule_21 rfl ?_
  refine xJ_iald (t + 1) hR hK dX6_copyRule_22 (by unfold yV; omega) (fun _ _ => rfl) rfl (by omega) (by decide) ?_
  refine xJ_iast t hR hK dX6_copyRule_23 (by unfold yV; omega) (fun _ _ => rfl) rfl (by omega) (by decide) (fun h hR => ?_)
  refine mJ_aload_n hK dX6_copyRule_24 rfl ?_
  refine xJ_getr hR hK dX6_copyRule_25 fX6_34 (by unfold yV; omega) (fun _ _ => rfl) (by decide) (fun _ _ => rfl) ?_
  refine mJ_iload_n hK dX6_copyRule_28 rfl ?_
  refine mJ_aload_n hK dX6_copyRule_29 rfl ?_
  refine xJ_getr hR hK dX6_copyRule_30 fX6_34 (by unfold yV; omega) (fun _ _ => rfl) (by decide) (fun _ _ => rfl) ?_
  refine mJ_iload_n hK dX6_copyRule_33 rfl ?_
  refine xJ_iald (t + 1) hR hK dX6_copyRule_34 (by unfold yV; omega) (fun _ _ => rfl) rfl (by omega) (by decide) ?_
  refine xJ_iast t hR hK dX6_copyRule_35 (by unfold yV; omega) (fun _ _ => rfl) rfl (by omega) (by decide) (fun h hR => ?_)
  refine mJ_iconst (v := nI 0) hK dX6_copyRule_36 (by decide) ?_
  refine mJ_istore_n hK dX6_copyRule_37 (by decide) rfl ?_
  have hR : xR yV ad h0 (mC1 F t) W pm h := hR
  refine lp_X6_copyRule_1 hK (t := t) ht ?_ 4 0 _ (by omega) (by omega) (xR_ext hR (by rw [cpT_0, fr_self]))
  intro h hR
  have hR : xR yV ad h0 (mC2 F t) W pm h := hR
  refine mJ_iconst (v := nI 0) hK dX6_copyRule_69 (by decide) ?_
  refine mJ_istore_n hK dX6_copyRule_70 (by decide) rfl ?_
  refine lp_X6_copyRule_2 hK (t := t) ht ?_ 5 0 _ (by omega) (by omega) (xR_ext hR (by rw [cpT_0, fr_self, cpT_0, fr_self]))
  intro h hR
  have hR : xR yV ad h0 (mC3 F t) W pm h := hR
  refine mJ_iconst (v := nI 0) hK dX6_copyRule_122 (by decide) ?_
  refine mJ_istore_n hK dX6_copyRule_123 (by decide) rfl ?_
  refine lp_X6_copyRule_3 hK (t := t) ht ?_ 13 0 _ (by omega) (by omega) (xR_ext hR (by rw [cpT_0, fr_self, cpT_0, fr_self]))
  intro h hR
  have hR : xR yV ad h0 (mCr F t) W pm h := hR
  refine mJ_vret hK dX6_copyRule_180 rfl hZ (by decide) (by decide) ?_
  exact ⟨rfl, hR⟩

def shS (d : Nat → Int32) (s b e : Nat) : Nat → Int32 := fun j => if b ≤ j ∧ j < e then d (j + s) else d j
theorem shS_0 {d : Nat → Int32} {s b : Nat} : shS d s b b = d := by
  funext j
  unfold shS
  rw [if_neg (by omega)]
theorem shS_3 {d : Nat → Int32} {i e : Nat} (h : i ≤ e) : cpT (shS d 3 (3 * i) (3 * e)) (3 * e) (3 * (e + 1)) 3 = shS d 3 (3 * i) (3 * (e + 1)) := by
  funext j
  unfold cpT shS
  by_cases h1 : 3 * e ≤ j ∧ j < 3 * e + 3
  · rw [if_pos h1, if_neg (by omega), if_pos (by omega)]
    congr 1
    omega
  · rw [if_neg h1]
    by_cases h2 : 3 * i ≤ j ∧ j < 3 * e
    · rw [if_pos h2, if_pos (by omega)]
    · rw [if_neg h2, if_neg (by omega)]
theorem shS_4 {d : Nat → Int32} {i e : Nat} (h : i ≤ e) : cpT (shS d 4 (4 * i) (4 * e)) (4 * e) (4 * (e + 1)) 4 = shS d 4 (4 * i) (4 * (e + 1)) := by
  funext j
  unfold cpT shS
  by_cases h1 : 4 * e ≤ j ∧ j < 4 * e + 4
  · rw [if_pos h1, if_neg (by omega), if_pos (by omega)]
    congr 1
    omega
  · rw [if_neg h1]
    by_cases h2 : 4 * i ≤ j ∧ j < 4 * e
    · rw [if_pos h2, if_pos (by omega)]
    · rw [if_neg h2, if_neg (by omega)]
theorem shS_12 {d : Nat → Int32} {i e : Nat} (h : i ≤ e) : cpT (shS d 12 (12 * i) (12 * e)) (12 * e) (12 * (e + 1)) 12 = shS d 12 (12 * i) (12 * (e + 1)) := by
  funext j
  unfold cpT shS
  by_cases h1 : 12 * e ≤ j ∧ j < 12 * e + 12
  · rw [if_pos h1, if_neg (by omega), if_pos (by omega)]
    congr 1
    omega
  · rw [if_neg h1]
    by_cases h2 : 12 * i ≤ j ∧ j < 12 * e
    · rw [if_pos h2, if_pos (by omega)]
    · rw [if_neg h2, if_neg (by omega)]
def mRw (F : xFm) (i e : Nat) : xFm := fr (fr (fr (fr (fr (fr (fr (fr (F) 34 0 0 (sh (F 34 0 0) i e)) 36 0 0 (sh (F 36 0 0) i e)) 41 0 0 (sh (F 41 0 0) i e)) 35 0 0 (shS (F 35 0 0) 3 (3 * i) (3 * e))) 37 0 0 (shS (F 37 0 0) 4 (4 * i) (4 * e))) 38 0 0 (shS (F 38 0 0) 4 (4 * i) (4 * e))) 39 0 0 (shS (F 39 0 0) 12 (12 * i) (12 * e))) 40 0 0 (shS (F 40 0 0) 12 (12 * i) (12 * e))
theorem mRw_0 {F : xFm} {i : Nat} : mRw F i i = F := by
  unfold mRw
  rw [sh_0, fr_self, sh_0, fr_self, sh_0, fr_self, shS_0, fr_self, shS_0, fr_self, shS_0, fr_self, shS_0, fr_self, shS_0, fr_self]
theorem mRw_s {F : xFm} {i e : Nat} (h : i ≤ e) : mCr (mRw F i e) e = mRw F i (e + 1) := by
  funext k a b
  by_cases h34 : k = 34 ∧ a = 0 ∧ b = 0
  · obtain ⟨rfl, rfl, rfl⟩ := h34
    exact sh_step h
  · skip
    by_cases h36 : k = 36 ∧ a = 0 ∧ b = 0
    · obtain ⟨rfl, rfl, rfl⟩ := h36
      exact sh_step h
    · skip
      by_cases h41 : k = 41 ∧ a = 0 ∧ b = 0
      · obtain ⟨rfl, rfl, rfl⟩ := h41
        exact sh_step h
      · skip
        by_cases h35 : k = 35 ∧ a = 0 ∧ b = 0
        · obtain ⟨rfl, rfl, rfl⟩ := h35
          exact shS_3 h
        · skip
          by_cases h37 : k = 37 ∧ a = 0 ∧ b = 0
          · obtain ⟨rfl, rfl, rfl⟩ := h37
            exact shS_4 h
          · skip
            by_cases h38 : k = 38 ∧ a = 0 ∧ b = 0
            · obtain ⟨rfl, rfl, rfl⟩ := h38
              exact shS_4 h
            · skip
              by_cases h39 : k = 39 ∧ a = 0 ∧ b = 0
              · obtain ⟨rfl, rfl, rfl⟩ := h39
                exact shS_12 h
              · skip
                by_cases h40 : k = 40 ∧ a = 0 ∧ b = 0
                · obtain ⟨rfl, rfl, rfl⟩ := h40
                  exact shS_12 h
                · skip
                  unfold mCr mC3 mC2 mC1 mRw
                  simp only [fr_n h40, fr_n h39, fr_n h38, fr_n h37, fr_n h35, fr_n h41, fr_n h36, fr_n h34]
set_option maxRecDepth 100000 in
set_option maxHeartbeats 4000000 in
theorem lp_X6_removeRule {K : mK} (hK : mCx K mX6_removeRule) {ad : xAd} {h0 : mH} {F : xFm} {W : xWm} {pm : Nat → Nat} {rn : Nat} (hrn8 : rn ≤ 8) (hr1 : F 30 0 0 3 = nI (rn - 1)) {i : Nat} (hi : i < rn) (hkk : ∀ h' : mH, xR yV ad h0 (mRw F i (rn - 1)) W pm h' → mJ K 0 0 60 [some (.ref (ad 30 0 0)), some (.int (nI i)), some (.int (nI (rn - 1)))] [] h') : ∀ (fu : Nat) (e : Nat) (h : mH), rn - 1 - e < fu → (e ≤ rn - 1) → (i ≤ e) → (xR yV ad h0 (mRw F i e) W pm h) → mJ K 0 0 38 [some (.ref (ad 30 0 0)), some (.int (nI i)), some (.int (nI e))] [] h := by
  intro fu
  induction fu with
  | zero =>
    intro e h hm0
    exact absurd hm0 (by omega)
  | succ fu ih =>
    intro e h hm0 he hie hR
    refine mJ_iload_n hK dX6_removeRule_38 rfl ?_
    refine mJ_aload_n hK dX6_removeRule_39 rfl ?_
    refine xJ_getx (nI (rn - 1)) hR hK dX6_removeRule_40 fX6_188 (by unfold yV; omega) (fun _ _ => rfl) (by decide) rfl (by show F 30 0 0 3 = nI (rn - 1); exact hr1) ?_
    refine mJ_nge (tgt := 60) hK dX6_removeRule_43 (by decide) (by omega) (by omega) (fun c_43 => ?_) (fun c_43 => ?_)
    · have : e = rn - 1 := by omega
      subst this
      exact hkk _ hR
    · refine mJ_aload_n hK dX6_removeRule_46 rfl ?_
      refine mJ_iload_n hK dX6_removeRule_47 rfl ?_
      refine mJ_iload_n hK dX6_removeRule_48 rfl ?_
      refine mJ_iconst (v := nI 1) hK dX6_removeRule_49 (by decide) ?_
      refine mJ_iaddN hK dX6_removeRule_50 ?_
      refine mJ_cVv hK dX6_removeRule_51 lX6_197 (by unfold mFit; decide) (by decide) (k_X6_copyRule hR (t := e) (by omega)) rfl rfl (Nat.le_of_ble_eq_true rfl) (hR.1 _ _ _ (by unfold yV; omega)) ⟨_, _, rfl⟩ (fun h hR => ?_)
      refine mJ_iincN hK dX6_removeRule_54 rfl rfl (by decide) rfl ?_
      refine mJ_goto (tgt := 38) hK dX6_removeRule_57 (by decide) ?_
      exact ih (e + 1) _ (by omega) (by omega) (by omega) (xR_ext hR (mRw_s hie))

def mR0 (F : xFm) (rn : Nat) : xFm := fr F 30 0 0 (upd (upd (F 30 0 0) 0 (nI 0)) 3 (nI (rn - 1)))
def mRe (F : xFm) (i rn : Nat) : xFm := fr (mRw (mR0 F rn) i (rn - 1)) 30 0 0 (upd (upd (mR0 F rn 30 0 0) 12 (if F 30 0 0 12 < nI i then F 30 0 0 12 else F 30 0 0 12 - nI 1)) 39 (nI 0))
set_option maxRecDepth 100000 in
set_option maxHeartbeats 4000000 in
theorem k_X6_removeRule {l : Launch} {D : va_G} {aC : Nat → ClassId} {ad : xAd} {h0 h : mH} {F : xFm} {W : xWm} {pm : Nat → Nat} (hR : xR yV ad h0 F W pm h) {rn : Nat} (hrn : F 30 0 0 3 = nI rn) (hrn8 : rn ≤ 8) {i : Nat} (hi : i < rn) : mCon l D aC mX6_removeRule [.ref (ad 30 0 0), .int (nI i)] h (mRi (nI (rn - 1)) (fun h' => xR yV ad h0 (mRe F i rn) W pm h')) := by
  refine mCon.of [some (.ref (ad 30 0 0)), some (.int (nI i)), none] (by decide +kernel) rfl (Nat.le_of_ble_eq_true rfl) ?_
  intro K el eD eC hK hZ
  subst el eD eC
  refine mJ_aload_n hK dX6_removeRule_0 rfl ?_
  refine mJ_aload_n hK dX6_removeRule_1 rfl ?_
  refine mJ_iload_n hK dX6_removeRule_2 rfl ?_
  refine mJ_cVi hK dX6_removeRule_3 lX6_194 (by unfold mFit; decide) (by decide) (k_X6_isRule hR hrn hrn8 _) rfl rfl (Nat.le_of_ble_eq_true rfl) (hR.1 _ _ _ (by unfold yV; omega)) ⟨_, _, rfl⟩ (fun h e9 => ?_)
  subst e9
  refine mJ_ifb_eq (tgt := 13) hK dX6_removeRule_6 (by decide) (fun c_6 => ?_) (fun c_6 => ?_)
  · exact (c_6 ⟨nI_pos' (by omega), nI_lt hi (by omega)⟩).elim
  · refine mJ_iconst (v := nI 0) hK dX6_removeRule_9 (by decide) ?_
    refine mJ_goto (tgt := 14) hK dX6_removeRule_10 (by decide) ?_
    refine xJ_puti hR hK dX6_removeRule_14 fX6_117 sX6_0 rfl rfl (by unfold yV; omega) (fun _ _ => rfl) (by decide) rfl (fun h hR => ?_)
    refine mJ_aload_n hK dX6_removeRule_17 rfl ?_
    refine xJ_getx (nI 0) hR hK dX6_removeRule_18 fX6_117 (by unfold yV; omega) (fun _ _ => rfl) (by decide) rfl (by simp [fr, upd]) ?_
    refine mJ_nif_le (tgt := 26) hK dX6_removeRule_21 (by decide) (by omega) (fun c_21 => ?_) (fun c_21 => ?_)
    · refine mJ_aload_n hK dX6_removeRule_26 rfl ?_
      refine mJ_dup hK dX6_removeRule_27 rfl ?_
      refine xJ_getx (nI rn) hR hK dX6_removeRule_28 fX6_188 (by unfold yV; omega) (fun _ _ => rfl) (by decide) rfl (by first | exact hrn | (simp [fr, upd]; exact hrn) | (simp [fr, upd, tS]; exact hrn)) ?_
      refine mJ_iconst (v := nI 1) hK dX6_removeRule_31 (by decide) ?_
      refine mJ_isubN hK dX6_removeRule_32 (by omega) ?_
      refine xJ_puti hR hK dX6_removeRule_33 fX6_188 sX6_3 rfl rfl (by unfold yV; omega) (fun _ _ => rfl) (by decide) rfl (fun h hR => ?_)
      refine mJ_iload_n hK dX6_removeRule_36 rfl ?_
      refine mJ_istore_n hK dX6_removeRule_37 (by decide) rfl ?_
      have hR : xR yV ad h0 (mR0 F rn) W pm h := xR_ext hR (by simp only [fr_fr]; rfl)
      refine lp_X6_removeRule hK hrn8 (F := mR0 F rn) (by simp [mR0, fr, upd]) hi ?_ (rn + 1) i _ (by omega) (by omega) (by omega) (xR_ext hR mRw_0.symm)
      intro h hR
      refine mJ_aload_n hK dX6_removeRule_60 rfl ?_
      refine mJ_aload_n hK dX6_removeRule_61 rfl ?_
      refine xJ_geti hR hK dX6_removeRule_62 fX6_37 (by unfold yV; omega) (fun _ _ => rfl) (by decide) rfl ?_
      refine mJ_iload_n hK dX6_removeRule_65 rfl ?_
      refine mJ_icmp_lt (tgt := 78) hK dX6_removeRule_66 (by decide) (fun c_66 => ?_) (fun c_66 => ?_)
      · refine mJ_aload_n hK dX6_removeRule_78 rfl ?_
        refine xJ_geti hR hK dX6_removeRule_79 fX6_37 (by unfold yV; omega) (fun _ _ => rfl) (by decide) rfl ?_
        refine xJ_puti hR hK dX6_removeRule_82 fX6_37 sX6_12 rfl rfl (by unfold yV; omega) (fun _ _ => rfl) (by decide) rfl (fun h hR => ?_)
        refine mJ_aload_n hK dX6_removeRule_85 rfl ?_
        refine mJ_iconst (v := nI 0) hK dX6_removeRule_86 (by decide) ?_
        refine xJ_puti hR hK dX6_removeRule_87 fX6_191 sX6_39 (by decide) (by decide) (by unfold yV; omega) (fun _ _ => rfl) (by decide) rfl (fun h hR => ?_)
        refine mJ_aload_n hK dX6_removeRule_90 rfl ?_
        refine xJ_getx (nI (rn - 1)) hR hK dX6_removeRule_91 fX6_188 (by unfold yV; omega) (fun _ _ => rfl) (by decide) rfl (by simp [fr, upd, mRw, mR0]) ?_
        refine mJ_iret hK dX6_removeRule_94 rfl hZ (by decide) (by decide) ?_
        refine ⟨rfl, xR_ext hR ?_⟩
        simp only [fr_fr]
        unfold mRe
        first | (rw [if_pos (show F 30 0 0 12 < nI i from c_66)]; rfl) | (rw [if_neg (show ¬ F 30 0 0 12 < nI i from c_66)]; rfl)
      · refine mJ_aload_n hK dX6_removeRule_69 rfl ?_
        refine xJ_geti hR hK dX6_removeRule_70 fX6_37 (by unfold yV; omega) (fun _ _ => rfl) (by decide) rfl ?_
        refine mJ_iconst (v := nI 1) hK dX6_removeRule_73 (by decide) ?_
        refine mJ_isub hK dX6_removeRule_74 ?_
        refine mJ_goto (tgt := 82) hK dX6_removeRule_75 (by decide) ?_
        refine xJ_puti hR hK dX6_removeRule_82 fX6_37 sX6_12 rfl rfl (by unfold yV; omega) (fun _ _ => rfl) (by decide) rfl (fun h hR => ?_)
        refine mJ_aload_n hK dX6_removeRule_85 rfl ?_
        refine mJ_iconst (v := nI 0) hK dX6_removeRule_86 (by decide) ?_
        refine xJ_puti hR hK dX6_removeRule_87 fX6_191 sX6_39 (by decide) (by decide) (by unfold yV; omega) (fun _ _ => rfl) (by decide) rfl (fun h hR => ?_)
        refine mJ_aload_n hK dX6_removeRule_90 rfl ?_
        refine xJ_getx (nI (rn - 1)) hR hK dX6_removeRule_91 fX6_188 (by unfold yV; omega) (fun _ _ => rfl) (by decide) rfl (by simp [fr, upd, mRw, mR0]) ?_
        refine mJ_iret hK dX6_removeRule_94 rfl hZ (by decide) (by decide) ?_
        refine ⟨rfl, xR_ext hR ?_⟩
        simp only [fr_fr]
        unfold mRe
        first | (rw [if_pos (show F 30 0 0 12 < nI i from c_66)]; rfl) | (rw [if_neg (show ¬ F 30 0 0 12 < nI i from c_66)]; rfl)
    · exact absurd c_21 (by omega)

set_option maxRecDepth 100000 in
set_option maxHeartbeats 4000000 in
theorem k_X6_removeRule_x {l : Launch} {D : va_G} {aC : Nat → ClassId} {ad : xAd} {h0 h : mH} {F : xFm} {W : xWm} {pm : Nat → Nat} (hR : xR yV ad h0 F W pm h) {rn : Nat} (hrn : F 30 0 0 3 = nI rn) (hrn8 : rn ≤ 8) {x : Int32} (hx : ¬ (0 ≤ x ∧ x < nI rn)) : mCon l D aC mX6_removeRule [.ref (ad 30 0 0), .int x] h (mRi (nI 0) (fun h' => xR yV ad h0 (tS F (nI 1)) W pm h')) := by
  refine mCon.of [some (.ref (ad 30 0 0)), some (.int x), none] (by decide +kernel) rfl (Nat.le_of_ble_eq_true rfl) ?_
  intro K el eD eC hK hZ
  subst el eD eC
  refine mJ_aload_n hK dX6_removeRule_0 rfl ?_
  refine mJ_aload_n hK dX6_removeRule_1 rfl ?_
  refine mJ_iload_n hK dX6_removeRule_2 rfl ?_
  refine mJ_cVi hK dX6_removeRule_3 lX6_194 (by unfold mFit; decide) (by decide) (k_X6_isRule hR hrn hrn8 _) rfl rfl (Nat.le_of_ble_eq_true rfl) (hR.1 _ _ _ (by unfold yV; omega)) ⟨_, _, rfl⟩ (fun h e9 => ?_)
  subst e9
  refine mJ_ifb_eq (tgt := 13) hK dX6_removeRule_6 (by decide) (fun c_6 => ?_) (fun c_6 => ?_)
  · refine mJ_iconst (v := nI 1) hK dX6_removeRule_13 (by decide) ?_
    refine xJ_puti hR hK dX6_removeRule_14 fX6_117 sX6_0 rfl rfl (by unfold yV; omega) (fun _ _ => rfl) (by decide) rfl (fun h hR => ?_)
    refine mJ_aload_n hK dX6_removeRule_17 rfl ?_
    refine xJ_getx (nI 1) hR hK dX6_removeRule_18 fX6_117 (by unfold yV; omega) (fun _ _ => rfl) (by decide) rfl (by simp [fr, upd]) ?_
    refine mJ_nif_le (tgt := 26) hK dX6_removeRule_21 (by decide) (by omega) (fun c_21 => ?_) (fun c_21 => ?_)
    · exact absurd c_21 (by omega)
    · refine mJ_iconst (v := nI 0) hK dX6_removeRule_24 (by decide) ?_
      refine mJ_iret hK dX6_removeRule_25 rfl hZ (by decide) (by decide) ?_
      exact ⟨rfl, hR⟩
  · exact absurd c_6 hx
