def mSh (G : xFm) (b e : Nat) : xFm := fr (fr (fr G 45 0 0 (sh (G 45 0 0) b e)) 46 0 0 (sh (G 46 0 0) b e)) 47 0 0 (sh (G 47 0 0) b e)
theorem mSh_step {G : xFm} {b e : Nat} (h : b ≤ e) : fr (fr (fr (mSh G b e) 45 0 0 (upd (mSh G b e 45 0 0) e (mSh G b e 45 0 0 (e + 1)))) 46 0 0 (upd (mSh G b e 46 0 0) e (mSh G b e 46 0 0 (e + 1)))) 47 0 0 (upd (mSh G b e 47 0 0) e (mSh G b e 47 0 0 (e + 1))) = mSh G b (e + 1) := by
  funext k i j
  by_cases h5 : k = 45 ∧ i = 0 ∧ j = 0
  · obtain ⟨rfl, rfl, rfl⟩ := h5
    exact sh_step h
  · by_cases h6 : k = 46 ∧ i = 0 ∧ j = 0
    · obtain ⟨rfl, rfl, rfl⟩ := h6
      exact sh_step h
    · by_cases h7 : k = 47 ∧ i = 0 ∧ j = 0
      · obtain ⟨rfl, rfl, rfl⟩ := h7
        exact sh_step h
      · unfold mSh
        rw [fr_n h7, fr_n h6, fr_n h5, fr_n h7, fr_n h6, fr_n h5, fr_n h7, fr_n h6, fr_n h5]
def mTb (F : xFm) (c i n : Nat) : xFm := fr (fr (fr (fr F 67 0 0 (upd (F 67 0 0) c (F 45 0 0 (8 * c + i)))) 68 0 0 (upd (F 68 0 0) c (F 47 0 0 (8 * c + i)))) 52 0 0 (upd (F 52 0 0) c (F 52 0 0 c + nI 1))) 44 0 0 (upd (F 44 0 0) c (nI (n - 1)))
def mTk (F : xFm) (c i n : Nat) : xFm := mSh (mTb F c i n) (8 * c + i) (8 * c + (n - 1))
def mTw (F : xFm) (W : xWm) (c i : Nat) : xWm := fr W 53 0 0 (vp_updL (W 53 0 0) c (W 53 0 0 c + (F 30 0 0 18 - F 46 0 0 (8 * c + i)).toInt64))
set_option maxRecDepth 100000 in
set_option maxHeartbeats 4000000 in
theorem lp_X6_consume {K : mK} (hK : mCx K mX6_consume) {ad : xAd} {h0 : mH} {G : xFm} {W : xWm} {pm : Nat → Nat} {c n i : Nat} (hc : c < 8) (hn8 : n ≤ 8) (hi : i < n) (hn1 : G 44 0 0 c = nI (n - 1)) {P : mH → Prop} (hP : ∀ {h'}, xR yV ad h0 (mSh G (8 * c + i) (8 * c + (n - 1))) W pm h' → P h') (hZ : mRt K mX6_consume (mRv P)) : ∀ (fu : Nat) (k : Nat) (u : Option Value) (h : mH), n - 1 - k < fu → (i ≤ k) → (k ≤ n - 1) → (xR yV ad h0 (mSh G (8 * c + i) (8 * c + k)) W pm h) → mJ K 0 0 84 [some (.ref (ad 30 0 0)), some (.int (nI c)), some (.int (nI (8 * c + i))), some (.int (nI k)), u] [] h := by
  intro fu
  induction fu with
  | zero =>
    intro k u h hm0
    exact absurd hm0 (by omega)
  | succ fu ih =>
    intro k u h hm0 hk1 hk2 hR
    refine mJ_iload_n hK dX6_consume_84 rfl ?_
    refine mJ_aload_n hK dX6_consume_85 rfl ?_
    refine xJ_getr hR hK dX6_consume_86 fX6_41 (by unfold yV; omega) (fun _ _ => rfl) (by decide) (fun _ _ => rfl) ?_
    refine mJ_iload_n hK dX6_consume_89 rfl ?_
    refine xJ_ialdx c (nI (n - 1)) hR hK dX6_consume_90 (by unfold yV; omega) (fun _ _ => rfl) rfl (by omega) (by decide) (hn1) ?_
    refine mJ_nge (tgt := 156) hK dX6_consume_91 (by decide) (by omega) (by omega) (fun c_91 => ?_) (fun c_91 => ?_)
    · refine mJ_vret hK dX6_consume_156 rfl hZ (by decide) (by decide) ?_
      have : k = n - 1 := by omega
      subst this
      exact ⟨rfl, hP hR⟩
    · refine mJ_bipush (v := nI 8) hK dX6_consume_94 (by decide) ?_
      refine mJ_iload_n hK dX6_consume_96 rfl ?_
      refine mJ_imulN hK dX6_consume_97 ?_
      refine mJ_iload_n hK dX6_consume_98 rfl ?_
      refine mJ_iaddN hK dX6_consume_99 ?_
      refine mJ_istore hK dX6_consume_100 (by decide) rfl ?_
      refine mJ_aload_n hK dX6_consume_102 rfl ?_
      refine xJ_getr hR hK dX6_consume_103 fX6_44 (by unfold yV; omega) (fun _ _ => rfl) (by decide) (fun _ _ => rfl) ?_
      refine mJ_iload hK dX6_consume_106 rfl ?_
      refine mJ_aload_n hK dX6_consume_108 rfl ?_
      refine xJ_getr hR hK dX6_consume_109 fX6_44 (by unfold yV; omega) (fun _ _ => rfl) (by decide) (fun _ _ => rfl) ?_
      refine mJ_iload hK dX6_consume_112 rfl ?_
      refine mJ_iconst (v := nI 1) hK dX6_consume_114 (by decide) ?_
      refine mJ_iaddN hK dX6_consume_115 ?_
      refine xJ_iald (((8 * c) + k) + 1) hR hK dX6_consume_116 (by unfold yV; omega) (fun _ _ => rfl) rfl (by omega) (by decide) ?_
      refine xJ_iast ((8 * c) + k) hR hK dX6_consume_117 (by unfold yV; omega) (fun _ _ => rfl) rfl (by omega) (by decide) (fun h hR => ?_)
      refine mJ_aload_n hK dX6_consume_118 rfl ?_
      refine xJ_getr hR hK dX6_consume_119 fX6_47 (by unfold yV; omega) (fun _ _ => rfl) (by decide) (fun _ _ => rfl) ?_
      refine mJ_iload hK dX6_consume_122 rfl ?_
      refine mJ_aload_n hK dX6_consume_124 rfl ?_
      refine xJ_getr hR hK dX6_consume_125 fX6_47 (by unfold yV; omega) (fun _ _ => rfl) (by decide) (fun _ _ => rfl) ?_
      refine mJ_iload hK dX6_consume_128 rfl ?_
      refine mJ_iconst (v := nI 1) hK dX6_consume_130 (by decide) ?_
      refine mJ_iaddN hK dX6_consume_131 ?_
      refine xJ_iald (((8 * c) + k) + 1) hR hK dX6_consume_132 (by unfold yV; omega) (fun _ _ => rfl) rfl (by omega) (by decide) ?_
      refine xJ_iast ((8 * c) + k) hR hK dX6_consume_133 (by unfold yV; omega) (fun _ _ => rfl) rfl (by omega) (by decide) (fun h hR => ?_)
      refine mJ_aload_n hK dX6_consume_134 rfl ?_
      refine xJ_getr hR hK dX6_consume_135 fX6_50 (by unfold yV; omega) (fun _ _ => rfl) (by decide) (fun _ _ => rfl) ?_
      refine mJ_iload hK dX6_consume_138 rfl ?_
      refine mJ_aload_n hK dX6_consume_140 rfl ?_
      refine xJ_getr hR hK dX6_consume_141 fX6_50 (by unfold yV; omega) (fun _ _ => rfl) (by decide) (fun _ _ => rfl) ?_
      refine mJ_iload hK dX6_consume_144 rfl ?_
      refine mJ_iconst (v := nI 1) hK dX6_consume_146 (by decide) ?_
      refine mJ_iaddN hK dX6_consume_147 ?_
      refine xJ_iald (((8 * c) + k) + 1) hR hK dX6_consume_148 (by unfold yV; omega) (fun _ _ => rfl) rfl (by omega) (by decide) ?_
      refine xJ_iast ((8 * c) + k) hR hK dX6_consume_149 (by unfold yV; omega) (fun _ _ => rfl) rfl (by omega) (by decide) (fun h hR => ?_)
      refine mJ_iincN hK dX6_consume_150 rfl rfl (by decide) rfl ?_
      refine mJ_goto (tgt := 84) hK dX6_consume_153 (by decide) ?_
      exact ih (k + 1) _ _ (by omega) (by omega) (by omega) (xR_ext hR (mSh_step (by omega)))

set_option maxRecDepth 100000 in
set_option maxHeartbeats 4000000 in
theorem k_X6_consume {l : Launch} {D : va_G} {aC : Nat → ClassId} {ad : xAd} {h0 h : mH} {F : xFm} {W : xWm} {pm : Nat → Nat} (hR : xR yV ad h0 F W pm h) {c n i : Nat} (hc : c < 8) (hn8 : n ≤ 8) (hi : i < n) (hn : F 44 0 0 c = nI n) (hch : F 66 0 0 c = nI i) : mCon l D aC mX6_consume [.ref (ad 30 0 0), .int (nI c)] h (mRv (fun h' => xR yV ad h0 (mTk F c i n) (mTw F W c i) pm h')) := by
  refine mCon.of [some (.ref (ad 30 0 0)), some (.int (nI c)), none, none, none] (by decide +kernel) rfl (Nat.le_of_ble_eq_true rfl) ?_
  intro K el eD eC hK hZ
  subst el eD eC
  refine mJ_bipush (v := nI 8) hK dX6_consume_0 (by decide) ?_
  refine mJ_iload_n hK dX6_consume_2 rfl ?_
  refine mJ_imulN hK dX6_consume_3 ?_
  refine mJ_aload_n hK dX6_consume_4 rfl ?_
  refine xJ_getr hR hK dX6_consume_5 fX6_81 (by unfold yV; omega) (fun _ _ => rfl) (by decide) (fun _ _ => rfl) ?_
  refine mJ_iload_n hK dX6_consume_8 rfl ?_
  refine xJ_ialdx c (nI i) hR hK dX6_consume_9 (by unfold yV; omega) (fun _ _ => rfl) rfl (by omega) (by decide) (by first | exact hch | (simp [fr, upd]; exact hch) | (simp [fr, upd, tS]; exact hch)) ?_
  refine mJ_iaddN hK dX6_consume_10 ?_
  refine mJ_istore_n hK dX6_consume_11 (by decide) rfl ?_
  refine mJ_aload_n hK dX6_consume_12 rfl ?_
  refine xJ_getr hR hK dX6_consume_13 fX6_84 (by unfold yV; omega) (fun _ _ => rfl) (by decide) (fun _ _ => rfl) ?_
  refine mJ_iload_n hK dX6_consume_16 rfl ?_
  refine mJ_aload_n hK dX6_consume_17 rfl ?_
  refine xJ_getr hR hK dX6_consume_18 fX6_44 (by unfold yV; omega) (fun _ _ => rfl) (by decide) (fun _ _ => rfl) ?_
  refine mJ_iload_n hK dX6_consume_21 rfl ?_
  refine xJ_iald ((8 * c) + i) hR hK dX6_consume_22 (by unfold yV; omega) (fun _ _ => rfl) rfl (by omega) (by decide) ?_
  refine xJ_iast c hR hK dX6_consume_23 (by unfold yV; omega) (fun _ _ => rfl) rfl (by omega) (by decide) (fun h hR => ?_)
  refine mJ_aload_n hK dX6_consume_24 rfl ?_
  refine xJ_getr hR hK dX6_consume_25 fX6_87 (by unfold yV; omega) (fun _ _ => rfl) (by decide) (fun _ _ => rfl) ?_
  refine mJ_iload_n hK dX6_consume_28 rfl ?_
  refine mJ_aload_n hK dX6_consume_29 rfl ?_
  refine xJ_getr hR hK dX6_consume_30 fX6_50 (by unfold yV; omega) (fun _ _ => rfl) (by decide) (fun _ _ => rfl) ?_
  refine mJ_iload_n hK dX6_consume_33 rfl ?_
  refine xJ_iald ((8 * c) + i) hR hK dX6_consume_34 (by unfold yV; omega) (fun _ _ => rfl) rfl (by omega) (by decide) ?_
  refine xJ_iast c hR hK dX6_consume_35 (by unfold yV; omega) (fun _ _ => rfl) rfl (by omega) (by decide) (fun h hR => ?_)
  refine mJ_aload_n hK dX6_consume_36 rfl ?_
  refine xJ_getr hR hK dX6_consume_37 fX6_59 (by unfold yV; omega) (fun _ _ => rfl) (by decide) (fun _ _ => rfl) ?_
  refine mJ_iload_n hK dX6_consume_40 rfl ?_
  refine mJ_dup2 hK dX6_consume_41 rfl rfl ?_
  refine xJ_iald c hR hK dX6_consume_42 (by unfold yV; omega) (fun _ _ => rfl) rfl (by omega) (by decide) ?_
  refine mJ_iconst (v := nI 1) hK dX6_consume_43 (by decide) ?_
  refine mJ_iadd hK dX6_consume_44 ?_
  refine xJ_iast c hR hK dX6_consume_45 (by unfold yV; omega) (fun _ _ => rfl) rfl (by omega) (by decide) (fun h hR => ?_)
  refine mJ_aload_n hK dX6_consume_46 rfl ?_
  refine xJ_getr hR hK dX6_consume_47 fX6_62 (by unfold yV; omega) (fun _ _ => rfl) (by decide) (fun _ _ => rfl) ?_
  refine mJ_iload_n hK dX6_consume_50 rfl ?_
  refine mJ_dup2 hK dX6_consume_51 rfl rfl ?_
  refine xJ_lald c hR hK dX6_consume_52 (by unfold yV; omega) (fun _ _ => rfl) rfl (by omega) (by decide) ?_
  refine mJ_aload_n hK dX6_consume_53 rfl ?_
  refine xJ_geti hR hK dX6_consume_54 fX6_204 (by unfold yV; omega) (fun _ _ => rfl) (by decide) rfl ?_
  refine mJ_aload_n hK dX6_consume_57 rfl ?_
  refine xJ_getr hR hK dX6_consume_58 fX6_47 (by unfold yV; omega) (fun _ _ => rfl) (by decide) (fun _ _ => rfl) ?_
  refine mJ_iload_n hK dX6_consume_61 rfl ?_
  refine xJ_iald ((8 * c) + i) hR hK dX6_consume_62 (by unfold yV; omega) (fun _ _ => rfl) rfl (by omega) (by decide) ?_
  refine mJ_isub hK dX6_consume_63 ?_
  refine mJ_i2l hK dX6_consume_64 ?_
  refine mJ_ladd hK dX6_consume_65 ?_
  refine xJ_last c hR hK dX6_consume_66 (by unfold yV; omega) (fun _ _ => rfl) rfl (by omega) (by decide) (fun h hR => ?_)
  refine mJ_aload_n hK dX6_consume_67 rfl ?_
  refine xJ_getr hR hK dX6_consume_68 fX6_41 (by unfold yV; omega) (fun _ _ => rfl) (by decide) (fun _ _ => rfl) ?_
  refine mJ_iload_n hK dX6_consume_71 rfl ?_
  refine mJ_dup2 hK dX6_consume_72 rfl rfl ?_
  refine xJ_ialdx c (nI n) hR hK dX6_consume_73 (by unfold yV; omega) (fun _ _ => rfl) rfl (by omega) (by decide) (by first | exact hn | (simp [fr, upd]; exact hn) | (simp [fr, upd, tS]; exact hn)) ?_
  refine mJ_iconst (v := nI 1) hK dX6_consume_74 (by decide) ?_
  refine mJ_isubN hK dX6_consume_75 (by omega) ?_
  refine xJ_iast c hR hK dX6_consume_76 (by unfold yV; omega) (fun _ _ => rfl) rfl (by omega) (by decide) (fun h hR => ?_)
  refine mJ_aload_n hK dX6_consume_77 rfl ?_
  refine xJ_getr hR hK dX6_consume_78 fX6_81 (by unfold yV; omega) (fun _ _ => rfl) (by decide) (fun _ _ => rfl) ?_
  refine mJ_iload_n hK dX6_consume_81 rfl ?_
  refine xJ_ialdx c (nI i) hR hK dX6_consume_82 (by unfold yV; omega) (fun _ _ => rfl) rfl (by omega) (by decide) (by first | exact hch | (simp [fr, upd]; exact hch) | (simp [fr, upd, tS]; exact hch)) ?_
  refine mJ_istore_n hK dX6_consume_83 (by decide) rfl ?_
  have hR2 : xR yV ad h0 (mSh (mTb F c i n) (8 * c + i) (8 * c + i)) (mTw F W c i) pm h := xR_ext hR (by unfold mSh; rw [sh_0, fr_self, sh_0, fr_self, sh_0, fr_self]; rfl)
  exact lp_X6_consume hK hc hn8 hi (G := mTb F c i n) (by simp [mTb, fr, upd]) (fun z => z) hZ (n + 1) i none _ (by omega) (by omega) (by omega) hR2

def ovM (sg : Nat → Int32) (on : Nat → Nat) (tv : Nat → Int32) (b : Nat) : Nat → Int64
  | 0 => 0
  | k + 1 => if k = 0 then (ovX tv (on (b + k))).toInt64 else if sg (b + k) = nI 43 then ovM sg on tv b k + (ovX tv (on (b + k))).toInt64 else if sg (b + k) = nI 45 then ovM sg on tv b k - (ovX tv (on (b + k))).toInt64 else ovM sg on tv b k * (ovX tv (on (b + k))).toInt64
theorem ovX_t {tv : Nat → Int32} {a : Nat} (h : a < 8) : ovX tv a = tv a := if_pos h
theorem ovX_f {tv : Nat → Int32} {a : Nat} (h : ¬ a < 8) : ovX tv a = nI (a - 8) := if_neg h
theorem lgL_le {x y : Int64} : lg_cmp x y ≤ 0 ↔ ¬ y < x := by
  unfold lg_cmp
  split
  · rename_i h
    exact ⟨fun z => absurd z (by decide), fun z => absurd h z⟩
  · rename_i h1
    refine ⟨fun _ => h1, fun _ => ?_⟩
    split <;> decide
theorem lgL_ge {x y : Int64} : 0 ≤ lg_cmp x y ↔ ¬ x < y := by
  rw [Int64.not_lt]
  unfold lg_cmp
  split
  · rename_i h
    exact ⟨fun _ => Int64.le_of_lt h, fun _ => by decide⟩
  · split
    · rename_i h
      exact ⟨fun _ => by rw [h]; exact Int64.le_refl _, fun _ => by decide⟩
    · rename_i h1 h2
      exact ⟨fun z => absurd z (by decide), fun z => absurd (Int64.lt_of_le_of_ne z (fun e => h2 e.symm)) h1⟩
theorem ovc_hi {x : Int64} (h : ¬ lg_cmp x 9999 ≤ 0) : (9999 : Int64).toInt32 = ovC x := by
  have h1 : (9999 : Int64) < x := Decidable.not_not.mp (fun z => h (lgL_le.mpr z))
  have h2 : ¬ x < 9999 := Int64.not_lt.mpr (Int64.le_of_lt h1)
  unfold ovC
  rw [if_neg h2]
  decide
theorem ovc_lo {x : Int64} (h : ¬ 0 ≤ lg_cmp x (-9999)) : (-9999 : Int64).toInt32 = ovC x := by
  have h1 : x < -9999 := Decidable.not_not.mp (fun z => h (lgL_ge.mpr z))
  have h2 : x < 9999 := Int64.lt_trans h1 (by decide)
  unfold ovC
  rw [if_pos h2, if_pos h1]
theorem ovc_mid {x : Int64} (h : lg_cmp x 9999 ≤ 0) (h2 : 0 ≤ lg_cmp x (-9999)) : x.toInt32 = ovC x := by
  have h1 := lgL_le.mp h
  have h3 := lgL_ge.mp h2
  unfold ovC
  by_cases e : x < 9999
  · rw [if_pos e, if_neg h3]
  · have e2 : x = 9999 := Int64.le_antisymm (Int64.not_lt.mp h1) (Int64.not_lt.mp e)
    rw [if_neg e, e2]
    decide
set_option maxRecDepth 100000 in
set_option maxHeartbeats 4000000 in
theorem lp_X6_computed {K : mK} (hK : mCx K mX6_computed) {ad : xAd} {h0 : mH} {F : xFm} {W : xWm} {pm : Nat → Nat} {r o b k : Nat} (hr : r < 8) (ho : o < 4) (hb : b = 3 * (4 * r + o)) (hk : F 38 0 0 (4 * r + o) = nI k) (hk3 : k ≤ 3) {on : Nat → Nat} (hon : ∀ i, i < k → F 39 0 0 (b + i) = nI (on (b + i)) ∧ on (b + i) < 18) {h9 : mH} (hZ : mRt K mX6_computed (mRi (ovC (ovM (F 40 0 0) on (F 67 0 0) b k)) (fun h' => h' = h9))) : ∀ (fu : Nat) (e : Nat) (u v x y : Option Value) (h : mH), k - e < fu → (e ≤ k) → (h = h9) → (xR yV ad h0 F W pm h) → mJ K 0 0 14 [some (.ref (ad 30 0 0)), some (.int (nI r)), some (.int (nI o)), some (.int (nI b)), some (.long (ovM (F 40 0 0) on (F 67 0 0) b e)), none, some (.int (nI e)), u, v, x, y] [] h := by
  intro fu
  induction fu with
  | zero =>
    intro e u v x y h hm0
    exact absurd hm0 (by omega)
  | succ fu ih =>
    intro e u v x y h hm0 he eh hR
    refine mJ_iload hK dX6_computed_14 rfl ?_
    refine mJ_aload_n hK dX6_computed_16 rfl ?_
    refine xJ_getr hR hK dX6_computed_17 fX6_25 (by unfold yV; omega) (fun _ _ => rfl) (by decide) (fun _ _ => rfl) ?_
    refine mJ_iconst (v := nI 4) hK dX6_computed_20 (by decide) ?_
    refine mJ_iload_n hK dX6_computed_21 rfl ?_
    refine mJ_imulN hK dX6_computed_22 ?_
    refine mJ_iload_n hK dX6_computed_23 rfl ?_
    refine mJ_iaddN hK dX6_computed_24 ?_
    refine xJ_ialdx ((4 * r) + o) (nI k) hR hK dX6_computed_25 (by unfold yV; omega) (fun _ _ => rfl) rfl (by omega) (by decide) (hk) ?_
    refine mJ_nge (tgt := 130) hK dX6_computed_26 (by decide) (by first | omega | (have := (hon e (by omega)).2; omega)) (by first | omega | (have := (hon e (by omega)).2; omega)) (fun c_26 => ?_) (fun c_26 => ?_)
    · refine mJ_lload hK dX6_computed_130 rfl ?_
      refine mJ_ldc2 hK dX6_computed_132 cX6_248 ?_
      refine mJ_lcmp hK dX6_computed_135 ?_
      refine mJ_if_le (tgt := 145) hK dX6_computed_136 (by decide) (fun c_136 => ?_) (fun c_136 => ?_)
      · refine mJ_lload hK dX6_computed_145 rfl ?_
        refine mJ_ldc2 hK dX6_computed_147 cX6_250 ?_
        refine mJ_lcmp hK dX6_computed_150 ?_
        refine mJ_if_ge (tgt := 160) hK dX6_computed_151 (by decide) (fun c_151 => ?_) (fun c_151 => ?_)
        · refine mJ_lload hK dX6_computed_160 rfl ?_
          refine mJ_l2i hK dX6_computed_162 ?_
          refine mJ_iret hK dX6_computed_163 rfl hZ (by decide) (by decide) ?_
          have : e = k := by omega
          subst this
          refine ⟨congrArg (fun z => some (Value.int z)) ?_, eh⟩
          first | exact ovc_hi c_136 | exact ovc_lo c_151 | exact ovc_mid c_136 c_151
        · refine mJ_ldc2 hK dX6_computed_154 cX6_250 ?_
          refine mJ_goto (tgt := 162) hK dX6_computed_157 (by decide) ?_
          refine mJ_l2i hK dX6_computed_162 ?_
          refine mJ_iret hK dX6_computed_163 rfl hZ (by decide) (by decide) ?_
          have : e = k := by omega
          subst this
          refine ⟨congrArg (fun z => some (Value.int z)) ?_, eh⟩
          first | exact ovc_hi c_136 | exact ovc_lo c_151 | exact ovc_mid c_136 c_151
      · refine mJ_ldc2 hK dX6_computed_139 cX6_248 ?_
        refine mJ_goto (tgt := 162) hK dX6_computed_142 (by decide) ?_
        refine mJ_l2i hK dX6_computed_162 ?_
        refine mJ_iret hK dX6_computed_163 rfl hZ (by decide) (by decide) ?_
        have : e = k := by omega
        subst this
        refine ⟨congrArg (fun z => some (Value.int z)) ?_, eh⟩
        first | exact ovc_hi c_136 | exact ovc_lo c_151 | exact ovc_mid c_136 c_151
    · refine mJ_aload_n hK dX6_computed_29 rfl ?_
      refine xJ_getr hR hK dX6_computed_30 fX6_28 (by unfold yV; omega) (fun _ _ => rfl) (by decide) (fun _ _ => rfl) ?_
      refine mJ_iload_n hK dX6_computed_33 rfl ?_
      refine mJ_iload hK dX6_computed_34 rfl ?_
      refine mJ_iaddN hK dX6_computed_36 ?_
      refine xJ_ialdx (b + e) (nI (on (b + e))) hR hK dX6_computed_37 (by unfold yV; omega) (fun _ _ => rfl) rfl (by omega) (by decide) ((hon e (by omega)).1) ?_
      refine mJ_istore hK dX6_computed_38 (by decide) rfl ?_
      refine mJ_iload hK dX6_computed_40 rfl ?_
      refine mJ_bipush (v := nI 8) hK dX6_computed_42 (by decide) ?_
      refine mJ_nge (tgt := 58) hK dX6_computed_44 (by decide) (by first | omega | (have := (hon e (by omega)).2; omega)) (by first | omega | (have := (hon e (by omega)).2; omega)) (fun c_44 => ?_) (fun c_44 => ?_)
      · refine mJ_iload hK dX6_computed_58 rfl ?_
        refine mJ_bipush (v := nI 8) hK dX6_computed_60 (by decide) ?_
        refine mJ_isubN hK dX6_computed_62 (by first | omega | (have := (hon e (by omega)).2; omega)) ?_
        refine mJ_i2l hK dX6_computed_63 ?_
        refine mJ_lstore hK dX6_computed_64 (by decide) rfl ?_
        refine mJ_aload_n hK dX6_computed_66 rfl ?_
        refine xJ_getr hR hK dX6_computed_67 fX6_31 (by unfold yV; omega) (fun _ _ => rfl) (by decide) (fun _ _ => rfl) ?_
        refine mJ_iload_n hK dX6_computed_70 rfl ?_
        refine mJ_iload hK dX6_computed_71 rfl ?_
        refine mJ_iaddN hK dX6_computed_73 ?_
        refine xJ_iald (b + e) hR hK dX6_computed_74 (by unfold yV; omega) (fun _ _ => rfl) rfl (by omega) (by decide) ?_
        refine mJ_istore hK dX6_computed_75 (by decide) rfl ?_
        refine mJ_iload hK dX6_computed_77 rfl ?_
        refine mJ_nif_ne (tgt := 87) hK dX6_computed_79 (by decide) (by first | omega | (have := (hon e (by omega)).2; omega)) (fun c_79 => ?_) (fun c_79 => ?_)
        · refine mJ_iload hK dX6_computed_87 rfl ?_
          refine mJ_bipush (v := nI 43) hK dX6_computed_89 (by decide) ?_
          refine mJ_icmp_ne (tgt := 102) hK dX6_computed_91 (by decide) (fun c_91 => ?_) (fun c_91 => ?_)
          · refine mJ_iload hK dX6_computed_102 rfl ?_
            refine mJ_bipush (v := nI 45) hK dX6_computed_104 (by decide) ?_
            refine mJ_icmp_ne (tgt := 117) hK dX6_computed_106 (by decide) (fun c_106 => ?_) (fun c_106 => ?_)
            · refine mJ_lload hK dX6_computed_117 rfl ?_
              refine mJ_lload hK dX6_computed_119 rfl ?_
              refine mJ_lmul hK dX6_computed_121 ?_
              refine mJ_lstore hK dX6_computed_122 (by decide) rfl ?_
              refine mJ_iincN hK dX6_computed_124 rfl rfl (by decide) rfl ?_
              refine mJ_goto (tgt := 14) hK dX6_computed_127 (by decide) ?_
              first | (refine mJ_L ?_ (ih (e + 1) (some (.int (nI (on (b + e))))) (some (.long (F 67 0 0 (on (b + e))).toInt64)) none (some (.int (F 40 0 0 (b + e)))) _ (by omega) (by omega) eh hR); rw [ovM, ovX_t (by omega), if_neg (by omega), if_neg c_91, if_pos c_106]; try rfl) | (refine mJ_L ?_ (ih (e + 1) (some (.int (nI (on (b + e))))) (some (.long (F 67 0 0 (on (b + e))).toInt64)) none (some (.int (F 40 0 0 (b + e)))) _ (by omega) (by omega) eh hR); rw [ovM, ovX_t (by omega), if_neg (by omega), if_neg c_91, if_neg c_106]; try rfl) | (refine mJ_L ?_ (ih (e + 1) (some (.int (nI (on (b + e))))) (some (.long (nI (on (b + e) - 8)).toInt64)) none (some (.int (F 40 0 0 (b + e)))) _ (by omega) (by omega) eh hR); rw [ovM, ovX_f (by omega), if_neg (by omega), if_neg c_91, if_pos c_106]; try rfl) | (refine mJ_L ?_ (ih (e + 1) (some (.int (nI (on (b + e))))) (some (.long (nI (on (b + e) - 8)).toInt64)) none (some (.int (F 40 0 0 (b + e)))) _ (by omega) (by omega) eh hR); rw [ovM, ovX_f (by omega), if_neg (by omega), if_neg c_91, if_neg c_106]; try rfl)
            · refine mJ_lload hK dX6_computed_109 rfl ?_
              refine mJ_lload hK dX6_computed_111 rfl ?_
              refine mJ_lsub hK dX6_computed_113 ?_
              refine mJ_goto (tgt := 122) hK dX6_computed_114 (by decide) ?_
              refine mJ_lstore hK dX6_computed_122 (by decide) rfl ?_
              refine mJ_iincN hK dX6_computed_124 rfl rfl (by decide) rfl ?_
              refine mJ_goto (tgt := 14) hK dX6_computed_127 (by decide) ?_
              first | (refine mJ_L ?_ (ih (e + 1) (some (.int (nI (on (b + e))))) (some (.long (F 67 0 0 (on (b + e))).toInt64)) none (some (.int (F 40 0 0 (b + e)))) _ (by omega) (by omega) eh hR); rw [ovM, ovX_t (by omega), if_neg (by omega), if_neg c_91, if_pos c_106]; try rfl) | (refine mJ_L ?_ (ih (e + 1) (some (.int (nI (on (b + e))))) (some (.long (F 67 0 0 (on (b + e))).toInt64)) none (some (.int (F 40 0 0 (b + e)))) _ (by omega) (by omega) eh hR); rw [ovM, ovX_t (by omega), if_neg (by omega), if_neg c_91, if_neg c_106]; try rfl) | (refine mJ_L ?_ (ih (e + 1) (some (.int (nI (on (b + e))))) (some (.long (nI (on (b + e) - 8)).toInt64)) none (some (.int (F 40 0 0 (b + e)))) _ (by omega) (by omega) eh hR); rw [ovM, ovX_f (by omega), if_neg (by omega), if_neg c_91, if_pos c_106]; try rfl) | (refine mJ_L ?_ (ih (e + 1) (some (.int (nI (on (b + e))))) (some (.long (nI (on (b + e) - 8)).toInt64)) none (some (.int (F 40 0 0 (b + e)))) _ (by omega) (by omega) eh hR); rw [ovM, ovX_f (by omega), if_neg (by omega), if_neg c_91, if_neg c_106]; try rfl)
          · refine mJ_lload hK dX6_computed_94 rfl ?_
            refine mJ_lload hK dX6_computed_96 rfl ?_
            refine mJ_ladd hK dX6_computed_98 ?_
            refine mJ_goto (tgt := 122) hK dX6_computed_99 (by decide) ?_
            refine mJ_lstore hK dX6_computed_122 (by decide) rfl ?_
            refine mJ_iincN hK dX6_computed_124 rfl rfl (by decide) rfl ?_
            refine mJ_goto (tgt := 14) hK dX6_computed_127 (by decide) ?_
            first | (refine mJ_L ?_ (ih (e + 1) (some (.int (nI (on (b + e))))) (some (.long (F 67 0 0 (on (b + e))).toInt64)) none (some (.int (F 40 0 0 (b + e)))) _ (by omega) (by omega) eh hR); rw [ovM, ovX_t (by omega), if_neg (by omega), if_pos c_91]; try rfl) | (refine mJ_L ?_ (ih (e + 1) (some (.int (nI (on (b + e))))) (some (.long (nI (on (b + e) - 8)).toInt64)) none (some (.int (F 40 0 0 (b + e)))) _ (by omega) (by omega) eh hR); rw [ovM, ovX_f (by omega), if_neg (by omega), if_pos c_91]; try rfl)
        · refine mJ_lload hK dX6_computed_82 rfl ?_
          refine mJ_goto (tgt := 122) hK dX6_computed_84 (by decide) ?_
          refine mJ_lstore hK dX6_computed_122 (by decide) rfl ?_
          refine mJ_iincN hK dX6_computed_124 rfl rfl (by decide) rfl ?_
          refine mJ_goto (tgt := 14) hK dX6_computed_127 (by decide) ?_
          first | (refine mJ_L ?_ (ih (e + 1) (some (.int (nI (on (b + e))))) (some (.long (F 67 0 0 (on (b + e))).toInt64)) none (some (.int (F 40 0 0 (b + e)))) _ (by omega) (by omega) eh hR); rw [ovM, ovX_t (by omega), if_pos (by omega)]; try rfl) | (refine mJ_L ?_ (ih (e + 1) (some (.int (nI (on (b + e))))) (some (.long (nI (on (b + e) - 8)).toInt64)) none (some (.int (F 40 0 0 (b + e)))) _ (by omega) (by omega) eh hR); rw [ovM, ovX_f (by omega), if_pos (by omega)]; try rfl)
      · refine mJ_aload_n hK dX6_computed_47 rfl ?_
        refine xJ_getr hR hK dX6_computed_48 fX6_84 (by unfold yV; omega) (fun _ _ => rfl) (by decide) (fun _ _ => rfl) ?_
        refine mJ_iload hK dX6_computed_51 rfl ?_
        refine xJ_iald (on (b + e)) hR hK dX6_computed_53 (by unfold yV; omega) (fun _ _ => rfl) rfl (by omega) (by decide) ?_
        refine mJ_i2l hK dX6_computed_54 ?_
        refine mJ_goto (tgt := 64) hK dX6_computed_55 (by decide) ?_
        refine mJ_lstore hK dX6_computed_64 (by decide) rfl ?_
        refine mJ_aload_n hK dX6_computed_66 rfl ?_
        refine xJ_getr hR hK dX6_computed_67 fX6_31 (by unfold yV; omega) (fun _ _ => rfl) (by decide) (fun _ _ => rfl) ?_
        refine mJ_iload_n hK dX6_computed_70 rfl ?_
        refine mJ_iload hK dX6_computed_71 rfl ?_
        refine mJ_iaddN hK dX6_computed_73 ?_
        refine xJ_iald (b + e) hR hK dX6_computed_74 (by unfold yV; omega) (fun _ _ => rfl) rfl (by omega) (by decide) ?_
        refine mJ_istore hK dX6_computed_75 (by decide) rfl ?_
        refine mJ_iload hK dX6_computed_77 rfl ?_
        refine mJ_nif_ne (tgt := 87) hK dX6_computed_79 (by decide) (by first | omega | (have := (hon e (by omega)).2; omega)) (fun c_79 => ?_) (fun c_79 => ?_)
        · refine mJ_iload hK dX6_computed_87 rfl ?_
          refine mJ_bipush (v := nI 43) hK dX6_computed_89 (by decide) ?_
          refine mJ_icmp_ne (tgt := 102) hK dX6_computed_91 (by decide) (fun c_91 => ?_) (fun c_91 => ?_)
          · refine mJ_iload hK dX6_computed_102 rfl ?_
            refine mJ_bipush (v := nI 45) hK dX6_computed_104 (by decide) ?_
            refine mJ_icmp_ne (tgt := 117) hK dX6_computed_106 (by decide) (fun c_106 => ?_) (fun c_106 => ?_)
            · refine mJ_lload hK dX6_computed_117 rfl ?_
              refine mJ_lload hK dX6_computed_119 rfl ?_
              refine mJ_lmul hK dX6_computed_121 ?_
              refine mJ_lstore hK dX6_computed_122 (by decide) rfl ?_
              refine mJ_iincN hK dX6_computed_124 rfl rfl (by decide) rfl ?_
              refine mJ_goto (tgt := 14) hK dX6_computed_127 (by decide) ?_
              first | (refine mJ_L ?_ (ih (e + 1) (some (.int (nI (on (b + e))))) (some (.long (F 67 0 0 (on (b + e))).toInt64)) none (some (.int (F 40 0 0 (b + e)))) _ (by omega) (by omega) eh hR); rw [ovM, ovX_t (by omega), if_neg (by omega), if_neg c_91, if_pos c_106]; try rfl) | (refine mJ_L ?_ (ih (e + 1) (some (.int (nI (on (b + e))))) (some (.long (F 67 0 0 (on (b + e))).toInt64)) none (some (.int (F 40 0 0 (b + e)))) _ (by omega) (by omega) eh hR); rw [ovM, ovX_t (by omega), if_neg (by omega), if_neg c_91, if_neg c_106]; try rfl) | (refine mJ_L ?_ (ih (e + 1) (some (.int (nI (on (b + e))))) (some (.long (nI (on (b + e) - 8)).toInt64)) none (some (.int (F 40 0 0 (b + e)))) _ (by omega) (by omega) eh hR); rw [ovM, ovX_f (by omega), if_neg (by omega), if_neg c_91, if_pos c_106]; try rfl) | (refine mJ_L ?_ (ih (e + 1) (some (.int (nI (on (b + e))))) (some (.long (nI (on (b + e) - 8)).toInt64)) none (some (.int (F 40 0 0 (b + e)))) _ (by omega) (by omega) eh hR); rw [ovM, ovX_f (by omega), if_neg (by omega), if_neg c_91, if_neg c_106]; try rfl)
            · refine mJ_lload hK dX6_computed_109 rfl ?_
              refine mJ_lload hK dX6_computed_111 rfl ?_
              refine mJ_lsub hK dX6_computed_113 ?_
              refine mJ_goto (tgt := 122) hK dX6_computed_114 (by decide) ?_
              refine mJ_lstore hK dX6_computed_122 (by decide) rfl ?_
              refine mJ_iincN hK dX6_computed_124 rfl rfl (by decide) rfl ?_
              refine mJ_goto (tgt := 14) hK dX6_computed_127 (by decide) ?_
              first | (refine mJ_L ?_ (ih (e + 1) (some (.int (nI (on (b + e))))) (some (.long (F 67 0 0 (on (b + e))).toInt64)) none (some (.int (F 40 0 0 (b + e)))) _ (by omega) (by omega) eh hR); rw [ovM, ovX_t (by omega), if_neg (by omega), if_neg c_91, if_pos c_106]; try rfl) | (refine mJ_L ?_ (ih (e + 1) (some (.int (nI (on (b + e))))) (some (.long (F 67 0 0 (on (b + e))).toInt64)) none (some (.int (F 40 0 0 (b + e)))) _ (by omega) (by omega) eh hR); rw [ovM, ovX_t (by omega), if_neg (by omega), if_neg c_91, if_neg c_106]; try rfl) | (refine mJ_L ?_ (ih (e + 1) (some (.int (nI (on (b + e))))) (some (.long (nI (on (b + e) - 8)).toInt64)) none (some (.int (F 40 0 0 (b + e)))) _ (by omega) (by omega) eh hR); rw [ovM, ovX_f (by omega), if_neg (by omega), if_neg c_91, if_pos c_106]; try rfl) | (refine mJ_L ?_ (ih (e + 1) (some (.int (nI (on (b + e))))) (some (.long (nI (on (b + e) - 8)).toInt64)) none (some (.int (F 40 0 0 (b + e)))) _ (by omega) (by omega) eh hR); rw [ovM, ovX_f (by omega), if_neg (by omega), if_neg c_91, if_neg c_106]; try rfl)
          · refine mJ_lload hK dX6_computed_94 rfl ?_
            refine mJ_lload hK dX6_computed_96 rfl ?_
            refine mJ_ladd hK dX6_computed_98 ?_
            refine mJ_goto (tgt := 122) hK dX6_computed_99 (by decide) ?_
            refine mJ_lstore hK dX6_computed_122 (by decide) rfl ?_
            refine mJ_iincN hK dX6_computed_124 rfl rfl (by decide) rfl ?_
            refine mJ_goto (tgt := 14) hK dX6_computed_127 (by decide) ?_
            first | (refine mJ_L ?_ (ih (e + 1) (some (.int (nI (on (b + e))))) (some (.long (F 67 0 0 (on (b + e))).toInt64)) none (some (.int (F 40 0 0 (b + e)))) _ (by omega) (by omega) eh hR); rw [ovM, ovX_t (by omega), if_neg (by omega), if_pos c_91]; try rfl) | (refine mJ_L ?_ (ih (e + 1) (some (.int (nI (on (b + e))))) (some (.long (nI (on (b + e) - 8)).toInt64)) none (some (.int (F 40 0 0 (b + e)))) _ (by omega) (by omega) eh hR); rw [ovM, ovX_f (by omega), if_neg (by omega), if_pos c_91]; try rfl)
        · refine mJ_lload hK dX6_computed_82 rfl ?_
          refine mJ_goto (tgt := 122) hK dX6_computed_84 (by decide) ?_
          refine mJ_lstore hK dX6_computed_122 (by decide) rfl ?_
          refine mJ_iincN hK dX6_computed_124 rfl rfl (by decide) rfl ?_
          refine mJ_goto (tgt := 14) hK dX6_computed_127 (by decide) ?_
          first | (refine mJ_L ?_ (ih (e + 1) (some (.int (nI (on (b + e))))) (some (.long (F 67 0 0 (on (b + e))).toInt64)) none (some (.int (F 40 0 0 (b + e)))) _ (by omega) (by omega) eh hR); rw [ovM, ovX_t (by omega), if_pos (by omega)]; try rfl) | (refine mJ_L ?_ (ih (e + 1) (some (.int (nI (on (b + e))))) (some (.long (nI (on (b + e) - 8)).toInt64)) none (some (.int (F 40 0 0 (b + e)))) _ (by omega) (by omega) eh hR); rw [ovM, ovX_f (by omega), if_pos (by omega)]; try rfl)

set_option maxRecDepth 100000 in
set_option maxHeartbeats 4000000 in
theorem k_X6_computed {l : Launch} {D : va_G} {aC : Nat → ClassId} {ad : xAd} {h0 h : mH} {F : xFm} {W : xWm} {pm : Nat → Nat} (hR : xR yV ad h0 F W pm h) {r o b k : Nat} (hr : r < 8) (ho : o < 4) (hb : b = 3 * (4 * r + o)) (hk : F 38 0 0 (4 * r + o) = nI k) (hk3 : k ≤ 3) {on : Nat → Nat} (hon : ∀ i, i < k → F 39 0 0 (b + i) = nI (on (b + i)) ∧ on (b + i) < 18) : mCon l D aC mX6_computed [.ref (ad 30 0 0), .int (nI r), .int (nI o)] h (mRi (ovC (ovM (F 40 0 0) on (F 67 0 0) b k)) (fun h' => h' = h)) := by
  refine mCon.of [some (.ref (ad 30 0 0)), some (.int (nI r)), some (.int (nI o)), none, none, none, none, none, none, none, none] (by decide +kernel) rfl (Nat.le_of_ble_eq_true rfl) ?_
  intro K el eD eC hK hZ
  subst el eD eC
  refine mJ_iconst (v := nI 3) hK dX6_computed_0 (by decide) ?_
  refine mJ_iconst (v := nI 4) hK dX6_computed_1 (by decide) ?_
  refine mJ_iload_n hK dX6_computed_2 rfl ?_
  refine mJ_imulN hK dX6_computed_3 ?_
  refine mJ_iload_n hK dX6_computed_4 rfl ?_
  refine mJ_iaddN hK dX6_computed_5 ?_
  refine mJ_imulN hK dX6_computed_6 ?_
  refine mJ_istore_n hK dX6_computed_7 (by decide) rfl ?_
  refine mJ_lconst (v := 0) hK dX6_computed_8 (by decide) ?_
  refine mJ_lstore hK dX6_computed_9 (by decide) rfl ?_
  refine mJ_iconst (v := nI 0) hK dX6_computed_11 (by decide) ?_
  refine mJ_istore hK dX6_computed_12 (by decide) rfl ?_
  subst hb
  exact lp_X6_computed hK hr ho rfl hk hk3 hon hZ (k + 1) 0 none none none none _ (by omega) (by omega) rfl hR
