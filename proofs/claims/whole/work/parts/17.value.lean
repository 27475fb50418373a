/-! which rule lies where -/
theorem xR.pm8 {ad : xAd} {h0 h : mH} {F : xFm} {W : xWm} {pm : Nat → Nat} (hR : xR xV ad h0 F W pm h) (p : Nat) : xR xV ad h0 F W (va_up pm 8 p) (mset h (ad 2 0 0) (.inr (2, (List.range 4).map (va_up (xF ad pm (F 2 0 0) (W 2 0 0) 2 0 0) 0 (.ref (ad 17 p 0)))))) := by
  have hv0 : xV 2 0 0 := by unfold xV; omega
  refine ⟨fun k i j hv => ?_, hR.2.1, fun a ha => ?_⟩
  · by_cases e : k = 2 ∧ i = 0 ∧ j = 0
    · obtain ⟨rfl, rfl, rfl⟩ := e
      rw [mset_s]
      show some (Sum.inr (2, _)) = some (Sum.inr (2, _))
      congr 3
    · rw [mset_n (fun z => e (hR.2.1 _ _ _ _ _ _ hv hv0 z)), hR.1 k i j hv]
      congr 1
      by_cases e3 : k = 3
      · subst e3
        have hf : (fun n => some (ad 17 (if n < 8 then pm n else 0) 0)) = (fun n => some (ad 17 (if n < 8 then va_up pm 8 p n else 0) 0)) := by
          funext n
          by_cases hn : n < 8
          · have : n ≠ 8 := by omega
            simp [hn, va_up, this]
          · simp [hn]
        exact congrArg (fun f => (Sum.inl (3, 8, Sum.inr (Sum.inr (Sum.inr (Sum.inr f)))) : mC)) hf
      · by_cases e2 : k = 2
        · subst e2
          exact absurd ⟨rfl, by unfold xV at hv; omega, by unfold xV at hv; omega⟩ e
        · by_cases b : k < 30
          · have h9 : ∀ q, q < 30 → q ≠ 2 → q ≠ 3 → xC ad pm (F q i j) (W q i j) q i j = xC ad (va_up pm 8 p) (F q i j) (W q i j) q i j := by
              intro q h1 h2 h3
              match q, h1, h2, h3 with
              | 0, _, _, _ => rfl
              | 1, _, _, _ => rfl
              | 4, _, _, _ => rfl
              | 5, _, _, _ => rfl
              | 6, _, _, _ => rfl
              | 7, _, _, _ => rfl
              | 8, _, _, _ => rfl
              | 9, _, _, _ => rfl
              | 10, _, _, _ => rfl
              | 11, _, _, _ => rfl
              | 12, _, _, _ => rfl
              | 13, _, _, _ => rfl
              | 14, _, _, _ => rfl
              | 15, _, _, _ => rfl
              | 16, _, _, _ => rfl
              | 17, _, _, _ => rfl
              | 18, _, _, _ => rfl
              | 19, _, _, _ => rfl
              | 20, _, _, _ => rfl
              | 21, _, _, _ => rfl
              | 22, _, _, _ => rfl
              | 23, _, _, _ => rfl
              | 24, _, _, _ => rfl
              | 25, _, _, _ => rfl
              | 26, _, _, _ => rfl
              | 27, _, _, _ => rfl
              | 28, _, _, _ => rfl
              | 29, _, _, _ => rfl
              | 2, _, h, _ => exact absurd rfl h
              | 3, _, _, h => exact absurd rfl h
              | q + 30, h, _, _ => exact absurd h (by omega)
            exact h9 k b e2 e3
          · exact absurd hv (by unfold xV; omega)
  · rw [mset_n (ha 2 0 0 hv0)]
    exact hR.2.2 a ha
theorem nI_m1 {a : Nat} (h : a < 2 ^ 31) : ¬ nI a = -1 := by
  intro z
  have := nI_pos (n := a) h
  rw [z] at this
  exact this (by decide)
def ovX (tv : Nat → Int32) (a : Nat) : Int32 := if a < 8 then tv a else nI (a - 8)
def ovL (sg : Nat → Int32) (on : Nat → Nat) (tv : Nat → Int32) (b : Nat) : Nat → Int64
  | 0 => 0
  | i + 1 => if sg (b + i) = nI 42 then ovL sg on tv b i * (ovX tv (on (b + i))).toInt64 else if sg (b + i) = nI 45 then ovL sg on tv b i + (-(ovX tv (on (b + i)))).toInt64 else ovL sg on tv b i + (ovX tv (on (b + i))).toInt64
def ovC (x : Int64) : Int32 := (if (if x < 9999 then x else 9999) < -9999 then -9999 else if x < 9999 then x else 9999).toInt32
set_option maxRecDepth 100000 in
set_option maxHeartbeats 4000000 in
theorem lp_X1_outputValue {K : mK} (hK : mCx K mX1_outputValue) {ad : xAd} {h0 : mH} {F : xFm} {W : xWm} {pm : Nat → Nat} {r : Nat} (hr : r < 9) {q k : Nat} (hq : q < 4) (hk : F 20 r 0 q = nI k) (hk3 : k ≤ 3) {on : Nat → Nat} (hon : ∀ i, i < k → F 22 r 0 (q * 3 + i) = nI (on (q * 3 + i)) ∧ on (q * 3 + i) < 18) {h9 : mH} (hZ : mRt K mX1_outputValue (mRi (ovC (ovL (F 21 r 0) on (F 5 0 0) (q * 3) k)) (fun h' => h' = h9))) : ∀ (fu : Nat) (i : Nat) (u v : Option Value) (h : mH), k - i < fu → (i ≤ k) → (h = h9) → (xR xV ad h0 F W pm h) → mJ K 0 0 11 [some (.ref (ad 17 r 0)), some (.int (nI q)), some (.ref (ad 5 0 0)), some (.long (ovL (F 21 r 0) on (F 5 0 0) (q * 3) i)), none, some (.int (nI (q * 3))), some (.int (nI (q * 3 + i))), u, v] [] h := by
  intro fu
  induction fu with
  | zero =>
    intro i u v h hm0
    exact absurd hm0 (by omega)
  | succ fu ih =>
    intro i u v h hm0 hi eh hR
    refine mJ_iload hK dX1_outputValue_11 rfl ?_
    refine mJ_iload hK dX1_outputValue_13 rfl ?_
    refine mJ_aload_n hK dX1_outputValue_15 rfl ?_
    refine xJ_getr hR hK dX1_outputValue_16 fX1_19 (by unfold xV; omega) (fun _ _ => rfl) (by decide) (fun _ _ => rfl) ?_
    refine mJ_iload_n hK dX1_outputValue_19 rfl ?_
    refine xJ_ialdx q (nI k) hR hK dX1_outputValue_20 (by unfold xV; omega) (fun _ _ => rfl) rfl (by omega) (by decide) (hk) ?_
    refine mJ_iaddN hK dX1_outputValue_21 ?_
    refine mJ_nge (tgt := 108) hK dX1_outputValue_22 (by decide) (by first | omega | (have := (hon i (by omega)).2; omega)) (by first | omega | (have := (hon i (by omega)).2; omega)) (fun c_22 => ?_) (fun c_22 => ?_)
    · refine mJ_ldc2 hK dX1_outputValue_108 cX1_63 ?_
      refine mJ_ldc2 hK dX1_outputValue_111 cX1_65 ?_
      refine mJ_lload_n hK dX1_outputValue_114 rfl ?_
      refine mJ_lmin hK dX1_outputValue_115 lX1_67 (by decide) (Nat.le_of_ble_eq_true rfl) (by decide) (by decide) ?_
      refine mJ_lmax hK dX1_outputValue_118 lX1_73 (by decide) (Nat.le_of_ble_eq_true rfl) (by decide) (by decide) ?_
      refine mJ_l2i hK dX1_outputValue_121 ?_
      refine mJ_iret hK dX1_outputValue_122 rfl hZ (by decide) (by decide) ?_
      have : i = k := by omega
      subst this
      exact ⟨rfl, eh⟩
    · refine mJ_aload_n hK dX1_outputValue_25 rfl ?_
      refine xJ_getr hR hK dX1_outputValue_26 fX1_25 (by unfold xV; omega) (fun _ _ => rfl) (by decide) (fun _ _ => rfl) ?_
      refine mJ_iload hK dX1_outputValue_29 rfl ?_
      refine xJ_ialdx (q * 3 + i) (nI (on (q * 3 + i))) hR hK dX1_outputValue_31 (by unfold xV; omega) (fun _ _ => rfl) rfl (by omega) (by decide) ((hon i (by omega)).1) ?_
      refine mJ_istore hK dX1_outputValue_32 (by decide) rfl ?_
      refine mJ_iload hK dX1_outputValue_34 rfl ?_
      refine mJ_cNi hK dX1_outputValue_36 lX1_59 (by unfold mFit; decide) (by decide) (k_X5_isChannelN (by have := (hon i (by omega)).2; omega)) rfl rfl (Nat.le_of_ble_eq_true rfl) (fun h e9 => ?_)
      subst e9
      refine mJ_ifb_eq (tgt := 49) hK dX1_outputValue_39 (by decide) (fun c_39 => ?_) (fun c_39 => ?_)
      · refine mJ_iload hK dX1_outputValue_49 rfl ?_
        refine mJ_bipush (v := nI 8) hK dX1_outputValue_51 (by decide) ?_
        refine mJ_isubN hK dX1_outputValue_53 (by first | omega | (have := (hon i (by omega)).2; omega)) ?_
        refine mJ_istore hK dX1_outputValue_54 (by decide) rfl ?_
        refine mJ_aload_n hK dX1_outputValue_56 rfl ?_
        refine xJ_getr hR hK dX1_outputValue_57 fX1_22 (by unfold xV; omega) (fun _ _ => rfl) (by decide) (fun _ _ => rfl) ?_
        refine mJ_iload hK dX1_outputValue_60 rfl ?_
        refine xJ_iald (q * 3 + i) hR hK dX1_outputValue_62 (by unfold xV; omega) (fun _ _ => rfl) rfl (by omega) (by decide) ?_
        refine mJ_bipush (v := nI 42) hK dX1_outputValue_63 (by decide) ?_
        refine mJ_icmp_ne (tgt := 77) hK dX1_outputValue_65 (by decide) (fun c_65 => ?_) (fun c_65 => ?_)
        · refine mJ_lload_n hK dX1_outputValue_77 rfl ?_
          refine mJ_aload_n hK dX1_outputValue_78 rfl ?_
          refine xJ_getr hR hK dX1_outputValue_79 fX1_22 (by unfold xV; omega) (fun _ _ => rfl) (by decide) (fun _ _ => rfl) ?_
          refine mJ_iload hK dX1_outputValue_82 rfl ?_
          refine xJ_iald (q * 3 + i) hR hK dX1_outputValue_84 (by unfold xV; omega) (fun _ _ => rfl) rfl (by omega) (by decide) ?_
          refine mJ_bipush (v := nI 45) hK dX1_outputValue_85 (by decide) ?_
          refine mJ_icmp_ne (tgt := 97) hK dX1_outputValue_87 (by decide) (fun c_87 => ?_) (fun c_87 => ?_)
          · refine mJ_iload hK dX1_outputValue_97 rfl ?_
            refine mJ_i2l hK dX1_outputValue_99 ?_
            refine mJ_ladd hK dX1_outputValue_100 ?_
            refine mJ_lstore_n hK dX1_outputValue_101 (by decide) rfl ?_
            refine mJ_iincN hK dX1_outputValue_102 rfl rfl (by decide) rfl ?_
            refine mJ_goto (tgt := 11) hK dX1_outputValue_105 (by decide) ?_
            refine mJ_L ?_ (ih (i + 1) (some (.int (nI (on (q * 3 + i))))) (some (.int (nI (on (q * 3 + i) - 8)))) _ (by omega) (by omega) eh hR)
            simp only [ovL, ovX, c_39, c_65, c_87, ↓reduceIte]
            rfl
          · refine mJ_iload hK dX1_outputValue_90 rfl ?_
            refine mJ_ineg hK dX1_outputValue_92 ?_
            refine mJ_i2l hK dX1_outputValue_93 ?_
            refine mJ_goto (tgt := 100) hK dX1_outputValue_94 (by decide) ?_
            refine mJ_ladd hK dX1_outputValue_100 ?_
            refine mJ_lstore_n hK dX1_outputValue_101 (by decide) rfl ?_
            refine mJ_iincN hK dX1_outputValue_102 rfl rfl (by decide) rfl ?_
            refine mJ_goto (tgt := 11) hK dX1_outputValue_105 (by decide) ?_
            refine mJ_L ?_ (ih (i + 1) (some (.int (nI (on (q * 3 + i))))) (some (.int (nI (on (q * 3 + i) - 8)))) _ (by omega) (by omega) eh hR)
            simp only [ovL, ovX, c_39, c_65, c_87, ↓reduceIte]
            rfl
        · refine mJ_lload_n hK dX1_outputValue_68 rfl ?_
          refine mJ_iload hK dX1_outputValue_69 rfl ?_
          refine mJ_i2l hK dX1_outputValue_71 ?_
          refine mJ_lmul hK dX1_outputValue_72 ?_
          refine mJ_lstore_n hK dX1_outputValue_73 (by decide) rfl ?_
          refine mJ_goto (tgt := 102) hK dX1_outputValue_74 (by decide) ?_
          refine mJ_iincN hK dX1_outputValue_102 rfl rfl (by decide) rfl ?_
          refine mJ_goto (tgt := 11) hK dX1_outputValue_105 (by decide) ?_
          refine mJ_L ?_ (ih (i + 1) (some (.int (nI (on (q * 3 + i))))) (some (.int (nI (on (q * 3 + i) - 8)))) _ (by omega) (by omega) eh hR)
          simp only [ovL, ovX, c_39, c_65, ↓reduceIte]
          rfl
      · refine mJ_aload_n hK dX1_outputValue_42 rfl ?_
        refine mJ_iload hK dX1_outputValue_43 rfl ?_
        refine xJ_iald (on (q * 3 + i)) hR hK dX1_outputValue_45 (by unfold xV; omega) (fun _ _ => rfl) rfl (by omega) (by decide) ?_
        refine mJ_goto (tgt := 54) hK dX1_outputValue_46 (by decide) ?_
        refine mJ_istore hK dX1_outputValue_54 (by decide) rfl ?_
        refine mJ_aload_n hK dX1_outputValue_56 rfl ?_
        refine xJ_getr hR hK dX1_outputValue_57 fX1_22 (by unfold xV; omega) (fun _ _ => rfl) (by decide) (fun _ _ => rfl) ?_
        refine mJ_iload hK dX1_outputValue_60 rfl ?_
        refine xJ_iald (q * 3 + i) hR hK dX1_outputValue_62 (by unfold xV; omega) (fun _ _ => rfl) rfl (by omega) (by decide) ?_
        refine mJ_bipush (v := nI 42) hK dX1_outputValue_63 (by decide) ?_
        refine mJ_icmp_ne (tgt := 77) hK dX1_outputValue_65 (by decide) (fun c_65 => ?_) (fun c_65 => ?_)
        · refine mJ_lload_n hK dX1_outputValue_77 rfl ?_
          refine mJ_aload_n hK dX1_outputValue_78 rfl ?_
          refine xJ_getr hR hK dX1_outputValue_79 fX1_22 (by unfold xV; omega) (fun _ _ => rfl) (by decide) (fun _ _ => rfl) ?_
          refine mJ_iload hK dX1_outputValue_82 rfl ?_
          refine xJ_iald (q * 3 + i) hR hK dX1_outputValue_84 (by unfold xV; omega) (fun _ _ => rfl) rfl (by omega) (by decide) ?_
          refine mJ_bipush (v := nI 45) hK dX1_outputValue_85 (by decide) ?_
          refine mJ_icmp_ne (tgt := 97) hK dX1_outputValue_87 (by decide) (fun c_87 => ?_) (fun c_87 => ?_)
          · refine mJ_iload hK dX1_outputValue_97 rfl ?_
            refine mJ_i2l hK dX1_outputValue_99 ?_
            refine mJ_ladd hK dX1_outputValue_100 ?_
            refine mJ_lstore_n hK dX1_outputValue_101 (by decide) rfl ?_
            refine mJ_iincN hK dX1_outputValue_102 rfl rfl (by decide) rfl ?_
            refine mJ_goto (tgt := 11) hK dX1_outputValue_105 (by decide) ?_
            refine mJ_L ?_ (ih (i + 1) (some (.int (nI (on (q * 3 + i))))) (some (.int (F 5 0 0 (on (q * 3 + i))))) _ (by omega) (by omega) eh hR)
            simp only [ovL, ovX, c_39, c_65, c_87, ↓reduceIte]
            rfl
          · refine mJ_iload hK dX1_outputValue_90 rfl ?_
            refine mJ_ineg hK dX1_outputValue_92 ?_
            refine mJ_i2l hK dX1_outputValue_93 ?_
            refine mJ_goto (tgt := 100) hK dX1_outputValue_94 (by decide) ?_
            refine mJ_ladd hK dX1_outputValue_100 ?_
            refine mJ_lstore_n hK dX1_outputValue_101 (by decide) rfl ?_
            refine mJ_iincN hK dX1_outputValue_102 rfl rfl (by decide) rfl ?_
            refine mJ_goto (tgt := 11) hK dX1_outputValue_105 (by decide) ?_
            refine mJ_L ?_ (ih (i + 1) (some (.int (nI (on (q * 3 + i))))) (some (.int (F 5 0 0 (on (q * 3 + i))))) _ (by omega) (by omega) eh hR)
            simp only [ovL, ovX, c_39, c_65, c_87, ↓reduceIte]
            rfl
        · refine mJ_lload_n hK dX1_outputValue_68 rfl ?_
          refine mJ_iload hK dX1_outputValue_69 rfl ?_
          refine mJ_i2l hK dX1_outputValue_71 ?_
          refine mJ_lmul hK dX1_outputValue_72 ?_
          refine mJ_lstore_n hK dX1_outputValue_73 (by decide) rfl ?_
          refine mJ_goto (tgt := 102) hK dX1_outputValue_74 (by decide) ?_
          refine mJ_iincN hK dX1_outputValue_102 rfl rfl (by decide) rfl ?_
          refine mJ_goto (tgt := 11) hK dX1_outputValue_105 (by decide) ?_
          refine mJ_L ?_ (ih (i + 1) (some (.int (nI (on (q * 3 + i))))) (some (.int (F 5 0 0 (on (q * 3 + i))))) _ (by omega) (by omega) eh hR)
          simp only [ovL, ovX, c_39, c_65, ↓reduceIte]
          rfl

set_option maxRecDepth 100000 in
set_option maxHeartbeats 4000000 in
theorem k_X1_outputValue {l : Launch} {D : va_G} {aC : Nat → ClassId} {ad : xAd} {h0 h : mH} {F : xFm} {W : xWm} {pm : Nat → Nat} (hR : xR xV ad h0 F W pm h) {r : Nat} (hr : r < 9) {q k : Nat} (hq : q < 4) (hk : F 20 r 0 q = nI k) (hk3 : k ≤ 3) {on : Nat → Nat} (hon : ∀ i, i < k → F 22 r 0 (q * 3 + i) = nI (on (q * 3 + i)) ∧ on (q * 3 + i) < 18) : mCon l D aC mX1_outputValue [.ref (ad 17 r 0), .int (nI q), .ref (ad 5 0 0)] h (mRi (ovC (ovL (F 21 r 0) on (F 5 0 0) (q * 3) k)) (fun h' => h' = h)) := by
  refine mCon.of [some (.ref (ad 17 r 0)), some (.int (nI q)), some (.ref (ad 5 0 0)), none, none, none, none, none, none] (by decide +kernel) rfl (Nat.le_of_ble_eq_true rfl) ?_
  intro K el eD eC hK hZ
  subst el eD eC
  refine mJ_lconst (v := 0) hK dX1_outputValue_0 (by decide) ?_
  refine mJ_lstore_n hK dX1_outputValue_1 (by decide) rfl ?_
  refine mJ_iload_n hK dX1_outputValue_2 rfl ?_
  refine mJ_iconst (v := nI 3) hK dX1_outputValue_3 (by decide) ?_
  refine mJ_imulN hK dX1_outputValue_4 ?_
  refine mJ_istore hK dX1_outputValue_5 (by decide) rfl ?_
  refine mJ_iload hK dX1_outputValue_7 rfl ?_
  refine mJ_istore hK dX1_outputValue_9 (by decide) rfl ?_
  exact lp_X1_outputValue hK hr hq hk hk3 hon hZ (k + 1) 0 none none _ (by omega) (by omega) rfl hR
