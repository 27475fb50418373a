def tS (F : xFm) (x : Int32) : xFm := fr F 30 0 0 (upd (F 30 0 0) 0 x)
theorem ruL {rn : Nat} (h8 : rn ≤ 8) {x : Int32} : (nI 0 ≤ x ∧ x ≤ nI rn - nI 1) ↔ (0 ≤ x ∧ x < nI rn) := by
  rw [Int32.le_iff_toInt_le, Int32.le_iff_toInt_le, Int32.le_iff_toInt_le, Int32.lt_iff_toInt_lt, pk_sub_toInt (by omega) (by omega), nI_toInt (n := rn) (by omega), nI_toInt (n := 0) (by omega), bi0]
  omega
theorem chL {x : Int32} : (nI 0 ≤ x ∧ x ≤ nI 7) ↔ (0 ≤ x ∧ x < nI 8) := by
  rw [Int32.le_iff_toInt_le, Int32.le_iff_toInt_le, Int32.le_iff_toInt_le, Int32.lt_iff_toInt_lt, nI_toInt (n := 7) (by omega), nI_toInt (n := 0) (by omega), nI_toInt (n := 8) (by omega), bi0]
  omega
theorem knL {g : Nat} (hg : g < 1000000) {x : Int32} : (0 ≤ x ∧ x < nI g ∧ nI g - nI 24 ≤ x) ↔ (nI (g - 24) ≤ x ∧ x < nI g) := by
  rw [Int32.le_iff_toInt_le, Int32.le_iff_toInt_le, Int32.le_iff_toInt_le, Int32.lt_iff_toInt_lt, pk_sub_toInt (by omega) (by omega), nI_toInt (n := g) (by omega), nI_toInt (n := g - 24) (by omega), bi0]
  omega
set_option maxRecDepth 100000 in
set_option maxHeartbeats 4000000 in
theorem k_X6_withinN {l : Launch} {D : va_G} {aC : Nat → ClassId} {h : mH} {v a b : Nat} (hv : v < 2 ^ 31) (ha : a < 2 ^ 31) (hb : b < 2 ^ 31) : mCon l D aC mX6_within [.int (nI v), .int (nI a), .int (nI b)] h (mRi (bI (a ≤ v ∧ v ≤ b)) (fun h' => h' = h)) := by
  refine mCon.of [some (.int (nI v)), some (.int (nI a)), some (.int (nI b))] (by decide +kernel) rfl (Nat.le_of_ble_eq_true rfl) ?_
  intro K el eD eC hK hZ
  subst el eD eC
  refine mJ_iload_n hK dX6_within_0 rfl ?_
  refine mJ_iload_n hK dX6_within_1 rfl ?_
  refine mJ_nlt (tgt := 14) hK dX6_within_2 (by decide) (by omega) (by omega) (fun c_2 => ?_) (fun c_2 => ?_)
  · refine mJ_iconst (v := nI 0) hK dX6_within_14 (by decide) ?_
    refine mJ_zret hK dX6_within_15 rfl (by decide) hZ (by decide) (by decide) ?_
    first | exact ⟨congrArg (fun z => some (Value.int z)) (b0 (by omega)), rfl⟩ | exact ⟨congrArg (fun z => some (Value.int z)) (b1 (by omega)), rfl⟩
  · refine mJ_iload_n hK dX6_within_5 rfl ?_
    refine mJ_iload_n hK dX6_within_6 rfl ?_
    refine mJ_ngt (tgt := 14) hK dX6_within_7 (by decide) (by omega) (by omega) (fun c_7 => ?_) (fun c_7 => ?_)
    · refine mJ_iconst (v := nI 0) hK dX6_within_14 (by decide) ?_
      refine mJ_zret hK dX6_within_15 rfl (by decide) hZ (by decide) (by decide) ?_
      first | exact ⟨congrArg (fun z => some (Value.int z)) (b0 (by omega)), rfl⟩ | exact ⟨congrArg (fun z => some (Value.int z)) (b1 (by omega)), rfl⟩
    · refine mJ_iconst (v := nI 1) hK dX6_within_10 (by decide) ?_
      refine mJ_goto (tgt := 15) hK dX6_within_11 (by decide) ?_
      refine mJ_zret hK dX6_within_15 rfl (by decide) hZ (by decide) (by decide) ?_
      first | exact ⟨congrArg (fun z => some (Value.int z)) (b0 (by omega)), rfl⟩ | exact ⟨congrArg (fun z => some (Value.int z)) (b1 (by omega)), rfl⟩

set_option maxRecDepth 100000 in
set_option maxHeartbeats 4000000 in
theorem k_X6_thrown {l : Launch} {D : va_G} {aC : Nat → ClassId} {ad : xAd} {h0 h : mH} {F : xFm} {W : xWm} {pm : Nat → Nat} (hR : xR yV ad h0 F W pm h) : mCon l D aC mX6_thrown [.ref (ad 30 0 0)] h (mRi (F 30 0 0 0) (fun h' => h' = h)) := by
  refine mCon.of [some (.ref (ad 30 0 0))] (by decide +kernel) rfl (Nat.le_of_ble_eq_true rfl) ?_
  intro K el eD eC hK hZ
  subst el eD eC
  refine mJ_aload_n hK dX6_thrown_0 rfl ?_
  refine xJ_geti hR hK dX6_thrown_1 fX6_117 (by unfold yV; omega) (fun _ _ => rfl) (by decide) rfl ?_
  refine mJ_iret hK dX6_thrown_4 rfl hZ (by decide) (by decide) ?_
  exact ⟨rfl, rfl⟩

set_option maxRecDepth 100000 in
set_option maxHeartbeats 4000000 in
theorem k_X6_append {l : Launch} {D : va_G} {aC : Nat → ClassId} {ad : xAd} {h0 h : mH} {F : xFm} {W : xWm} {pm : Nat → Nat} (hR : xR yV ad h0 F W pm h) {bl : Nat} (hbl : F 30 0 0 1 = nI bl) (hbl40 : bl ≤ 40) (hb : bl < 40) {cd : Nat} (h1 : 32 ≤ cd) (h2 : cd ≤ 126) : mCon l D aC mX6_append [.ref (ad 30 0 0), .int (nI cd)] h (mRi (nI (bl + 1)) (fun h' => xR yV ad h0 (fr (fr (tS F (nI 0)) 32 0 0 (upd (F 32 0 0) bl (nI cd))) 30 0 0 (upd (upd (F 30 0 0) 0 (nI 0)) 1 (nI (bl + 1)))) W pm h')) := by
  refine mCon.of [some (.ref (ad 30 0 0)), some (.int (nI cd))] (by decide +kernel) rfl (Nat.le_of_ble_eq_true rfl) ?_
  intro K el eD eC hK hZ
  subst el eD eC
  refine mJ_aload_n hK dX6_append_0 rfl ?_
  refine mJ_iload_n hK dX6_append_1 rfl ?_
  refine mJ_bipush (v := nI 32) hK dX6_append_2 (by decide) ?_
  refine mJ_bipush (v := nI 126) hK dX6_append_4 (by decide) ?_
  refine mJ_cSi hK dX6_append_6 lX6_120 (by unfold mFit; decide) (by decide) (k_X6_withinN (by omega) (by omega) (by omega)) rfl rfl (Nat.le_of_ble_eq_true rfl) (fun h e9 => ?_)
  subst e9
  refine mJ_ifb_ne (tgt := 16) hK dX6_append_9 (by decide) (fun c_9 => ?_) (fun c_9 => ?_)
  · refine mJ_aload_n hK dX6_append_16 rfl ?_
    refine xJ_getx (nI bl) hR hK dX6_append_17 fX6_124 (by unfold yV; omega) (fun _ _ => rfl) (by decide) rfl (by first | exact hbl | (simp [fr, upd]; exact hbl) | (simp [fr, upd, tS]; exact hbl)) ?_
    refine mJ_bipush (v := nI 40) hK dX6_append_20 (by decide) ?_
    refine mJ_nne (tgt := 29) hK dX6_append_22 (by decide) (by omega) (by omega) (fun c_22 => ?_) (fun c_22 => ?_)
    · refine mJ_iconst (v := nI 0) hK dX6_append_29 (by decide) ?_
      refine xJ_puti hR hK dX6_append_30 fX6_117 sX6_0 rfl rfl (by unfold yV; omega) (fun _ _ => rfl) (by decide) rfl (fun h hR => ?_)
      refine mJ_aload_n hK dX6_append_33 rfl ?_
      refine xJ_getx (nI 0) hR hK dX6_append_34 fX6_117 (by unfold yV; omega) (fun _ _ => rfl) (by decide) rfl (by simp [fr, upd]) ?_
      refine mJ_nif_le (tgt := 42) hK dX6_append_37 (by decide) (by omega) (fun c_37 => ?_) (fun c_37 => ?_)
      · refine mJ_aload_n hK dX6_append_42 rfl ?_
        refine xJ_getr hR hK dX6_append_43 fX6_7 (by unfold yV; omega) (fun _ _ => rfl) (by decide) (fun _ _ => rfl) ?_
        refine mJ_aload_n hK dX6_append_46 rfl ?_
        refine xJ_getx (nI bl) hR hK dX6_append_47 fX6_124 (by unfold yV; omega) (fun _ _ => rfl) (by decide) rfl (by first | exact hbl | (simp [fr, upd]; exact hbl) | (simp [fr, upd, tS]; exact hbl)) ?_
        refine mJ_iload_n hK dX6_append_50 rfl ?_
        refine xJ_iast bl hR hK dX6_append_51 (by unfold yV; omega) (fun _ _ => rfl) rfl (by omega) (by decide) (fun h hR => ?_)
        refine mJ_aload_n hK dX6_append_52 rfl ?_
        refine mJ_dup hK dX6_append_53 rfl ?_
        refine xJ_getx (nI bl) hR hK dX6_append_54 fX6_124 (by unfold yV; omega) (fun _ _ => rfl) (by decide) rfl (by first | exact hbl | (simp [fr, upd]; exact hbl) | (simp [fr, upd, tS]; exact hbl)) ?_
        refine mJ_iconst (v := nI 1) hK dX6_append_57 (by decide) ?_
        refine mJ_iaddN hK dX6_append_58 ?_
        refine xJ_puti hR hK dX6_append_59 fX6_124 sX6_1 rfl rfl (by unfold yV; omega) (fun _ _ => rfl) (by decide) rfl (fun h hR => ?_)
        refine mJ_aload_n hK dX6_append_62 rfl ?_
        refine xJ_getx (nI (bl + 1)) hR hK dX6_append_63 fX6_124 (by unfold yV; omega) (fun _ _ => rfl) (by decide) rfl (by simp [fr, upd]) ?_
        refine mJ_iret hK dX6_append_66 rfl hZ (by decide) (by decide) ?_
        exact ⟨rfl, hR⟩
      · exact absurd c_37 (by omega)
    · exact absurd c_22 (by omega)
  · exact absurd c_9 (by omega)

set_option maxRecDepth 100000 in
set_option maxHeartbeats 4000000 in
theorem k_X6_append_x1 {l : Launch} {D : va_G} {aC : Nat → ClassId} {ad : xAd} {h0 h : mH} {F : xFm} {W : xWm} {pm : Nat → Nat} (hR : xR yV ad h0 F W pm h) {x : Int32} (hx : ¬ (nI 32 ≤ x ∧ x ≤ nI 126)) : mCon l D aC mX6_append [.ref (ad 30 0 0), .int x] h (mRi (nI 0) (fun h' => xR yV ad h0 (tS F (nI 1)) W pm h')) := by
  refine mCon.of [some (.ref (ad 30 0 0)), some (.int x)] (by decide +kernel) rfl (Nat.le_of_ble_eq_true rfl) ?_
  intro K el eD eC hK hZ
  subst el eD eC
  refine mJ_aload_n hK dX6_append_0 rfl ?_
  refine mJ_iload_n hK dX6_append_1 rfl ?_
  refine mJ_bipush (v := nI 32) hK dX6_append_2 (by decide) ?_
  refine mJ_bipush (v := nI 126) hK dX6_append_4 (by decide) ?_
  refine mJ_cSi hK dX6_append_6 lX6_120 (by unfold mFit; decide) (by decide) (k_X6_within _ _ _) rfl rfl (Nat.le_of_ble_eq_true rfl) (fun h e9 => ?_)
  subst e9
  refine mJ_ifb_ne (tgt := 16) hK dX6_append_9 (by decide) (fun c_9 => ?_) (fun c_9 => ?_)
  · exact absurd c_9 hx
  · refine mJ_iconst (v := nI 1) hK dX6_append_12 (by decide) ?_
    refine mJ_goto (tgt := 30) hK dX6_append_13 (by decide) ?_
    refine xJ_puti hR hK dX6_append_30 fX6_117 sX6_0 rfl rfl (by unfold yV; omega) (fun _ _ => rfl) (by decide) rfl (fun h hR => ?_)
    refine mJ_aload_n hK dX6_append_33 rfl ?_
    refine xJ_getx (nI 1) hR hK dX6_append_34 fX6_117 (by unfold yV; omega) (fun _ _ => rfl) (by decide) rfl (by simp [fr, upd]) ?_
    refine mJ_nif_le (tgt := 42) hK dX6_append_37 (by decide) (by omega) (fun c_37 => ?_) (fun c_37 => ?_)
    · exact absurd c_37 (by omega)
    · refine mJ_iconst (v := nI 0) hK dX6_append_40 (by decide) ?_
      refine mJ_iret hK dX6_append_41 rfl hZ (by decide) (by decide) ?_
      exact ⟨rfl, hR⟩

set_option maxRecDepth 100000 in
set_option maxHeartbeats 4000000 in
theorem k_X6_append_x2 {l : Launch} {D : va_G} {aC : Nat → ClassId} {ad : xAd} {h0 h : mH} {F : xFm} {W : xWm} {pm : Nat → Nat} (hR : xR yV ad h0 F W pm h) (hbl : F 30 0 0 1 = nI 40) {cd : Nat} (h1 : 32 ≤ cd) (h2 : cd ≤ 126) : mCon l D aC mX6_append [.ref (ad 30 0 0), .int (nI cd)] h (mRi (nI 0) (fun h' => xR yV ad h0 (tS F (nI 2)) W pm h')) := by
  refine mCon.of [some (.ref (ad 30 0 0)), some (.int (nI cd))] (by decide +kernel) rfl (Nat.le_of_ble_eq_true rfl) ?_
  intro K el eD eC hK hZ
  subst el eD eC
  refine mJ_aload_n hK dX6_append_0 rfl ?_
  refine mJ_iload_n hK dX6_append_1 rfl ?_
  refine mJ_bipush (v := nI 32) hK dX6_append_2 (by decide) ?_
  refine mJ_bipush (v := nI 126) hK dX6_append_4 (by decide) ?_
  refine mJ_cSi hK dX6_append_6 lX6_120 (by unfold mFit; decide) (by decide) (k_X6_withinN (by omega) (by omega) (by omega)) rfl rfl (Nat.le_of_ble_eq_true rfl) (fun h e9 => ?_)
  subst e9
  refine mJ_ifb_ne (tgt := 16) hK dX6_append_9 (by decide) (fun c_9 => ?_) (fun c_9 => ?_)
  · refine mJ_aload_n hK dX6_append_16 rfl ?_
    refine xJ_getx (nI 40) hR hK dX6_append_17 fX6_124 (by unfold yV; omega) (fun _ _ => rfl) (by decide) rfl (by first | exact hbl | (simp [fr, upd]; exact hbl) | (simp [fr, upd, tS]; exact hbl)) ?_
    refine mJ_bipush (v := nI 40) hK dX6_append_20 (by decide) ?_
    refine mJ_nne (tgt := 29) hK dX6_append_22 (by decide) (by omega) (by omega) (fun c_22 => ?_) (fun c_22 => ?_)
    · exact absurd c_22 (by omega)
    · refine mJ_iconst (v := nI 2) hK dX6_append_25 (by decide) ?_
      refine mJ_goto (tgt := 30) hK dX6_append_26 (by decide) ?_
      refine xJ_puti hR hK dX6_append_30 fX6_117 sX6_0 rfl rfl (by unfold yV; omega) (fun _ _ => rfl) (by decide) rfl (fun h hR => ?_)
      refine mJ_aload_n hK dX6_append_33 rfl ?_
      refine xJ_getx (nI 2) hR hK dX6_append_34 fX6_117 (by unfold yV; omega) (fun _ _ => rfl) (by decide) rfl (by simp [fr, upd]) ?_
      refine mJ_nif_le (tgt := 42) hK dX6_append_37 (by decide) (by omega) (fun c_37 => ?_) (fun c_37 => ?_)
      · exact absurd c_37 (by omega)
      · refine mJ_iconst (v := nI 0) hK dX6_append_40 (by decide) ?_
        refine mJ_iret hK dX6_append_41 rfl hZ (by decide) (by decide) ?_
        exact ⟨rfl, hR⟩
  · exact absurd c_9 (by omega)

set_option maxRecDepth 100000 in
set_option maxHeartbeats 4000000 in
theorem k_X6_clearBuffer {l : Launch} {D : va_G} {aC : Nat → ClassId} {ad : xAd} {h0 h : mH} {F : xFm} {W : xWm} {pm : Nat → Nat} (hR : xR yV ad h0 F W pm h) : mCon l D aC mX6_clearBuffer [.ref (ad 30 0 0)] h (mRi (F 30 0 0 1) (fun h' => xR yV ad h0 (fr (tS F (nI 0)) 30 0 0 (upd (upd (F 30 0 0) 0 (nI 0)) 1 (nI 0))) W pm h')) := by
  refine mCon.of [some (.ref (ad 30 0 0)), none] (by decide +kernel) rfl (Nat.le_of_ble_eq_true rfl) ?_
  intro K el eD eC hK hZ
  subst el eD eC
  refine mJ_aload_n hK dX6_clearBuffer_0 rfl ?_
  refine mJ_iconst (v := nI 0) hK dX6_clearBuffer_1 (by decide) ?_
  refine xJ_puti hR hK dX6_clearBuffer_2 fX6_117 sX6_0 rfl rfl (by unfold yV; omega) (fun _ _ => rfl) (by decide) rfl (fun h hR => ?_)
  refine mJ_aload_n hK dX6_clearBuffer_5 rfl ?_
  refine xJ_geti hR hK dX6_clearBuffer_6 fX6_124 (by unfold yV; omega) (fun _ _ => rfl) (by decide) rfl ?_
  refine mJ_istore_n hK dX6_clearBuffer_9 (by decide) rfl ?_
  refine mJ_aload_n hK dX6_clearBuffer_10 rfl ?_
  refine mJ_iconst (v := nI 0) hK dX6_clearBuffer_11 (by decide) ?_
  refine xJ_puti hR hK dX6_clearBuffer_12 fX6_124 sX6_1 rfl rfl (by unfold yV; omega) (fun _ _ => rfl) (by decide) rfl (fun h hR => ?_)
  refine mJ_iload_n hK dX6_clearBuffer_15 rfl ?_
  refine mJ_iret hK dX6_clearBuffer_16 rfl hZ (by decide) (by decide) ?_
  exact ⟨rfl, hR⟩

set_option maxRecDepth 100000 in
set_option maxHeartbeats 4000000 in
theorem k_X6_isRule {l : Launch} {D : va_G} {aC : Nat → ClassId} {ad : xAd} {h0 h : mH} {F : xFm} {W : xWm} {pm : Nat → Nat} (hR : xR yV ad h0 F W pm h) {rn : Nat} (hrn : F 30 0 0 3 = nI rn) (hrn8 : rn ≤ 8) (x : Int32) : mCon l D aC mX6_isRule [.ref (ad 30 0 0), .int x] h (mRi (bI (0 ≤ x ∧ x < nI rn)) (fun h' => h' = h)) := by
  refine mCon.of [some (.ref (ad 30 0 0)), some (.int x)] (by decide +kernel) rfl (Nat.le_of_ble_eq_true rfl) ?_
  intro K el eD eC hK hZ
  subst el eD eC
  refine mJ_iload_n hK dX6_isRule_0 rfl ?_
  refine mJ_iconst (v := nI 0) hK dX6_isRule_1 (by decide) ?_
  refine mJ_aload_n hK dX6_isRule_2 rfl ?_
  refine xJ_getx (nI rn) hR hK dX6_isRule_3 fX6_188 (by unfold yV; omega) (fun _ _ => rfl) (by decide) rfl (by first | exact hrn | (simp [fr, upd]; exact hrn) | (simp [fr, upd, tS]; exact hrn)) ?_
  refine mJ_iconst (v := nI 1) hK dX6_isRule_6 (by decide) ?_
  refine mJ_isub hK dX6_isRule_7 ?_
  refine mJ_cSi hK dX6_isRule_8 lX6_120 (by unfold mFit; decide) (by decide) (k_X6_within _ _ _) rfl rfl (Nat.le_of_ble_eq_true rfl) (fun h e9 => ?_)
  subst e9
  refine mJ_zret hK dX6_isRule_11 rfl bI_nar hZ (by decide) (by decide) ?_
  exact ⟨congrArg (fun z => some (Value.int z)) (bI_iff (ruL hrn8)), rfl⟩

set_option maxRecDepth 100000 in
set_option maxHeartbeats 4000000 in
theorem k_X6_isChannel {l : Launch} {D : va_G} {aC : Nat → ClassId} {h : mH} (x : Int32) : mCon l D aC mX6_isChannel [.int x] h (mRi (bI (0 ≤ x ∧ x < nI 8)) (fun h' => h' = h)) := by
  refine mCon.of [some (.int x)] (by decide +kernel) rfl (Nat.le_of_ble_eq_true rfl) ?_
  intro K el eD eC hK hZ
  subst el eD eC
  refine mJ_iload_n hK dX6_isChannel_0 rfl ?_
  refine mJ_iconst (v := nI 0) hK dX6_isChannel_1 (by decide) ?_
  refine mJ_bipush (v := nI 7) hK dX6_isChannel_2 (by decide) ?_
  refine mJ_cSi hK dX6_isChannel_4 lX6_120 (by unfold mFit; decide) (by decide) (k_X6_within _ _ _) rfl rfl (Nat.le_of_ble_eq_true rfl) (fun h e9 => ?_)
  subst e9
  refine mJ_zret hK dX6_isChannel_7 rfl bI_nar hZ (by decide) (by decide) ?_
  exact ⟨congrArg (fun z => some (Value.int z)) (bI_iff chL), rfl⟩

set_option maxRecDepth 100000 in
set_option maxHeartbeats 4000000 in
theorem k_X6_isChannelN {l : Launch} {D : va_G} {aC : Nat → ClassId} {h : mH} {a : Nat} (ha : a < 2 ^ 31) : mCon l D aC mX6_isChannel [.int (nI a)] h (mRi (bI (a < 8)) (fun h' => h' = h)) := by
  refine mCon.of [some (.int (nI a))] (by decide +kernel) rfl (Nat.le_of_ble_eq_true rfl) ?_
  intro K el eD eC hK hZ
  subst el eD eC
  refine mJ_iload_n hK dX6_isChannel_0 rfl ?_
  refine mJ_iconst (v := nI 0) hK dX6_isChannel_1 (by decide) ?_
  refine mJ_bipush (v := nI 7) hK dX6_isChannel_2 (by decide) ?_
  refine mJ_cSi hK dX6_isChannel_4 lX6_120 (by unfold mFit; decide) (by decide) (k_X6_withinN (by omega) (by omega) (by omega)) rfl rfl (Nat.le_of_ble_eq_true rfl) (fun h e9 => ?_)
  subst e9
  refine mJ_zret hK dX6_isChannel_7 rfl bI_nar hZ (by decide) (by decide) ?_
  exact ⟨congrArg (fun z => some (Value.int z)) (bI_iff (by omega)), rfl⟩

set_option maxRecDepth 100000 in
set_option maxHeartbeats 4000000 in
theorem k_X6_ruleCount {l : Launch} {D : va_G} {aC : Nat → ClassId} {ad : xAd} {h0 h : mH} {F : xFm} {W : xWm} {pm : Nat → Nat} (hR : xR yV ad h0 F W pm h) : mCon l D aC mX6_ruleCount [.ref (ad 30 0 0)] h (mRi (F 30 0 0 3) (fun h' => xR yV ad h0 (tS F (nI 0)) W pm h')) := by
  refine mCon.of [some (.ref (ad 30 0 0))] (by decide +kernel) rfl (Nat.le_of_ble_eq_true rfl) ?_
  intro K el eD eC hK hZ
  subst el eD eC
  refine mJ_aload_n hK dX6_ruleCount_0 rfl ?_
  refine mJ_iconst (v := nI 0) hK dX6_ruleCount_1 (by decide) ?_
  refine xJ_puti hR hK dX6_ruleCount_2 fX6_117 sX6_0 rfl rfl (by unfold yV; omega) (fun _ _ => rfl) (by decide) rfl (fun h hR => ?_)
  refine mJ_aload_n hK dX6_ruleCount_5 rfl ?_
  refine xJ_geti hR hK dX6_ruleCount_6 fX6_188 (by unfold yV; omega) (fun _ _ => rfl) (by decide) rfl ?_
  refine mJ_iret hK dX6_ruleCount_9 rfl hZ (by decide) (by decide) ?_
  exact ⟨rfl, hR⟩

set_option maxRecDepth 100000 in
set_option maxHeartbeats 4000000 in
theorem k_X6_clock {l : Launch} {D : va_G} {aC : Nat → ClassId} {ad : xAd} {h0 h : mH} {F : xFm} {W : xWm} {pm : Nat → Nat} (hR : xR yV ad h0 F W pm h) : mCon l D aC mX6_clock [.ref (ad 30 0 0)] h (mRi (F 30 0 0 18) (fun h' => xR yV ad h0 (tS F (nI 0)) W pm h')) := by
  refine mCon.of [some (.ref (ad 30 0 0))] (by decide +kernel) rfl (Nat.le_of_ble_eq_true rfl) ?_
  intro K el eD eC hK hZ
  subst el eD eC
  refine mJ_aload_n hK dX6_clock_0 rfl ?_
  refine mJ_iconst (v := nI 0) hK dX6_clock_1 (by decide) ?_
  refine xJ_puti hR hK dX6_clock_2 fX6_117 sX6_0 rfl rfl (by unfold yV; omega) (fun _ _ => rfl) (by decide) rfl (fun h hR => ?_)
  refine mJ_aload_n hK dX6_clock_5 rfl ?_
  refine xJ_geti hR hK dX6_clock_6 fX6_204 (by unfold yV; omega) (fun _ _ => rfl) (by decide) rfl ?_
  refine mJ_iret hK dX6_clock_9 rfl hZ (by decide) (by decide) ?_
  exact ⟨rfl, hR⟩

set_option maxRecDepth 100000 in
set_option maxHeartbeats 4000000 in
theorem k_X6_patternOf {l : Launch} {D : va_G} {aC : Nat → ClassId} {ad : xAd} {h0 h : mH} {F : xFm} {W : xWm} {pm : Nat → Nat} (hR : xR yV ad h0 F W pm h) {rn : Nat} (hrn : F 30 0 0 3 = nI rn) (hrn8 : rn ≤ 8) {i : Nat} (hi : i < rn) : mCon l D aC mX6_patternOf [.ref (ad 30 0 0), .int (nI i)] h (mRi (F 34 0 0 i) (fun h' => xR yV ad h0 (tS F (nI 0)) W pm h')) := by
  refine mCon.of [some (.ref (ad 30 0 0)), some (.int (nI i))] (by decide +kernel) rfl (Nat.le_of_ble_eq_true rfl) ?_
  intro K el eD eC hK hZ
  subst el eD eC
  refine mJ_aload_n hK dX6_patternOf_0 rfl ?_
  refine mJ_aload_n hK dX6_patternOf_1 rfl ?_
  refine mJ_iload_n hK dX6_patternOf_2 rfl ?_
  refine mJ_cVi hK dX6_patternOf_3 lX6_194 (by unfold mFit; decide) (by decide) (k_X6_isRule hR hrn hrn8 _) rfl rfl (Nat.le_of_ble_eq_true rfl) (hR.1 _ _ _ (by unfold yV; omega)) ⟨_, _, rfl⟩ (fun h e9 => ?_)
  subst e9
  refine mJ_ifb_eq (tgt := 13) hK dX6_patternOf_6 (by decide) (fun c_6 => ?_) (fun c_6 => ?_)
  · exact (c_6 ⟨nI_pos' (by omega), nI_lt hi (by omega)⟩).elim
  · refine mJ_iconst (v := nI 0) hK dX6_patternOf_9 (by decide) ?_
    refine mJ_goto (tgt := 14) hK dX6_patternOf_10 (by decide) ?_
    refine xJ_puti hR hK dX6_patternOf_14 fX6_117 sX6_0 rfl rfl (by unfold yV; omega) (fun _ _ => rfl) (by decide) rfl (fun h hR => ?_)
    refine mJ_aload_n hK dX6_patternOf_17 rfl ?_
    refine xJ_getx (nI 0) hR hK dX6_patternOf_18 fX6_117 (by unfold yV; omega) (fun _ _ => rfl) (by decide) rfl (by simp [fr, upd]) ?_
    refine mJ_nif_le (tgt := 28) hK dX6_patternOf_21 (by decide) (by omega) (fun c_21 => ?_) (fun c_21 => ?_)
    · refine mJ_aload_n hK dX6_patternOf_28 rfl ?_
      refine xJ_getr hR hK dX6_patternOf_29 fX6_13 (by unfold yV; omega) (fun _ _ => rfl) (by decide) (fun _ _ => rfl) ?_
      refine mJ_iload_n hK dX6_patternOf_32 rfl ?_
      refine xJ_iald i hR hK dX6_patternOf_33 (by unfold yV; omega) (fun _ _ => rfl) rfl (by omega) (by decide) ?_
      refine mJ_iret hK dX6_patternOf_34 rfl hZ (by decide) (by decide) ?_
      exact ⟨rfl, hR⟩
    · exact absurd c_21 (by omega)

set_option maxRecDepth 100000 in
set_option maxHeartbeats 4000000 in
theorem k_X6_patternOf_x {l : Launch} {D : va_G} {aC : Nat → ClassId} {ad : xAd} {h0 h : mH} {F : xFm} {W : xWm} {pm : Nat → Nat} (hR : xR yV ad h0 F W pm h) {rn : Nat} (hrn : F 30 0 0 3 = nI rn) (hrn8 : rn ≤ 8) {x : Int32} (hx : ¬ (0 ≤ x ∧ x < nI rn)) : mCon l D aC mX6_patternOf [.ref (ad 30 0 0), .int x] h (mRi (nI 0) (fun h' => xR yV ad h0 (tS F (nI 1)) W pm h')) := by
  refine mCon.of [some (.ref (ad 30 0 0)), some (.int x)] (by decide +kernel) rfl (Nat.le_of_ble_eq_true rfl) ?_
  intro K el eD eC hK hZ
  subst el eD eC
  refine mJ_aload_n hK dX6_patternOf_0 rfl ?_
  refine mJ_aload_n hK dX6_patternOf_1 rfl ?_
  refine mJ_iload_n hK dX6_patternOf_2 rfl ?_
  refine mJ_cVi hK dX6_patternOf_3 lX6_194 (by unfold mFit; decide) (by decide) (k_X6_isRule hR hrn hrn8 _) rfl rfl (Nat.le_of_ble_eq_true rfl) (hR.1 _ _ _ (by unfold yV; omega)) ⟨_, _, rfl⟩ (fun h e9 => ?_)
  subst e9
  refine mJ_ifb_eq (tgt := 13) hK dX6_patternOf_6 (by decide) (fun c_6 => ?_) (fun c_6 => ?_)
  · refine mJ_iconst (v := nI 1) hK dX6_patternOf_13 (by decide) ?_
    refine xJ_puti hR hK dX6_patternOf_14 fX6_117 sX6_0 rfl rfl (by unfold yV; omega) (fun _ _ => rfl) (by decide) rfl (fun h hR => ?_)
    refine mJ_aload_n hK dX6_patternOf_17 rfl ?_
    refine xJ_getx (nI 1) hR hK dX6_patternOf_18 fX6_117 (by unfold yV; omega) (fun _ _ => rfl) (by decide) rfl (by simp [fr, upd]) ?_
    refine mJ_nif_le (tgt := 28) hK dX6_patternOf_21 (by decide) (by omega) (fun c_21 => ?_) (fun c_21 => ?_)
    · exact absurd c_21 (by omega)
    · refine mJ_iconst (v := nI 0) hK dX6_patternOf_24 (by decide) ?_
      refine mJ_goto (tgt := 34) hK dX6_patternOf_25 (by decide) ?_
      refine mJ_iret hK dX6_patternOf_34 rfl hZ (by decide) (by decide) ?_
      exact ⟨rfl, hR⟩
  · exact absurd c_6 hx

set_option maxRecDepth 100000 in
set_option maxHeartbeats 4000000 in
theorem k_X6_firings {l : Launch} {D : va_G} {aC : Nat → ClassId} {ad : xAd} {h0 h : mH} {F : xFm} {W : xWm} {pm : Nat → Nat} (hR : xR yV ad h0 F W pm h) {rn : Nat} (hrn : F 30 0 0 3 = nI rn) (hrn8 : rn ≤ 8) {i : Nat} (hi : i < rn) : mCon l D aC mX6_firings [.ref (ad 30 0 0), .int (nI i)] h (mRi (F 41 0 0 i) (fun h' => xR yV ad h0 (tS F (nI 0)) W pm h')) := by
  refine mCon.of [some (.ref (ad 30 0 0)), some (.int (nI i))] (by decide +kernel) rfl (Nat.le_of_ble_eq_true rfl) ?_
  intro K el eD eC hK hZ
  subst el eD eC
  refine mJ_aload_n hK dX6_firings_0 rfl ?_
  refine mJ_aload_n hK dX6_firings_1 rfl ?_
  refine mJ_iload_n hK dX6_firings_2 rfl ?_
  refine mJ_cVi hK dX6_firings_3 lX6_194 (by unfold mFit; decide) (by decide) (k_X6_isRule hR hrn hrn8 _) rfl rfl (Nat.le_of_ble_eq_true rfl) (hR.1 _ _ _ (by unfold yV; omega)) ⟨_, _, rfl⟩ (fun h e9 => ?_)
  subst e9
  refine mJ_ifb_eq (tgt := 13) hK dX6_firings_6 (by decide) (fun c_6 => ?_) (fun c_6 => ?_)
  · exact (c_6 ⟨nI_pos' (by omega), nI_lt hi (by omega)⟩).elim
  · refine mJ_iconst (v := nI 0) hK dX6_firings_9 (by decide) ?_
    refine mJ_goto (tgt := 14) hK dX6_firings_10 (by decide) ?_
    refine xJ_puti hR hK dX6_firings_14 fX6_117 sX6_0 rfl rfl (by unfold yV; omega) (fun _ _ => rfl) (by decide) rfl (fun h hR => ?_)
    refine mJ_aload_n hK dX6_firings_17 rfl ?_
    refine xJ_getx (nI 0) hR hK dX6_firings_18 fX6_117 (by unfold yV; omega) (fun _ _ => rfl) (by decide) rfl (by simp [fr, upd]) ?_
    refine mJ_nif_le (tgt := 28) hK dX6_firings_21 (by decide) (by omega) (fun c_21 => ?_) (fun c_21 => ?_)
    · refine mJ_aload_n hK dX6_firings_28 rfl ?_
      refine xJ_getr hR hK dX6_firings_29 fX6_34 (by unfold yV; omega) (fun _ _ => rfl) (by decide) (fun _ _ => rfl) ?_
      refine mJ_iload_n hK dX6_firings_32 rfl ?_
      refine xJ_iald i hR hK dX6_firings_33 (by unfold yV; omega) (fun _ _ => rfl) rfl (by omega) (by decide) ?_
      refine mJ_iret hK dX6_firings_34 rfl hZ (by decide) (by decide) ?_
      exact ⟨rfl, hR⟩
    · exact absurd c_21 (by omega)

set_option maxRecDepth 100000 in
set_option maxHeartbeats 4000000 in
theorem k_X6_firings_x {l : Launch} {D : va_G} {aC : Nat → ClassId} {ad : xAd} {h0 h : mH} {F : xFm} {W : xWm} {pm : Nat → Nat} (hR : xR yV ad h0 F W pm h) {rn : Nat} (hrn : F 30 0 0 3 = nI rn) (hrn8 : rn ≤ 8) {x : Int32} (hx : ¬ (0 ≤ x ∧ x < nI rn)) : mCon l D aC mX6_firings [.ref (ad 30 0 0), .int x] h (mRi (nI 0) (fun h' => xR yV ad h0 (tS F (nI 1)) W pm h')) := by
  refine mCon.of [some (.ref (ad 30 0 0)), some (.int x)] (by decide +kernel) rfl (Nat.le_of_ble_eq_true rfl) ?_
  intro K el eD eC hK hZ
  subst el eD eC
  refine mJ_aload_n hK dX6_firings_0 rfl ?_
  refine mJ_aload_n hK dX6_firings_1 rfl ?_
  refine mJ_iload_n hK dX6_firings_2 rfl ?_
  refine mJ_cVi hK dX6_firings_3 lX6_194 (by unfold mFit; decide) (by decide) (k_X6_isRule hR hrn hrn8 _) rfl rfl (Nat.le_of_ble_eq_true rfl) (hR.1 _ _ _ (by unfold yV; omega)) ⟨_, _, rfl⟩ (fun h e9 => ?_)
  subst e9
  refine mJ_ifb_eq (tgt := 13) hK dX6_firings_6 (by decide) (fun c_6 => ?_) (fun c_6 => ?_)
  · refine mJ_iconst (v := nI 1) hK dX6_firings_13 (by decide) ?_
    refine xJ_puti hR hK dX6_firings_14 fX6_117 sX6_0 rfl rfl (by unfold yV; omega) (fun _ _ => rfl) (by decide) rfl (fun h hR => ?_)
    refine mJ_aload_n hK dX6_firings_17 rfl ?_
    refine xJ_getx (nI 1) hR hK dX6_firings_18 fX6_117 (by unfold yV; omega) (fun _ _ => rfl) (by decide) rfl (by simp [fr, upd]) ?_
    refine mJ_nif_le (tgt := 28) hK dX6_firings_21 (by decide) (by omega) (fun c_21 => ?_) (fun c_21 => ?_)
    · exact absurd c_21 (by omega)
    · refine mJ_iconst (v := nI 0) hK dX6_firings_24 (by decide) ?_
      refine mJ_goto (tgt := 34) hK dX6_firings_25 (by decide) ?_
      refine mJ_iret hK dX6_firings_34 rfl hZ (by decide) (by decide) ?_
      exact ⟨rfl, hR⟩
  · exact absurd c_6 hx

set_option maxRecDepth 100000 in
set_option maxHeartbeats 4000000 in
theorem k_X6_setPolicy {l : Launch} {D : va_G} {aC : Nat → ClassId} {ad : xAd} {h0 h : mH} {F : xFm} {W : xWm} {pm : Nat → Nat} (hR : xR yV ad h0 F W pm h) {q : Nat} (hq : q ≤ 2) : mCon l D aC mX6_setPolicy [.ref (ad 30 0 0), .int (nI q)] h (mRi (F 30 0 0 13) (fun h' => xR yV ad h0 (fr (tS F (nI 0)) 30 0 0 (upd (upd (F 30 0 0) 0 (nI 0)) 13 (nI q))) W pm h')) := by
  refine mCon.of [some (.ref (ad 30 0 0)), some (.int (nI q)), none] (by decide +kernel) rfl (Nat.le_of_ble_eq_true rfl) ?_
  intro K el eD eC hK hZ
  subst el eD eC
  refine mJ_aload_n hK dX6_setPolicy_0 rfl ?_
  refine mJ_iload_n hK dX6_setPolicy_1 rfl ?_
  refine mJ_iconst (v := nI 0) hK dX6_setPolicy_2 (by decide) ?_
  refine mJ_iconst (v := nI 2) hK dX6_setPolicy_3 (by decide) ?_
  refine mJ_cSi hK dX6_setPolicy_4 lX6_120 (by unfold mFit; decide) (by decide) (k_X6_withinN (by omega) (by omega) (by omega)) rfl rfl (Nat.le_of_ble_eq_true rfl) (fun h e9 => ?_)
  subst e9
  refine mJ_ifb_eq (tgt := 14) hK dX6_setPolicy_7 (by decide) (fun c_7 => ?_) (fun c_7 => ?_)
  · exact absurd c_7 (by omega)
  · refine mJ_iconst (v := nI 0) hK dX6_setPolicy_10 (by decide) ?_
    refine mJ_goto (tgt := 15) hK dX6_setPolicy_11 (by decide) ?_
    refine xJ_puti hR hK dX6_setPolicy_15 fX6_117 sX6_0 rfl rfl (by unfold yV; omega) (fun _ _ => rfl) (by decide) rfl (fun h hR => ?_)
    refine mJ_aload_n hK dX6_setPolicy_18 rfl ?_
    refine xJ_getx (nI 0) hR hK dX6_setPolicy_19 fX6_117 (by unfold yV; omega) (fun _ _ => rfl) (by decide) rfl (by simp [fr, upd]) ?_
    refine mJ_nif_le (tgt := 27) hK dX6_setPolicy_22 (by decide) (by omega) (fun c_22 => ?_) (fun c_22 => ?_)
    · refine mJ_aload_n hK dX6_setPolicy_27 rfl ?_
      refine xJ_geti hR hK dX6_setPolicy_28 fX6_201 (by unfold yV; omega) (fun _ _ => rfl) (by decide) rfl ?_
      refine mJ_istore_n hK dX6_setPolicy_31 (by decide) rfl ?_
      refine mJ_aload_n hK dX6_setPolicy_32 rfl ?_
      refine mJ_iload_n hK dX6_setPolicy_33 rfl ?_
      refine xJ_puti hR hK dX6_setPolicy_34 fX6_201 sX6_13 rfl rfl (by unfold yV; omega) (fun _ _ => rfl) (by decide) rfl (fun h hR => ?_)
      refine mJ_iload_n hK dX6_setPolicy_37 rfl ?_
      refine mJ_iret hK dX6_setPolicy_38 rfl hZ (by decide) (by decide) ?_
      exact ⟨rfl, hR⟩
    · exact absurd c_22 (by omega)

set_option maxRecDepth 100000 in
set_option maxHeartbeats 4000000 in
theorem k_X6_setPolicy_x {l : Launch} {D : va_G} {aC : Nat → ClassId} {ad : xAd} {h0 h : mH} {F : xFm} {W : xWm} {pm : Nat → Nat} (hR : xR yV ad h0 F W pm h) {x : Int32} (hx : ¬ (0 ≤ x ∧ x ≤ nI 2)) : mCon l D aC mX6_setPolicy [.ref (ad 30 0 0), .int x] h (mRi (nI 0) (fun h' => xR yV ad h0 (tS F (nI 1)) W pm h')) := by
  refine mCon.of [some (.ref (ad 30 0 0)), some (.int x), none] (by decide +kernel) rfl (Nat.le_of_ble_eq_true rfl) ?_
  intro K el eD eC hK hZ
  subst el eD eC
  refine mJ_aload_n hK dX6_setPolicy_0 rfl ?_
  refine mJ_iload_n hK dX6_setPolicy_1 rfl ?_
  refine mJ_iconst (v := nI 0) hK dX6_setPolicy_2 (by decide) ?_
  refine mJ_iconst (v := nI 2) hK dX6_setPolicy_3 (by decide) ?_
  refine mJ_cSi hK dX6_setPolicy_4 lX6_120 (by unfold mFit; decide) (by decide) (k_X6_within _ _ _) rfl rfl (Nat.le_of_ble_eq_true rfl) (fun h e9 => ?_)
  subst e9
  refine mJ_ifb_eq (tgt := 14) hK dX6_setPolicy_7 (by decide) (fun c_7 => ?_) (fun c_7 => ?_)
  · refine mJ_iconst (v := nI 1) hK dX6_setPolicy_14 (by decide) ?_
    refine xJ_puti hR hK dX6_setPolicy_15 fX6_117 sX6_0 rfl rfl (by unfold yV; omega) (fun _ _ => rfl) (by decide) rfl (fun h hR => ?_)
    refine mJ_aload_n hK dX6_setPolicy_18 rfl ?_
    refine xJ_getx (nI 1) hR hK dX6_setPolicy_19 fX6_117 (by unfold yV; omega) (fun _ _ => rfl) (by decide) rfl (by simp [fr, upd]) ?_
    refine mJ_nif_le (tgt := 27) hK dX6_setPolicy_22 (by decide) (by omega) (fun c_22 => ?_) (fun c_22 => ?_)
    · exact absurd c_22 (by omega)
    · refine mJ_iconst (v := nI 0) hK dX6_setPolicy_25 (by decide) ?_
      refine mJ_iret hK dX6_setPolicy_26 rfl hZ (by decide) (by decide) ?_
      exact ⟨rfl, hR⟩
  · exact absurd c_7 hx

def mPut (F : xFm) (c n : Nat) (v k : Int32) : xFm := fr (fr (fr (fr F 45 0 0 (upd (F 45 0 0) (8 * c + n) v)) 46 0 0 (upd (F 46 0 0) (8 * c + n) (F 30 0 0 18))) 47 0 0 (upd (F 47 0 0) (8 * c + n) k)) 44 0 0 (upd (F 44 0 0) c (nI (n + 1)))
set_option maxRecDepth 100000 in
set_option maxHeartbeats 4000000 in
theorem k_X6_put {l : Launch} {D : va_G} {aC : Nat → ClassId} {ad : xAd} {h0 h : mH} {F : xFm} {W : xWm} {pm : Nat → Nat} (hR : xR yV ad h0 F W pm h) {c : Nat} (hc : c < 8) {n : Nat} (hn : F 44 0 0 c = nI n) (hn8 : n < 8) (v k : Int32) : mCon l D aC mX6_put [.ref (ad 30 0 0), .int (nI c), .int v, .int k] h (mRv (fun h' => xR yV ad h0 (mPut F c n v k) W pm h')) := by
  refine mCon.of [some (.ref (ad 30 0 0)), some (.int (nI c)), some (.int v), some (.int k), none] (by decide +kernel) rfl (Nat.le_of_ble_eq_true rfl) ?_
  intro K el eD eC hK hZ
  subst el eD eC
  refine mJ_bipush (v := nI 8) hK dX6_put_0 (by decide) ?_
  refine mJ_iload_n hK dX6_put_2 rfl ?_
  refine mJ_imulN hK dX6_put_3 ?_
  refine mJ_aload_n hK dX6_put_4 rfl ?_
  refine xJ_getr hR hK dX6_put_5 fX6_41 (by unfold yV; omega) (fun _ _ => rfl) (by decide) (fun _ _ => rfl) ?_
  refine mJ_iload_n hK dX6_put_8 rfl ?_
  refine xJ_ialdx c (nI n) hR hK dX6_put_9 (by unfold yV; omega) (fun _ _ => rfl) rfl (by omega) (by decide) (by first | exact hn | (simp [fr, upd]; exact hn) | (simp [fr, upd, tS]; exact hn)) ?_
  refine mJ_iaddN hK dX6_put_10 ?_
  refine mJ_istore hK dX6_put_11 (by decide) rfl ?_
  refine mJ_aload_n hK dX6_put_13 rfl ?_
  refine xJ_getr hR hK dX6_put_14 fX6_44 (by unfold yV; omega) (fun _ _ => rfl) (by decide) (fun _ _ => rfl) ?_
  refine mJ_iload hK dX6_put_17 rfl ?_
  refine mJ_iload_n hK dX6_put_19 rfl ?_
  refine xJ_iast ((8 * c) + n) hR hK dX6_put_20 (by unfold yV; omega) (fun _ _ => rfl) rfl (by omega) (by decide) (fun h hR => ?_)
  refine mJ_aload_n hK dX6_put_21 rfl ?_
  refine xJ_getr hR hK dX6_put_22 fX6_47 (by unfold yV; omega) (fun _ _ => rfl) (by decide) (fun _ _ => rfl) ?_
  refine mJ_iload hK dX6_put_25 rfl ?_
  refine mJ_aload_n hK dX6_put_27 rfl ?_
  refine xJ_geti hR hK dX6_put_28 fX6_204 (by unfold yV; omega) (fun _ _ => rfl) (by decide) rfl ?_
  refine xJ_iast ((8 * c) + n) hR hK dX6_put_31 (by unfold yV; omega) (fun _ _ => rfl) rfl (by omega) (by decide) (fun h hR => ?_)
  refine mJ_aload_n hK dX6_put_32 rfl ?_
  refine xJ_getr hR hK dX6_put_33 fX6_50 (by unfold yV; omega) (fun _ _ => rfl) (by decide) (fun _ _ => rfl) ?_
  refine mJ_iload hK dX6_put_36 rfl ?_
  refine mJ_iload_n hK dX6_put_38 rfl ?_
  refine xJ_iast ((8 * c) + n) hR hK dX6_put_39 (by unfold yV; omega) (fun _ _ => rfl) rfl (by omega) (by decide) (fun h hR => ?_)
  refine mJ_aload_n hK dX6_put_40 rfl ?_
  refine xJ_getr hR hK dX6_put_41 fX6_41 (by unfold yV; omega) (fun _ _ => rfl) (by decide) (fun _ _ => rfl) ?_
  refine mJ_iload_n hK dX6_put_44 rfl ?_
  refine mJ_dup2 hK dX6_put_45 rfl rfl ?_
  refine xJ_ialdx c (nI n) hR hK dX6_put_46 (by unfold yV; omega) (fun _ _ => rfl) rfl (by omega) (by decide) (by first | exact hn | (simp [fr, upd]; exact hn) | (simp [fr, upd, tS]; exact hn)) ?_
  refine mJ_iconst (v := nI 1) hK dX6_put_47 (by decide) ?_
  refine mJ_iaddN hK dX6_put_48 ?_
  refine xJ_iast c hR hK dX6_put_49 (by unfold yV; omega) (fun _ _ => rfl) rfl (by omega) (by decide) (fun h hR => ?_)
  refine mJ_vret hK dX6_put_50 rfl hZ (by decide) (by decide) ?_
  exact ⟨rfl, hR⟩

def mCk (F : xFm) : xFm := fr (tS F (nI 0)) 30 0 0 (upd (upd (F 30 0 0) 0 (nI 0)) 18 (F 30 0 0 18 + nI 1))
def mGv (F : xFm) (g : Nat) : xFm := fr (fr (mCk F) 50 0 0 (upd (F 50 0 0) (g % 24) (nI 0))) 30 0 0 (upd (mCk F 30 0 0) 19 (nI (g + 1)))
set_option maxRecDepth 100000 in
set_option maxHeartbeats 4000000 in
theorem k_X6_send_s {l : Launch} {D : va_G} {aC : Nat → ClassId} {ad : xAd} {h0 h : mH} {F : xFm} {W : xWm} {pm : Nat → Nat} (hR : xR yV ad h0 F W pm h) {c : Nat} (hc : c < 8) {n : Nat} (hn : F 44 0 0 c = nI n) (hn8 : n < 8) {v : Int32} (hv : -9999 ≤ v ∧ v ≤ nI 9999) {g : Nat} (hg : F 30 0 0 19 = nI g) (hgb : g < 1000000) (hc4 : c < 4) : mCon l D aC mX6_send [.ref (ad 30 0 0), .int (nI c), .int v] h (mRi (nI g) (fun h' => xR yV ad h0 (mPut (mGv F g) c n v (nI g)) W pm h')) := by
  refine mCon.of [some (.ref (ad 30 0 0)), some (.int (nI c)), some (.int v), none] (by decide +kernel) rfl (Nat.le_of_ble_eq_true rfl) ?_
  intro K el eD eC hK hZ
  subst el eD eC
  refine mJ_aload_n hK dX6_send_0 rfl ?_
  refine mJ_iload_n hK dX6_send_1 rfl ?_
  refine mJ_cSi hK dX6_send_2 lX6_207 (by unfold mFit; decide) (by decide) (k_X6_isChannelN (by omega)) rfl rfl (Nat.le_of_ble_eq_true rfl) (fun h e9 => ?_)
  subst e9
  refine mJ_ifb_ne (tgt := 12) hK dX6_send_5 (by decide) (fun c_5 => ?_) (fun c_5 => ?_)
  · refine mJ_iload_n hK dX6_send_12 rfl ?_
    refine mJ_sipush (v := -9999) hK dX6_send_13 (by decide) ?_
    refine mJ_sipush (v := nI 9999) hK dX6_send_16 (by decide) ?_
    refine mJ_cSi hK dX6_send_19 lX6_120 (by unfold mFit; decide) (by decide) (k_X6_within _ _ _) rfl rfl (Nat.le_of_ble_eq_true rfl) (fun h e9 => ?_)
    subst e9
    refine mJ_ifb_ne (tgt := 29) hK dX6_send_22 (by decide) (fun c_22 => ?_) (fun c_22 => ?_)
    · refine mJ_aload_n hK dX6_send_29 rfl ?_
      refine xJ_getr hR hK dX6_send_30 fX6_41 (by unfold yV; omega) (fun _ _ => rfl) (by decide) (fun _ _ => rfl) ?_
      refine mJ_iload_n hK dX6_send_33 rfl ?_
      refine xJ_ialdx c (nI n) hR hK dX6_send_34 (by unfold yV; omega) (fun _ _ => rfl) rfl (by omega) (by decide) (by first | exact hn | (simp [fr, upd]; exact hn) | (simp [fr, upd, tS]; exact hn)) ?_
      refine mJ_bipush (v := nI 8) hK dX6_send_35 (by decide) ?_
      refine mJ_nne (tgt := 44) hK dX6_send_37 (by decide) (by omega) (by omega) (fun c_37 => ?_) (fun c_37 => ?_)
      · refine mJ_iconst (v := nI 0) hK dX6_send_44 (by decide) ?_
        refine xJ_puti hR hK dX6_send_45 fX6_117 sX6_0 rfl rfl (by unfold yV; omega) (fun _ _ => rfl) (by decide) rfl (fun h hR => ?_)
        refine mJ_aload_n hK dX6_send_48 rfl ?_
        refine xJ_getx (nI 0) hR hK dX6_send_49 fX6_117 (by unfold yV; omega) (fun _ _ => rfl) (by decide) rfl (by simp [fr, upd]) ?_
        refine mJ_nif_le (tgt := 57) hK dX6_send_52 (by decide) (by omega) (fun c_52 => ?_) (fun c_52 => ?_)
        · refine mJ_aload_n hK dX6_send_57 rfl ?_
          refine mJ_dup hK dX6_send_58 rfl ?_
          refine xJ_geti hR hK dX6_send_59 fX6_204 (by unfold yV; omega) (fun _ _ => rfl) (by decide) rfl ?_
          refine mJ_iconst (v := nI 1) hK dX6_send_62 (by decide) ?_
          refine mJ_iadd hK dX6_send_63 ?_
          refine xJ_puti hR hK dX6_send_64 fX6_204 sX6_18 rfl rfl (by unfold yV; omega) (fun _ _ => rfl) (by decide) rfl (fun h hR => ?_)
          refine mJ_iload_n hK dX6_send_67 rfl ?_
          refine mJ_iconst (v := nI 4) hK dX6_send_68 (by decide) ?_
          refine mJ_nge (tgt := 79) hK dX6_send_69 (by decide) (by omega) (by omega) (fun c_69 => ?_) (fun c_69 => ?_)
          · exact absurd c_69 (by omega)
          · refine mJ_aload_n hK dX6_send_72 rfl ?_
            refine xJ_getx (nI g) hR hK dX6_send_73 fX6_210 (by unfold yV; omega) (fun _ _ => rfl) (by decide) rfl (by first | exact hg | (simp [fr, upd]; exact hg) | (simp [fr, upd, tS]; exact hg)) ?_
            refine mJ_goto (tgt := 80) hK dX6_send_76 (by decide) ?_
            refine mJ_istore_n hK dX6_send_80 (by decide) rfl ?_
            refine mJ_iload_n hK dX6_send_81 rfl ?_
            refine mJ_iconst (v := -1) hK dX6_send_82 (by decide) ?_
            refine mJ_icmp_eq (tgt := 106) hK dX6_send_83 (by decide) (fun c_83 => ?_) (fun c_83 => ?_)
            · exact (nI_m1 (by omega) c_83).elim
            · refine mJ_aload_n hK dX6_send_86 rfl ?_
              refine xJ_getr hR hK dX6_send_87 fX6_53 (by unfold yV; omega) (fun _ _ => rfl) (by decide) (fun _ _ => rfl) ?_
              refine mJ_iload_n hK dX6_send_90 rfl ?_
              refine mJ_bipush (v := nI 24) hK dX6_send_91 (by decide) ?_
              refine mJ_iremN hK dX6_send_93 (by omega) (by omega) (by omega) ?_
              refine mJ_iconst (v := nI 0) hK dX6_send_94 (by decide) ?_
              refine xJ_iast (g % 24) hR hK dX6_send_95 (by unfold yV; omega) (fun _ _ => rfl) rfl (by omega) (by decide) (fun h hR => ?_)
              refine mJ_aload_n hK dX6_send_96 rfl ?_
              refine mJ_dup hK dX6_send_97 rfl ?_
              refine xJ_getx (nI g) hR hK dX6_send_98 fX6_210 (by unfold yV; omega) (fun _ _ => rfl) (by decide) rfl (by first | exact hg | (simp [fr, upd]; exact hg) | (simp [fr, upd, tS]; exact hg)) ?_
              refine mJ_iconst (v := nI 1) hK dX6_send_101 (by decide) ?_
              refine mJ_iaddN hK dX6_send_102 ?_
              refine xJ_puti hR hK dX6_send_103 fX6_210 sX6_19 rfl rfl (by unfold yV; omega) (fun _ _ => rfl) (by decide) rfl (fun h hR => ?_)
              refine mJ_aload_n hK dX6_send_106 rfl ?_
              refine mJ_iload_n hK dX6_send_107 rfl ?_
              refine mJ_iload_n hK dX6_send_108 rfl ?_
              refine mJ_iload_n hK dX6_send_109 rfl ?_
              refine mJ_cVv hK dX6_send_110 lX6_213 (by unfold mFit; decide) (by decide) (k_X6_put hR hc (n := n) (by first | exact hn | (simp [fr, upd]; exact hn)) hn8 _ _) rfl rfl (Nat.le_of_ble_eq_true rfl) (hR.1 _ _ _ (by unfold yV; omega)) ⟨_, _, rfl⟩ (fun h hR => ?_)
              refine mJ_iload_n hK dX6_send_113 rfl ?_
              refine mJ_iret hK dX6_send_114 rfl hZ (by decide) (by decide) ?_
              exact ⟨rfl, hR⟩
        · exact absurd c_52 (by omega)
      · exact absurd c_37 (by omega)
    · exact absurd hv c_22
  · exact absurd c_5 (by omega)

set_option maxRecDepth 100000 in
set_option maxHeartbeats 4000000 in
theorem k_X6_send_a {l : Launch} {D : va_G} {aC : Nat → ClassId} {ad : xAd} {h0 h : mH} {F : xFm} {W : xWm} {pm : Nat → Nat} (hR : xR yV ad h0 F W pm h) {c : Nat} (hc : c < 8) {n : Nat} (hn : F 44 0 0 c = nI n) (hn8 : n < 8) {v : Int32} (hv : -9999 ≤ v ∧ v ≤ nI 9999) (hc4 : 4 ≤ c) : mCon l D aC mX6_send [.ref (ad 30 0 0), .int (nI c), .int v] h (mRi (-1) (fun h' => xR yV ad h0 (mPut (mCk F) c n v (-1)) W pm h')) := by
  refine mCon.of [some (.ref (ad 30 0 0)), some (.int (nI c)), some (.int v), none] (by decide +kernel) rfl (Nat.le_of_ble_eq_true rfl) ?_
  intro K el eD eC hK hZ
  subst el eD eC
  refine mJ_aload_n hK dX6_send_0 rfl ?_
  refine mJ_iload_n hK dX6_send_1 rfl ?_
  refine mJ_cSi hK dX6_send_2 lX6_207 (by unfold mFit; decide) (by decide) (k_X6_isChannelN (by omega)) rfl rfl (Nat.le_of_ble_eq_true rfl) (fun h e9 => ?_)
  subst e9
  refine mJ_ifb_ne (tgt := 12) hK dX6_send_5 (by decide) (fun c_5 => ?_) (fun c_5 => ?_)
  · refine mJ_iload_n hK dX6_send_12 rfl ?_
    refine mJ_sipush (v := -9999) hK dX6_send_13 (by decide) ?_
    refine mJ_sipush (v := nI 9999) hK dX6_send_16 (by decide) ?_
    refine mJ_cSi hK dX6_send_19 lX6_120 (by unfold mFit; decide) (by decide) (k_X6_within _ _ _) rfl rfl (Nat.le_of_ble_eq_true rfl) (fun h e9 => ?_)
    subst e9
    refine mJ_ifb_ne (tgt := 29) hK dX6_send_22 (by decide) (fun c_22 => ?_) (fun c_22 => ?_)
    · refine mJ_aload_n hK dX6_send_29 rfl ?_
      refine xJ_getr hR hK dX6_send_30 fX6_41 (by unfold yV; omega) (fun _ _ => rfl) (by decide) (fun _ _ => rfl) ?_
      refine mJ_iload_n hK dX6_send_33 rfl ?_
      refine xJ_ialdx c (nI n) hR hK dX6_send_34 (by unfold yV; omega) (fun _ _ => rfl) rfl (by omega) (by decide) (by first | exact hn | (simp [fr, upd]; exact hn) | (simp [fr, upd, tS]; exact hn)) ?_
      refine mJ_bipush (v := nI 8) hK dX6_send_35 (by decide) ?_
      refine mJ_nne (tgt := 44) hK dX6_send_37 (by decide) (by omega) (by omega) (fun c_37 => ?_) (fun c_37 => ?_)
      · refine mJ_iconst (v := nI 0) hK dX6_send_44 (by decide) ?_
        refine xJ_puti hR hK dX6_send_45 fX6_117 sX6_0 rfl rfl (by unfold yV; omega) (fun _ _ => rfl) (by decide) rfl (fun h hR => ?_)
        refine mJ_aload_n hK dX6_send_48 rfl ?_
        refine xJ_getx (nI 0) hR hK dX6_send_49 fX6_117 (by unfold yV; omega) (fun _ _ => rfl) (by decide) rfl (by simp [fr, upd]) ?_
        refine mJ_nif_le (tgt := 57) hK dX6_send_52 (by decide) (by omega) (fun c_52 => ?_) (fun c_52 => ?_)
        · refine mJ_aload_n hK dX6_send_57 rfl ?_
          refine mJ_dup hK dX6_send_58 rfl ?_
          refine xJ_geti hR hK dX6_send_59 fX6_204 (by unfold yV; omega) (fun _ _ => rfl) (by decide) rfl ?_
          refine mJ_iconst (v := nI 1) hK dX6_send_62 (by decide) ?_
          refine mJ_iadd hK dX6_send_63 ?_
          refine xJ_puti hR hK dX6_send_64 fX6_204 sX6_18 rfl rfl (by unfold yV; omega) (fun _ _ => rfl) (by decide) rfl (fun h hR => ?_)
          refine mJ_iload_n hK dX6_send_67 rfl ?_
          refine mJ_iconst (v := nI 4) hK dX6_send_68 (by decide) ?_
          refine mJ_nge (tgt := 79) hK dX6_send_69 (by decide) (by omega) (by omega) (fun c_69 => ?_) (fun c_69 => ?_)
          · refine mJ_iconst (v := -1) hK dX6_send_79 (by decide) ?_
            refine mJ_istore_n hK dX6_send_80 (by decide) rfl ?_
            refine mJ_iload_n hK dX6_send_81 rfl ?_
            refine mJ_iconst (v := -1) hK dX6_send_82 (by decide) ?_
            refine mJ_icmp_eq (tgt := 106) hK dX6_send_83 (by decide) (fun c_83 => ?_) (fun c_83 => ?_)
            · refine mJ_aload_n hK dX6_send_106 rfl ?_
              refine mJ_iload_n hK dX6_send_107 rfl ?_
              refine mJ_iload_n hK dX6_send_108 rfl ?_
              refine mJ_iload_n hK dX6_send_109 rfl ?_
              refine mJ_cVv hK dX6_send_110 lX6_213 (by unfold mFit; decide) (by decide) (k_X6_put hR hc (n := n) (by first | exact hn | (simp [fr, upd]; exact hn)) hn8 _ _) rfl rfl (Nat.le_of_ble_eq_true rfl) (hR.1 _ _ _ (by unfold yV; omega)) ⟨_, _, rfl⟩ (fun h hR => ?_)
              refine mJ_iload_n hK dX6_send_113 rfl ?_
              refine mJ_iret hK dX6_send_114 rfl hZ (by decide) (by decide) ?_
              exact ⟨rfl, hR⟩
            · exact absurd rfl c_83
          · exact absurd c_69 (by omega)
        · exact absurd c_52 (by omega)
      · exact absurd c_37 (by omega)
    · exact absurd hv c_22
  · exact absurd c_5 (by omega)

set_option maxRecDepth 100000 in
set_option maxHeartbeats 4000000 in
theorem k_X6_send_x1 {l : Launch} {D : va_G} {aC : Nat → ClassId} {ad : xAd} {h0 h : mH} {F : xFm} {W : xWm} {pm : Nat → Nat} (hR : xR yV ad h0 F W pm h) {x : Int32} (hx : ¬ (0 ≤ x ∧ x < nI 8)) (v : Int32) : mCon l D aC mX6_send [.ref (ad 30 0 0), .int x, .int v] h (mRi (nI 0) (fun h' => xR yV ad h0 (tS F (nI 1)) W pm h')) := by
  refine mCon.of [some (.ref (ad 30 0 0)), some (.int x), some (.int v), none] (by decide +kernel) rfl (Nat.le_of_ble_eq_true rfl) ?_
  intro K el eD eC hK hZ
  subst el eD eC
  refine mJ_aload_n hK dX6_send_0 rfl ?_
  refine mJ_iload_n hK dX6_send_1 rfl ?_
  refine mJ_cSi hK dX6_send_2 lX6_207 (by unfold mFit; decide) (by decide) (k_X6_isChannel _) rfl rfl (Nat.le_of_ble_eq_true rfl) (fun h e9 => ?_)
  subst e9
  refine mJ_ifb_ne (tgt := 12) hK dX6_send_5 (by decide) (fun c_5 => ?_) (fun c_5 => ?_)
  · exact absurd c_5 hx
  · refine mJ_iconst (v := nI 1) hK dX6_send_8 (by decide) ?_
    refine mJ_goto (tgt := 45) hK dX6_send_9 (by decide) ?_
    refine xJ_puti hR hK dX6_send_45 fX6_117 sX6_0 rfl rfl (by unfold yV; omega) (fun _ _ => rfl) (by decide) rfl (fun h hR => ?_)
    refine mJ_aload_n hK dX6_send_48 rfl ?_
    refine xJ_getx (nI 1) hR hK dX6_send_49 fX6_117 (by unfold yV; omega) (fun _ _ => rfl) (by decide) rfl (by simp [fr, upd]) ?_
    refine mJ_nif_le (tgt := 57) hK dX6_send_52 (by decide) (by omega) (fun c_52 => ?_) (fun c_52 => ?_)
    · exact absurd c_52 (by omega)
    · refine mJ_iconst (v := nI 0) hK dX6_send_55 (by decide) ?_
      refine mJ_iret hK dX6_send_56 rfl hZ (by decide) (by decide) ?_
      exact ⟨rfl, hR⟩

set_option maxRecDepth 100000 in
set_option maxHeartbeats 4000000 in
theorem k_X6_send_x2 {l : Launch} {D : va_G} {aC : Nat → ClassId} {ad : xAd} {h0 h : mH} {F : xFm} {W : xWm} {pm : Nat → Nat} (hR : xR yV ad h0 F W pm h) {c : Nat} (hc : c < 8) {v : Int32} (hv : ¬ (-9999 ≤ v ∧ v ≤ nI 9999)) : mCon l D aC mX6_send [.ref (ad 30 0 0), .int (nI c), .int v] h (mRi (nI 0) (fun h' => xR yV ad h0 (tS F (nI 2)) W pm h')) := by
  refine mCon.of [some (.ref (ad 30 0 0)), some (.int (nI c)), some (.int v), none] (by decide +kernel) rfl (Nat.le_of_ble_eq_true rfl) ?_
  intro K el eD eC hK hZ
  subst el eD eC
  refine mJ_aload_n hK dX6_send_0 rfl ?_
  refine mJ_iload_n hK dX6_send_1 rfl ?_
  refine mJ_cSi hK dX6_send_2 lX6_207 (by unfold mFit; decide) (by decide) (k_X6_isChannelN (by omega)) rfl rfl (Nat.le_of_ble_eq_true rfl) (fun h e9 => ?_)
  subst e9
  refine mJ_ifb_ne (tgt := 12) hK dX6_send_5 (by decide) (fun c_5 => ?_) (fun c_5 => ?_)
  · refine mJ_iload_n hK dX6_send_12 rfl ?_
    refine mJ_sipush (v := -9999) hK dX6_send_13 (by decide) ?_
    refine mJ_sipush (v := nI 9999) hK dX6_send_16 (by decide) ?_
    refine mJ_cSi hK dX6_send_19 lX6_120 (by unfold mFit; decide) (by decide) (k_X6_within _ _ _) rfl rfl (Nat.le_of_ble_eq_true rfl) (fun h e9 => ?_)
    subst e9
    refine mJ_ifb_ne (tgt := 29) hK dX6_send_22 (by decide) (fun c_22 => ?_) (fun c_22 => ?_)
    · exact absurd c_22 hv
    · refine mJ_iconst (v := nI 2) hK dX6_send_25 (by decide) ?_
      refine mJ_goto (tgt := 45) hK dX6_send_26 (by decide) ?_
      refine xJ_puti hR hK dX6_send_45 fX6_117 sX6_0 rfl rfl (by unfold yV; omega) (fun _ _ => rfl) (by decide) rfl (fun h hR => ?_)
      refine mJ_aload_n hK dX6_send_48 rfl ?_
      refine xJ_getx (nI 2) hR hK dX6_send_49 fX6_117 (by unfold yV; omega) (fun _ _ => rfl) (by decide) rfl (by simp [fr, upd]) ?_
      refine mJ_nif_le (tgt := 57) hK dX6_send_52 (by decide) (by omega) (fun c_52 => ?_) (fun c_52 => ?_)
      · exact absurd c_52 (by omega)
      · refine mJ_iconst (v := nI 0) hK dX6_send_55 (by decide) ?_
        refine mJ_iret hK dX6_send_56 rfl hZ (by decide) (by decide) ?_
        exact ⟨rfl, hR⟩
  · exact absurd c_5 (by omega)

set_option maxRecDepth 100000 in
set_option maxHeartbeats 4000000 in
theorem k_X6_send_x3 {l : Launch} {D : va_G} {aC : Nat → ClassId} {ad : xAd} {h0 h : mH} {F : xFm} {W : xWm} {pm : Nat → Nat} (hR : xR yV ad h0 F W pm h) {c : Nat} (hc : c < 8) (hn : F 44 0 0 c = nI 8) {v : Int32} (hv : -9999 ≤ v ∧ v ≤ nI 9999) : mCon l D aC mX6_send [.ref (ad 30 0 0), .int (nI c), .int v] h (mRi (nI 0) (fun h' => xR yV ad h0 (tS F (nI 3)) W pm h')) := by
  refine mCon.of [some (.ref (ad 30 0 0)), some (.int (nI c)), some (.int v), none] (by decide +kernel) rfl (Nat.le_of_ble_eq_true rfl) ?_
  intro K el eD eC hK hZ
  subst el eD eC
  refine mJ_aload_n hK dX6_send_0 rfl ?_
  refine mJ_iload_n hK dX6_send_1 rfl ?_
  refine mJ_cSi hK dX6_send_2 lX6_207 (by unfold mFit; decide) (by decide) (k_X6_isChannelN (by omega)) rfl rfl (Nat.le_of_ble_eq_true rfl) (fun h e9 => ?_)
  subst e9
  refine mJ_ifb_ne (tgt := 12) hK dX6_send_5 (by decide) (fun c_5 => ?_) (fun c_5 => ?_)
  · refine mJ_iload_n hK dX6_send_12 rfl ?_
    refine mJ_sipush (v := -9999) hK dX6_send_13 (by decide) ?_
    refine mJ_sipush (v := nI 9999) hK dX6_send_16 (by decide) ?_
    refine mJ_cSi hK dX6_send_19 lX6_120 (by unfold mFit; decide) (by decide) (k_X6_within _ _ _) rfl rfl (Nat.le_of_ble_eq_true rfl) (fun h e9 => ?_)
    subst e9
    refine mJ_ifb_ne (tgt := 29) hK dX6_send_22 (by decide) (fun c_22 => ?_) (fun c_22 => ?_)
    · refine mJ_aload_n hK dX6_send_29 rfl ?_
      refine xJ_getr hR hK dX6_send_30 fX6_41 (by unfold yV; omega) (fun _ _ => rfl) (by decide) (fun _ _ => rfl) ?_
      refine mJ_iload_n hK dX6_send_33 rfl ?_
      refine xJ_ialdx c (nI 8) hR hK dX6_send_34 (by unfold yV; omega) (fun _ _ => rfl) rfl (by omega) (by decide) (by first | exact hn | (simp [fr, upd]; exact hn) | (simp [fr, upd, tS]; exact hn)) ?_
      refine mJ_bipush (v := nI 8) hK dX6_send_35 (by decide) ?_
      refine mJ_nne (tgt := 44) hK dX6_send_37 (by decide) (by omega) (by omega) (fun c_37 => ?_) (fun c_37 => ?_)
      · exact absurd c_37 (by omega)
      · refine mJ_iconst (v := nI 3) hK dX6_send_40 (by decide) ?_
        refine mJ_goto (tgt := 45) hK dX6_send_41 (by decide) ?_
        refine xJ_puti hR hK dX6_send_45 fX6_117 sX6_0 rfl rfl (by unfold yV; omega) (fun _ _ => rfl) (by decide) rfl (fun h hR => ?_)
        refine mJ_aload_n hK dX6_send_48 rfl ?_
        refine xJ_getx (nI 3) hR hK dX6_send_49 fX6_117 (by unfold yV; omega) (fun _ _ => rfl) (by decide) rfl (by simp [fr, upd]) ?_
        refine mJ_nif_le (tgt := 57) hK dX6_send_52 (by decide) (by omega) (fun c_52 => ?_) (fun c_52 => ?_)
        · exact absurd c_52 (by omega)
        · refine mJ_iconst (v := nI 0) hK dX6_send_55 (by decide) ?_
          refine mJ_iret hK dX6_send_56 rfl hZ (by decide) (by decide) ?_
          exact ⟨rfl, hR⟩
    · exact absurd hv c_22
  · exact absurd c_5 (by omega)

set_option maxRecDepth 100000 in
set_option maxHeartbeats 4000000 in
theorem k_X6_queueLength {l : Launch} {D : va_G} {aC : Nat → ClassId} {ad : xAd} {h0 h : mH} {F : xFm} {W : xWm} {pm : Nat → Nat} (hR : xR yV ad h0 F W pm h) {c : Nat} (hc : c < 8) : mCon l D aC mX6_queueLength [.ref (ad 30 0 0), .int (nI c)] h (mRi (F 44 0 0 c) (fun h' => xR yV ad h0 (tS F (nI 0)) W pm h')) := by
  refine mCon.of [some (.ref (ad 30 0 0)), some (.int (nI c))] (by decide +kernel) rfl (Nat.le_of_ble_eq_true rfl) ?_
  intro K el eD eC hK hZ
  subst el eD eC
  refine mJ_aload_n hK dX6_queueLength_0 rfl ?_
  refine mJ_iload_n hK dX6_queueLength_1 rfl ?_
  refine mJ_cSi hK dX6_queueLength_2 lX6_207 (by unfold mFit; decide) (by decide) (k_X6_isChannelN (by omega)) rfl rfl (Nat.le_of_ble_eq_true rfl) (fun h e9 => ?_)
  subst e9
  refine mJ_ifb_eq (tgt := 12) hK dX6_queueLength_5 (by decide) (fun c_5 => ?_) (fun c_5 => ?_)
  · exact absurd hc c_5
  · refine mJ_iconst (v := nI 0) hK dX6_queueLength_8 (by decide) ?_
    refine mJ_goto (tgt := 13) hK dX6_queueLength_9 (by decide) ?_
    refine xJ_puti hR hK dX6_queueLength_13 fX6_117 sX6_0 rfl rfl (by unfold yV; omega) (fun _ _ => rfl) (by decide) rfl (fun h hR => ?_)
    refine mJ_aload_n hK dX6_queueLength_16 rfl ?_
    refine xJ_getx (nI 0) hR hK dX6_queueLength_17 fX6_117 (by unfold yV; omega) (fun _ _ => rfl) (by decide) rfl (by simp [fr, upd]) ?_
    refine mJ_nif_le (tgt := 27) hK dX6_queueLength_20 (by decide) (by omega) (fun c_20 => ?_) (fun c_20 => ?_)
    · refine mJ_aload_n hK dX6_queueLength_27 rfl ?_
      refine xJ_getr hR hK dX6_queueLength_28 fX6_41 (by unfold yV; omega) (fun _ _ => rfl) (by decide) (fun _ _ => rfl) ?_
      refine mJ_iload_n hK dX6_queueLength_31 rfl ?_
      refine xJ_iald c hR hK dX6_queueLength_32 (by unfold yV; omega) (fun _ _ => rfl) rfl (by omega) (by decide) ?_
      refine mJ_iret hK dX6_queueLength_33 rfl hZ (by decide) (by decide) ?_
      exact ⟨rfl, hR⟩
    · exact absurd c_20 (by omega)

set_option maxRecDepth 100000 in
set_option maxHeartbeats 4000000 in
theorem k_X6_queueLength_x {l : Launch} {D : va_G} {aC : Nat → ClassId} {ad : xAd} {h0 h : mH} {F : xFm} {W : xWm} {pm : Nat → Nat} (hR : xR yV ad h0 F W pm h) {x : Int32} (hx : ¬ (0 ≤ x ∧ x < nI 8)) : mCon l D aC mX6_queueLength [.ref (ad 30 0 0), .int x] h (mRi (nI 0) (fun h' => xR yV ad h0 (tS F (nI 1)) W pm h')) := by
  refine mCon.of [some (.ref (ad 30 0 0)), some (.int x)] (by decide +kernel) rfl (Nat.le_of_ble_eq_true rfl) ?_
  intro K el eD eC hK hZ
  subst el eD eC
  refine mJ_aload_n hK dX6_queueLength_0 rfl ?_
  refine mJ_iload_n hK dX6_queueLength_1 rfl ?_
  refine mJ_cSi hK dX6_queueLength_2 lX6_207 (by unfold mFit; decide) (by decide) (k_X6_isChannel _) rfl rfl (Nat.le_of_ble_eq_true rfl) (fun h e9 => ?_)
  subst e9
  refine mJ_ifb_eq (tgt := 12) hK dX6_queueLength_5 (by decide) (fun c_5 => ?_) (fun c_5 => ?_)
  · refine mJ_iconst (v := nI 1) hK dX6_queueLength_12 (by decide) ?_
    refine xJ_puti hR hK dX6_queueLength_13 fX6_117 sX6_0 rfl rfl (by unfold yV; omega) (fun _ _ => rfl) (by decide) rfl (fun h hR => ?_)
    refine mJ_aload_n hK dX6_queueLength_16 rfl ?_
    refine xJ_getx (nI 1) hR hK dX6_queueLength_17 fX6_117 (by unfold yV; omega) (fun _ _ => rfl) (by decide) rfl (by simp [fr, upd]) ?_
    refine mJ_nif_le (tgt := 27) hK dX6_queueLength_20 (by decide) (by omega) (fun c_20 => ?_) (fun c_20 => ?_)
    · exact absurd c_20 (by omega)
    · refine mJ_iconst (v := nI 0) hK dX6_queueLength_23 (by decide) ?_
      refine mJ_goto (tgt := 33) hK dX6_queueLength_24 (by decide) ?_
      refine mJ_iret hK dX6_queueLength_33 rfl hZ (by decide) (by decide) ?_
      exact ⟨rfl, hR⟩
  · exact absurd c_5 hx

set_option maxRecDepth 100000 in
set_option maxHeartbeats 4000000 in
theorem k_X6_consumed {l : Launch} {D : va_G} {aC : Nat → ClassId} {ad : xAd} {h0 h : mH} {F : xFm} {W : xWm} {pm : Nat → Nat} (hR : xR yV ad h0 F W pm h) {c : Nat} (hc : c < 8) : mCon l D aC mX6_consumed [.ref (ad 30 0 0), .int (nI c)] h (mRi (F 52 0 0 c) (fun h' => xR yV ad h0 (tS F (nI 0)) W pm h')) := by
  refine mCon.of [some (.ref (ad 30 0 0)), some (.int (nI c))] (by decide +kernel) rfl (Nat.le_of_ble_eq_true rfl) ?_
  intro K el eD eC hK hZ
  subst el eD eC
  refine mJ_aload_n hK dX6_consumed_0 rfl ?_
  refine mJ_iload_n hK dX6_consumed_1 rfl ?_
  refine mJ_cSi hK dX6_consumed_2 lX6_207 (by unfold mFit; decide) (by decide) (k_X6_isChannelN (by omega)) rfl rfl (Nat.le_of_ble_eq_true rfl) (fun h e9 => ?_)
  subst e9
  refine mJ_ifb_eq (tgt := 12) hK dX6_consumed_5 (by decide) (fun c_5 => ?_) (fun c_5 => ?_)
  · exact absurd hc c_5
  · refine mJ_iconst (v := nI 0) hK dX6_consumed_8 (by decide) ?_
    refine mJ_goto (tgt := 13) hK dX6_consumed_9 (by decide) ?_
    refine xJ_puti hR hK dX6_consumed_13 fX6_117 sX6_0 rfl rfl (by unfold yV; omega) (fun _ _ => rfl) (by decide) rfl (fun h hR => ?_)
    refine mJ_aload_n hK dX6_consumed_16 rfl ?_
    refine xJ_getx (nI 0) hR hK dX6_consumed_17 fX6_117 (by unfold yV; omega) (fun _ _ => rfl) (by decide) rfl (by simp [fr, upd]) ?_
    refine mJ_nif_le (tgt := 27) hK dX6_consumed_20 (by decide) (by omega) (fun c_20 => ?_) (fun c_20 => ?_)
    · refine mJ_aload_n hK dX6_consumed_27 rfl ?_
      refine xJ_getr hR hK dX6_consumed_28 fX6_59 (by unfold yV; omega) (fun _ _ => rfl) (by decide) (fun _ _ => rfl) ?_
      refine mJ_iload_n hK dX6_consumed_31 rfl ?_
      refine xJ_iald c hR hK dX6_consumed_32 (by unfold yV; omega) (fun _ _ => rfl) rfl (by omega) (by decide) ?_
      refine mJ_iret hK dX6_consumed_33 rfl hZ (by decide) (by decide) ?_
      exact ⟨rfl, hR⟩
    · exact absurd c_20 (by omega)

set_option maxRecDepth 100000 in
set_option maxHeartbeats 4000000 in
theorem k_X6_consumed_x {l : Launch} {D : va_G} {aC : Nat → ClassId} {ad : xAd} {h0 h : mH} {F : xFm} {W : xWm} {pm : Nat → Nat} (hR : xR yV ad h0 F W pm h) {x : Int32} (hx : ¬ (0 ≤ x ∧ x < nI 8)) : mCon l D aC mX6_consumed [.ref (ad 30 0 0), .int x] h (mRi (nI 0) (fun h' => xR yV ad h0 (tS F (nI 1)) W pm h')) := by
  refine mCon.of [some (.ref (ad 30 0 0)), some (.int x)] (by decide +kernel) rfl (Nat.le_of_ble_eq_true rfl) ?_
  intro K el eD eC hK hZ
  subst el eD eC
  refine mJ_aload_n hK dX6_consumed_0 rfl ?_
  refine mJ_iload_n hK dX6_consumed_1 rfl ?_
  refine mJ_cSi hK dX6_consumed_2 lX6_207 (by unfold mFit; decide) (by decide) (k_X6_isChannel _) rfl rfl (Nat.le_of_ble_eq_true rfl) (fun h e9 => ?_)
  subst e9
  refine mJ_ifb_eq (tgt := 12) hK dX6_consumed_5 (by decide) (fun c_5 => ?_) (fun c_5 => ?_)
  · refine mJ_iconst (v := nI 1) hK dX6_consumed_12 (by decide) ?_
    refine xJ_puti hR hK dX6_consumed_13 fX6_117 sX6_0 rfl rfl (by unfold yV; omega) (fun _ _ => rfl) (by decide) rfl (fun h hR => ?_)
    refine mJ_aload_n hK dX6_consumed_16 rfl ?_
    refine xJ_getx (nI 1) hR hK dX6_consumed_17 fX6_117 (by unfold yV; omega) (fun _ _ => rfl) (by decide) rfl (by simp [fr, upd]) ?_
    refine mJ_nif_le (tgt := 27) hK dX6_consumed_20 (by decide) (by omega) (fun c_20 => ?_) (fun c_20 => ?_)
    · exact absurd c_20 (by omega)
    · refine mJ_iconst (v := nI 0) hK dX6_consumed_23 (by decide) ?_
      refine mJ_goto (tgt := 33) hK dX6_consumed_24 (by decide) ?_
      refine mJ_iret hK dX6_consumed_33 rfl hZ (by decide) (by decide) ?_
      exact ⟨rfl, hR⟩
  · exact absurd c_5 hx

set_option maxRecDepth 100000 in
set_option maxHeartbeats 4000000 in
theorem k_X6_messageAt {l : Launch} {D : va_G} {aC : Nat → ClassId} {ad : xAd} {h0 h : mH} {F : xFm} {W : xWm} {pm : Nat → Nat} (hR : xR yV ad h0 F W pm h) {c : Nat} (hc : c < 8) {n : Nat} (hn : F 44 0 0 c = nI n) (hn8 : n ≤ 8) {i : Nat} (hi : i < n) : mCon l D aC mX6_messageAt [.ref (ad 30 0 0), .int (nI c), .int (nI i)] h (mRi (F 45 0 0 (8 * c + i)) (fun h' => xR yV ad h0 (tS F (nI 0)) W pm h')) := by
  refine mCon.of [some (.ref (ad 30 0 0)), some (.int (nI c)), some (.int (nI i))] (by decide +kernel) rfl (Nat.le_of_ble_eq_true rfl) ?_
  intro K el eD eC hK hZ
  subst el eD eC
  refine mJ_aload_n hK dX6_messageAt_0 rfl ?_
  refine mJ_iload_n hK dX6_messageAt_1 rfl ?_
  refine mJ_cSi hK dX6_messageAt_2 lX6_207 (by unfold mFit; decide) (by decide) (k_X6_isChannelN (by omega)) rfl rfl (Nat.le_of_ble_eq_true rfl) (fun h e9 => ?_)
  subst e9
  refine mJ_ifb_eq (tgt := 28) hK dX6_messageAt_5 (by decide) (fun c_5 => ?_) (fun c_5 => ?_)
  · exact absurd hc c_5
  · refine mJ_iload_n hK dX6_messageAt_8 rfl ?_
    refine mJ_iconst (v := nI 0) hK dX6_messageAt_9 (by decide) ?_
    refine mJ_aload_n hK dX6_messageAt_10 rfl ?_
    refine xJ_getr hR hK dX6_messageAt_11 fX6_41 (by unfold yV; omega) (fun _ _ => rfl) (by decide) (fun _ _ => rfl) ?_
    refine mJ_iload_n hK dX6_messageAt_14 rfl ?_
    refine xJ_ialdx c (nI n) hR hK dX6_messageAt_15 (by unfold yV; omega) (fun _ _ => rfl) rfl (by omega) (by decide) (by first | exact hn | (simp [fr, upd]; exact hn) | (simp [fr, upd, tS]; exact hn)) ?_
    refine mJ_iconst (v := nI 1) hK dX6_messageAt_16 (by decide) ?_
    refine mJ_isub hK dX6_messageAt_17 ?_
    refine mJ_cSi hK dX6_messageAt_18 lX6_120 (by unfold mFit; decide) (by decide) (k_X6_within _ _ _) rfl rfl (Nat.le_of_ble_eq_true rfl) (fun h e9 => ?_)
    subst e9
    refine mJ_ifb_eq (tgt := 28) hK dX6_messageAt_21 (by decide) (fun c_21 => ?_) (fun c_21 => ?_)
    · exact (c_21 ((ruL hn8).mpr ⟨nI_pos' (by omega), nI_lt hi (by omega)⟩)).elim
    · refine mJ_iconst (v := nI 0) hK dX6_messageAt_24 (by decide) ?_
      refine mJ_goto (tgt := 29) hK dX6_messageAt_25 (by decide) ?_
      refine xJ_puti hR hK dX6_messageAt_29 fX6_117 sX6_0 rfl rfl (by unfold yV; omega) (fun _ _ => rfl) (by decide) rfl (fun h hR => ?_)
      refine mJ_aload_n hK dX6_messageAt_32 rfl ?_
      refine xJ_getx (nI 0) hR hK dX6_messageAt_33 fX6_117 (by unfold yV; omega) (fun _ _ => rfl) (by decide) rfl (by simp [fr, upd]) ?_
      refine mJ_nif_le (tgt := 43) hK dX6_messageAt_36 (by decide) (by omega) (fun c_36 => ?_) (fun c_36 => ?_)
      · refine mJ_aload_n hK dX6_messageAt_43 rfl ?_
        refine xJ_getr hR hK dX6_messageAt_44 fX6_44 (by unfold yV; omega) (fun _ _ => rfl) (by decide) (fun _ _ => rfl) ?_
        refine mJ_bipush (v := nI 8) hK dX6_messageAt_47 (by decide) ?_
        refine mJ_iload_n hK dX6_messageAt_49 rfl ?_
        refine mJ_imulN hK dX6_messageAt_50 ?_
        refine mJ_iload_n hK dX6_messageAt_51 rfl ?_
        refine mJ_iaddN hK dX6_messageAt_52 ?_
        refine xJ_iald ((8 * c) + i) hR hK dX6_messageAt_53 (by unfold yV; omega) (fun _ _ => rfl) rfl (by omega) (by decide) ?_
        refine mJ_iret hK dX6_messageAt_54 rfl hZ (by decide) (by decide) ?_
        exact ⟨rfl, hR⟩
      · exact absurd c_36 (by omega)

set_option maxRecDepth 100000 in
set_option maxHeartbeats 4000000 in
theorem k_X6_messageAt_x1 {l : Launch} {D : va_G} {aC : Nat → ClassId} {ad : xAd} {h0 h : mH} {F : xFm} {W : xWm} {pm : Nat → Nat} (hR : xR yV ad h0 F W pm h) {x : Int32} (hx : ¬ (0 ≤ x ∧ x < nI 8)) (y : Int32) : mCon l D aC mX6_messageAt [.ref (ad 30 0 0), .int x, .int y] h (mRi (nI 0) (fun h' => xR yV ad h0 (tS F (nI 1)) W pm h')) := by
  refine mCon.of [some (.ref (ad 30 0 0)), some (.int x), some (.int y)] (by decide +kernel) rfl (Nat.le_of_ble_eq_true rfl) ?_
  intro K el eD eC hK hZ
  subst el eD eC
  refine mJ_aload_n hK dX6_messageAt_0 rfl ?_
  refine mJ_iload_n hK dX6_messageAt_1 rfl ?_
  refine mJ_cSi hK dX6_messageAt_2 lX6_207 (by unfold mFit; decide) (by decide) (k_X6_isChannel _) rfl rfl (Nat.le_of_ble_eq_true rfl) (fun h e9 => ?_)
  subst e9
  refine mJ_ifb_eq (tgt := 28) hK dX6_messageAt_5 (by decide) (fun c_5 => ?_) (fun c_5 => ?_)
  · refine mJ_iconst (v := nI 1) hK dX6_messageAt_28 (by decide) ?_
    refine xJ_puti hR hK dX6_messageAt_29 fX6_117 sX6_0 rfl rfl (by unfold yV; omega) (fun _ _ => rfl) (by decide) rfl (fun h hR => ?_)
    refine mJ_aload_n hK dX6_messageAt_32 rfl ?_
    refine xJ_getx (nI 1) hR hK dX6_messageAt_33 fX6_117 (by unfold yV; omega) (fun _ _ => rfl) (by decide) rfl (by simp [fr, upd]) ?_
    refine mJ_nif_le (tgt := 43) hK dX6_messageAt_36 (by decide) (by omega) (fun c_36 => ?_) (fun c_36 => ?_)
    · exact absurd c_36 (by omega)
    · refine mJ_iconst (v := nI 0) hK dX6_messageAt_39 (by decide) ?_
      refine mJ_goto (tgt := 54) hK dX6_messageAt_40 (by decide) ?_
      refine mJ_iret hK dX6_messageAt_54 rfl hZ (by decide) (by decide) ?_
      exact ⟨rfl, hR⟩
  · exact absurd c_5 hx

set_option maxRecDepth 100000 in
set_option maxHeartbeats 4000000 in
theorem k_X6_messageAt_x2 {l : Launch} {D : va_G} {aC : Nat → ClassId} {ad : xAd} {h0 h : mH} {F : xFm} {W : xWm} {pm : Nat → Nat} (hR : xR yV ad h0 F W pm h) {c : Nat} (hc : c < 8) {n : Nat} (hn : F 44 0 0 c = nI n) (hn8 : n ≤ 8) {y : Int32} (hy : ¬ (0 ≤ y ∧ y < nI n)) : mCon l D aC mX6_messageAt [.ref (ad 30 0 0), .int (nI c), .int y] h (mRi (nI 0) (fun h' => xR yV ad h0 (tS F (nI 1)) W pm h')) := by
  refine mCon.of [some (.ref (ad 30 0 0)), some (.int (nI c)), some (.int y)] (by decide +kernel) rfl (Nat.le_of_ble_eq_true rfl) ?_
  intro K el eD eC hK hZ
  subst el eD eC
  refine mJ_aload_n hK dX6_messageAt_0 rfl ?_
  refine mJ_iload_n hK dX6_messageAt_1 rfl ?_
  refine mJ_cSi hK dX6_messageAt_2 lX6_207 (by unfold mFit; decide) (by decide) (k_X6_isChannelN (by omega)) rfl rfl (Nat.le_of_ble_eq_true rfl) (fun h e9 => ?_)
  subst e9
  refine mJ_ifb_eq (tgt := 28) hK dX6_messageAt_5 (by decide) (fun c_5 => ?_) (fun c_5 => ?_)
  · exact absurd hc c_5
  · refine mJ_iload_n hK dX6_messageAt_8 rfl ?_
    refine mJ_iconst (v := nI 0) hK dX6_messageAt_9 (by decide) ?_
    refine mJ_aload_n hK dX6_messageAt_10 rfl ?_
    refine xJ_getr hR hK dX6_messageAt_11 fX6_41 (by unfold yV; omega) (fun _ _ => rfl) (by decide) (fun _ _ => rfl) ?_
    refine mJ_iload_n hK dX6_messageAt_14 rfl ?_
    refine xJ_ialdx c (nI n) hR hK dX6_messageAt_15 (by unfold yV; omega) (fun _ _ => rfl) rfl (by omega) (by decide) (by first | exact hn | (simp [fr, upd]; exact hn) | (simp [fr, upd, tS]; exact hn)) ?_
    refine mJ_iconst (v := nI 1) hK dX6_messageAt_16 (by decide) ?_
    refine mJ_isub hK dX6_messageAt_17 ?_
    refine mJ_cSi hK dX6_messageAt_18 lX6_120 (by unfold mFit; decide) (by decide) (k_X6_within _ _ _) rfl rfl (Nat.le_of_ble_eq_true rfl) (fun h e9 => ?_)
    subst e9
    refine mJ_ifb_eq (tgt := 28) hK dX6_messageAt_21 (by decide) (fun c_21 => ?_) (fun c_21 => ?_)
    · refine mJ_iconst (v := nI 1) hK dX6_messageAt_28 (by decide) ?_
      refine xJ_puti hR hK dX6_messageAt_29 fX6_117 sX6_0 rfl rfl (by unfold yV; omega) (fun _ _ => rfl) (by decide) rfl (fun h hR => ?_)
      refine mJ_aload_n hK dX6_messageAt_32 rfl ?_
      refine xJ_getx (nI 1) hR hK dX6_messageAt_33 fX6_117 (by unfold yV; omega) (fun _ _ => rfl) (by decide) rfl (by simp [fr, upd]) ?_
      refine mJ_nif_le (tgt := 43) hK dX6_messageAt_36 (by decide) (by omega) (fun c_36 => ?_) (fun c_36 => ?_)
      · exact absurd c_36 (by omega)
      · refine mJ_iconst (v := nI 0) hK dX6_messageAt_39 (by decide) ?_
        refine mJ_goto (tgt := 54) hK dX6_messageAt_40 (by decide) ?_
        refine mJ_iret hK dX6_messageAt_54 rfl hZ (by decide) (by decide) ?_
        exact ⟨rfl, hR⟩
    · exact absurd ((ruL hn8).mp c_21) hy

set_option maxRecDepth 100000 in
set_option maxHeartbeats 4000000 in
theorem k_X6_isKnown {l : Launch} {D : va_G} {aC : Nat → ClassId} {ad : xAd} {h0 h : mH} {F : xFm} {W : xWm} {pm : Nat → Nat} (hR : xR yV ad h0 F W pm h) {g : Nat} (hg : F 30 0 0 19 = nI g) (hgb : g < 1000000) (x : Int32) : mCon l D aC mX6_isKnown [.ref (ad 30 0 0), .int x] h (mRi (bI (nI (g - 24) ≤ x ∧ x < nI g)) (fun h' => h' = h)) := by
  refine mCon.of [some (.ref (ad 30 0 0)), some (.int x)] (by decide +kernel) rfl (Nat.le_of_ble_eq_true rfl) ?_
  intro K el eD eC hK hZ
  subst el eD eC
  refine mJ_iload_n hK dX6_isKnown_0 rfl ?_
  refine mJ_if_lt (tgt := 27) hK dX6_isKnown_1 (by decide) (fun c_1 => ?_) (fun c_1 => ?_)
  · refine mJ_iconst (v := nI 0) hK dX6_isKnown_27 (by decide) ?_
    refine mJ_zret hK dX6_isKnown_28 rfl (by decide) hZ (by decide) (by decide) ?_
    refine ⟨congrArg (fun z => some (Value.int z)) ?_, rfl⟩
    first | exact b1 ((knL hgb).mp ⟨Int32.not_lt.mp c_1, Int32.not_le.mp c_9, Int32.not_lt.mp c_20⟩) | exact b0 (fun z => absurd ((knL hgb).mpr z).1 (Int32.not_le.mpr c_1)) | exact b0 (fun z => absurd ((knL hgb).mpr z).2.1 (Int32.not_lt.mpr c_9)) | exact b0 (fun z => absurd ((knL hgb).mpr z).2.2 (Int32.not_le.mpr c_20))
  · refine mJ_iload_n hK dX6_isKnown_4 rfl ?_
    refine mJ_aload_n hK dX6_isKnown_5 rfl ?_
    refine xJ_getx (nI g) hR hK dX6_isKnown_6 fX6_210 (by unfold yV; omega) (fun _ _ => rfl) (by decide) rfl (by first | exact hg | (simp [fr, upd]; exact hg) | (simp [fr, upd, tS]; exact hg)) ?_
    refine mJ_icmp_ge (tgt := 27) hK dX6_isKnown_9 (by decide) (fun c_9 => ?_) (fun c_9 => ?_)
    · refine mJ_iconst (v := nI 0) hK dX6_isKnown_27 (by decide) ?_
      refine mJ_zret hK dX6_isKnown_28 rfl (by decide) hZ (by decide) (by decide) ?_
      refine ⟨congrArg (fun z => some (Value.int z)) ?_, rfl⟩
      first | exact b1 ((knL hgb).mp ⟨Int32.not_lt.mp c_1, Int32.not_le.mp c_9, Int32.not_lt.mp c_20⟩) | exact b0 (fun z => absurd ((knL hgb).mpr z).1 (Int32.not_le.mpr c_1)) | exact b0 (fun z => absurd ((knL hgb).mpr z).2.1 (Int32.not_lt.mpr c_9)) | exact b0 (fun z => absurd ((knL hgb).mpr z).2.2 (Int32.not_le.mpr c_20))
    · refine mJ_iload_n hK dX6_isKnown_12 rfl ?_
      refine mJ_aload_n hK dX6_isKnown_13 rfl ?_
      refine xJ_getx (nI g) hR hK dX6_isKnown_14 fX6_210 (by unfold yV; omega) (fun _ _ => rfl) (by decide) rfl (by first | exact hg | (simp [fr, upd]; exact hg) | (simp [fr, upd, tS]; exact hg)) ?_
      refine mJ_bipush (v := nI 24) hK dX6_isKnown_17 (by decide) ?_
      refine mJ_isub hK dX6_isKnown_19 ?_
      refine mJ_icmp_lt (tgt := 27) hK dX6_isKnown_20 (by decide) (fun c_20 => ?_) (fun c_20 => ?_)
      · refine mJ_iconst (v := nI 0) hK dX6_isKnown_27 (by decide) ?_
        refine mJ_zret hK dX6_isKnown_28 rfl (by decide) hZ (by decide) (by decide) ?_
        refine ⟨congrArg (fun z => some (Value.int z)) ?_, rfl⟩
        first | exact b1 ((knL hgb).mp ⟨Int32.not_lt.mp c_1, Int32.not_le.mp c_9, Int32.not_lt.mp c_20⟩) | exact b0 (fun z => absurd ((knL hgb).mpr z).1 (Int32.not_le.mpr c_1)) | exact b0 (fun z => absurd ((knL hgb).mpr z).2.1 (Int32.not_lt.mpr c_9)) | exact b0 (fun z => absurd ((knL hgb).mpr z).2.2 (Int32.not_le.mpr c_20))
      · refine mJ_iconst (v := nI 1) hK dX6_isKnown_23 (by decide) ?_
        refine mJ_goto (tgt := 28) hK dX6_isKnown_24 (by decide) ?_
        refine mJ_zret hK dX6_isKnown_28 rfl (by decide) hZ (by decide) (by decide) ?_
        refine ⟨congrArg (fun z => some (Value.int z)) ?_, rfl⟩
        first | exact b1 ((knL hgb).mp ⟨Int32.not_lt.mp c_1, Int32.not_le.mp c_9, Int32.not_lt.mp c_20⟩) | exact b0 (fun z => absurd ((knL hgb).mpr z).1 (Int32.not_le.mpr c_1)) | exact b0 (fun z => absurd ((knL hgb).mpr z).2.1 (Int32.not_lt.mpr c_9)) | exact b0 (fun z => absurd ((knL hgb).mpr z).2.2 (Int32.not_le.mpr c_20))

def mSe (F : xFm) (g : Nat) (x a r : Int32) : xFm := if nI (g - 24) ≤ x ∧ x < nI g then fr (fr F 50 0 0 (upd (F 50 0 0) (x.toNatClampNeg % 24) a)) 51 0 0 (upd (F 51 0 0) (x.toNatClampNeg % 24) r) else F
set_option maxRecDepth 100000 in
set_option maxHeartbeats 4000000 in
theorem k_X6_settle {l : Launch} {D : va_G} {aC : Nat → ClassId} {ad : xAd} {h0 h : mH} {F : xFm} {W : xWm} {pm : Nat → Nat} (hR : xR yV ad h0 F W pm h) {g : Nat} (hg : F 30 0 0 19 = nI g) (hgb : g < 1000000) (x a r : Int32) : mCon l D aC mX6_settle [.ref (ad 30 0 0), .int x, .int a, .int r] h (mRv (fun h' => xR yV ad h0 (mSe F g x a r) W pm h')) := by
  refine mCon.of [some (.ref (ad 30 0 0)), some (.int x), some (.int a), some (.int r)] (by decide +kernel) rfl (Nat.le_of_ble_eq_true rfl) ?_
  intro K el eD eC hK hZ
  subst el eD eC
  refine mJ_aload_n hK dX6_settle_0 rfl ?_
  refine mJ_iload_n hK dX6_settle_1 rfl ?_
  refine mJ_cVi hK dX6_settle_2 lX6_252 (by unfold mFit; decide) (by decide) (k_X6_isKnown hR hg hgb _) rfl rfl (Nat.le_of_ble_eq_true rfl) (hR.1 _ _ _ (by unfold yV; omega)) ⟨_, _, rfl⟩ (fun h e9 => ?_)
  subst e9
  refine mJ_ifb_eq (tgt := 28) hK dX6_settle_5 (by decide) (fun c_5 => ?_) (fun c_5 => ?_)
  · refine mJ_vret hK dX6_settle_28 rfl hZ (by decide) (by decide) ?_
    first | (refine ⟨rfl, xR_ext hR ?_⟩; unfold mSe; rw [if_neg c_5]) | (refine ⟨rfl, xR_ext hR ?_⟩; unfold mSe; rw [if_pos c_5, nI_clamp (by omega)]; rfl)
  · obtain ⟨t, ht1, ht2, rfl⟩ := kn_of c_5 (by omega) (by omega)
    refine mJ_aload_n hK dX6_settle_8 rfl ?_
    refine xJ_getr hR hK dX6_settle_9 fX6_53 (by unfold yV; omega) (fun _ _ => rfl) (by decide) (fun _ _ => rfl) ?_
    refine mJ_iload_n hK dX6_settle_12 rfl ?_
    refine mJ_bipush (v := nI 24) hK dX6_settle_13 (by decide) ?_
    refine mJ_iremN hK dX6_settle_15 (by omega) (by omega) (by omega) ?_
    refine mJ_iload_n hK dX6_settle_16 rfl ?_
    refine xJ_iast (t % 24) hR hK dX6_settle_17 (by unfold yV; omega) (fun _ _ => rfl) rfl (by omega) (by decide) (fun h hR => ?_)
    refine mJ_aload_n hK dX6_settle_18 rfl ?_
    refine xJ_getr hR hK dX6_settle_19 fX6_56 (by unfold yV; omega) (fun _ _ => rfl) (by decide) (fun _ _ => rfl) ?_
    refine mJ_iload_n hK dX6_settle_22 rfl ?_
    refine mJ_bipush (v := nI 24) hK dX6_settle_23 (by decide) ?_
    refine mJ_iremN hK dX6_settle_25 (by omega) (by omega) (by omega) ?_
    refine mJ_iload_n hK dX6_settle_26 rfl ?_
    refine xJ_iast (t % 24) hR hK dX6_settle_27 (by unfold yV; omega) (fun _ _ => rfl) rfl (by omega) (by decide) (fun h hR => ?_)
    refine mJ_vret hK dX6_settle_28 rfl hZ (by decide) (by decide) ?_
    first | (refine ⟨rfl, xR_ext hR ?_⟩; unfold mSe; rw [if_neg c_5]) | (refine ⟨rfl, xR_ext hR ?_⟩; unfold mSe; rw [if_pos c_5, nI_clamp (by omega)]; rfl)

set_option maxRecDepth 100000 in
set_option maxHeartbeats 4000000 in
theorem k_X6_ticketState {l : Launch} {D : va_G} {aC : Nat → ClassId} {ad : xAd} {h0 h : mH} {F : xFm} {W : xWm} {pm : Nat → Nat} (hR : xR yV ad h0 F W pm h) {g : Nat} (hg : F 30 0 0 19 = nI g) (hgb : g < 1000000) {t : Nat} (ht1 : g - 24 ≤ t) (ht2 : t < g) : mCon l D aC mX6_ticketState [.ref (ad 30 0 0), .int (nI t)] h (mRi (F 50 0 0 (t % 24)) (fun h' => xR yV ad h0 (tS F (nI 0)) W pm h')) := by
  refine mCon.of [some (.ref (ad 30 0 0)), some (.int (nI t))] (by decide +kernel) rfl (Nat.le_of_ble_eq_true rfl) ?_
  intro K el eD eC hK hZ
  subst el eD eC
  refine mJ_aload_n hK dX6_ticketState_0 rfl ?_
  refine mJ_aload_n hK dX6_ticketState_1 rfl ?_
  refine mJ_iload_n hK dX6_ticketState_2 rfl ?_
  refine mJ_cVi hK dX6_ticketState_3 lX6_252 (by unfold mFit; decide) (by decide) (k_X6_isKnown hR hg hgb _) rfl rfl (Nat.le_of_ble_eq_true rfl) (hR.1 _ _ _ (by unfold yV; omega)) ⟨_, _, rfl⟩ (fun h e9 => ?_)
  subst e9
  refine mJ_ifb_eq (tgt := 13) hK dX6_ticketState_6 (by decide) (fun c_6 => ?_) (fun c_6 => ?_)
  · exact (c_6 ⟨nI_le ht1 (by omega), nI_lt ht2 (by omega)⟩).elim
  · refine mJ_iconst (v := nI 0) hK dX6_ticketState_9 (by decide) ?_
    refine mJ_goto (tgt := 14) hK dX6_ticketState_10 (by decide) ?_
    refine xJ_puti hR hK dX6_ticketState_14 fX6_117 sX6_0 rfl rfl (by unfold yV; omega) (fun _ _ => rfl) (by decide) rfl (fun h hR => ?_)
    refine mJ_aload_n hK dX6_ticketState_17 rfl ?_
    refine xJ_getx (nI 0) hR hK dX6_ticketState_18 fX6_117 (by unfold yV; omega) (fun _ _ => rfl) (by decide) rfl (by simp [fr, upd]) ?_
    refine mJ_nif_le (tgt := 28) hK dX6_ticketState_21 (by decide) (by omega) (fun c_21 => ?_) (fun c_21 => ?_)
    · refine mJ_aload_n hK dX6_ticketState_28 rfl ?_
      refine xJ_getr hR hK dX6_ticketState_29 fX6_53 (by unfold yV; omega) (fun _ _ => rfl) (by decide) (fun _ _ => rfl) ?_
      refine mJ_iload_n hK dX6_ticketState_32 rfl ?_
      refine mJ_bipush (v := nI 24) hK dX6_ticketState_33 (by decide) ?_
      refine mJ_iremN hK dX6_ticketState_35 (by omega) (by omega) (by omega) ?_
      refine xJ_iald (t % 24) hR hK dX6_ticketState_36 (by unfold yV; omega) (fun _ _ => rfl) rfl (by omega) (by decide) ?_
      refine mJ_iret hK dX6_ticketState_37 rfl hZ (by decide) (by decide) ?_
      exact ⟨rfl, hR⟩
    · exact absurd c_21 (by omega)

set_option maxRecDepth 100000 in
set_option maxHeartbeats 4000000 in
theorem k_X6_ticketState_x {l : Launch} {D : va_G} {aC : Nat → ClassId} {ad : xAd} {h0 h : mH} {F : xFm} {W : xWm} {pm : Nat → Nat} (hR : xR yV ad h0 F W pm h) {g : Nat} (hg : F 30 0 0 19 = nI g) (hgb : g < 1000000) {x : Int32} (hx : ¬ (nI (g - 24) ≤ x ∧ x < nI g)) : mCon l D aC mX6_ticketState [.ref (ad 30 0 0), .int x] h (mRi (nI 0) (fun h' => xR yV ad h0 (tS F (nI 1)) W pm h')) := by
  refine mCon.of [some (.ref (ad 30 0 0)), some (.int x)] (by decide +kernel) rfl (Nat.le_of_ble_eq_true rfl) ?_
  intro K el eD eC hK hZ
  subst el eD eC
  refine mJ_aload_n hK dX6_ticketState_0 rfl ?_
  refine mJ_aload_n hK dX6_ticketState_1 rfl ?_
  refine mJ_iload_n hK dX6_ticketState_2 rfl ?_
  refine mJ_cVi hK dX6_ticketState_3 lX6_252 (by unfold mFit; decide) (by decide) (k_X6_isKnown hR hg hgb _) rfl rfl (Nat.le_of_ble_eq_true rfl) (hR.1 _ _ _ (by unfold yV; omega)) ⟨_, _, rfl⟩ (fun h e9 => ?_)
  subst e9
  refine mJ_ifb_eq (tgt := 13) hK dX6_ticketState_6 (by decide) (fun c_6 => ?_) (fun c_6 => ?_)
  · refine mJ_iconst (v := nI 1) hK dX6_ticketState_13 (by decide) ?_
    refine xJ_puti hR hK dX6_ticketState_14 fX6_117 sX6_0 rfl rfl (by unfold yV; omega) (fun _ _ => rfl) (by decide) rfl (fun h hR => ?_)
    refine mJ_aload_n hK dX6_ticketState_17 rfl ?_
    refine xJ_getx (nI 1) hR hK dX6_ticketState_18 fX6_117 (by unfold yV; omega) (fun _ _ => rfl) (by decide) rfl (by simp [fr, upd]) ?_
    refine mJ_nif_le (tgt := 28) hK dX6_ticketState_21 (by decide) (by omega) (fun c_21 => ?_) (fun c_21 => ?_)
    · exact absurd c_21 (by omega)
    · refine mJ_iconst (v := nI 0) hK dX6_ticketState_24 (by decide) ?_
      refine mJ_goto (tgt := 37) hK dX6_ticketState_25 (by decide) ?_
      refine mJ_iret hK dX6_ticketState_37 rfl hZ (by decide) (by decide) ?_
      exact ⟨rfl, hR⟩
  · exact absurd c_6 hx

set_option maxRecDepth 100000 in
set_option maxHeartbeats 4000000 in
theorem k_X6_replyOf {l : Launch} {D : va_G} {aC : Nat → ClassId} {ad : xAd} {h0 h : mH} {F : xFm} {W : xWm} {pm : Nat → Nat} (hR : xR yV ad h0 F W pm h) {g : Nat} (hg : F 30 0 0 19 = nI g) (hgb : g < 1000000) {t : Nat} (ht1 : g - 24 ≤ t) (ht2 : t < g) (ha : F 50 0 0 (t % 24) = nI 1) : mCon l D aC mX6_replyOf [.ref (ad 30 0 0), .int (nI t)] h (mRi (F 51 0 0 (t % 24)) (fun h' => xR yV ad h0 (tS F (nI 0)) W pm h')) := by
  refine mCon.of [some (.ref (ad 30 0 0)), some (.int (nI t))] (by decide +kernel) rfl (Nat.le_of_ble_eq_true rfl) ?_
  intro K el eD eC hK hZ
  subst el eD eC
  refine mJ_aload_n hK dX6_replyOf_0 rfl ?_
  refine mJ_aload_n hK dX6_replyOf_1 rfl ?_
  refine mJ_iload_n hK dX6_replyOf_2 rfl ?_
  refine mJ_cVi hK dX6_replyOf_3 lX6_252 (by unfold mFit; decide) (by decide) (k_X6_isKnown hR hg hgb _) rfl rfl (Nat.le_of_ble_eq_true rfl) (hR.1 _ _ _ (by unfold yV; omega)) ⟨_, _, rfl⟩ (fun h e9 => ?_)
  subst e9
  refine mJ_ifb_ne (tgt := 13) hK dX6_replyOf_6 (by decide) (fun c_6 => ?_) (fun c_6 => ?_)
  · refine mJ_aload_n hK dX6_replyOf_13 rfl ?_
    refine xJ_getr hR hK dX6_replyOf_14 fX6_53 (by unfold yV; omega) (fun _ _ => rfl) (by decide) (fun _ _ => rfl) ?_
    refine mJ_iload_n hK dX6_replyOf_17 rfl ?_
    refine mJ_bipush (v := nI 24) hK dX6_replyOf_18 (by decide) ?_
    refine mJ_iremN hK dX6_replyOf_20 (by omega) (by omega) (by omega) ?_
    refine xJ_iald (t % 24) hR hK dX6_replyOf_21 (by unfold yV; omega) (fun _ _ => rfl) rfl (by omega) (by decide) ?_
    refine mJ_iconst (v := nI 1) hK dX6_replyOf_22 (by decide) ?_
    refine mJ_icmp_ne (tgt := 30) hK dX6_replyOf_23 (by decide) (fun c_23 => ?_) (fun c_23 => ?_)
    · exact absurd ha c_23
    · refine mJ_iconst (v := nI 0) hK dX6_replyOf_26 (by decide) ?_
      refine mJ_goto (tgt := 31) hK dX6_replyOf_27 (by decide) ?_
      refine xJ_puti hR hK dX6_replyOf_31 fX6_117 sX6_0 rfl rfl (by unfold yV; omega) (fun _ _ => rfl) (by decide) rfl (fun h hR => ?_)
      refine mJ_aload_n hK dX6_replyOf_34 rfl ?_
      refine xJ_getx (nI 0) hR hK dX6_replyOf_35 fX6_117 (by unfold yV; omega) (fun _ _ => rfl) (by decide) rfl (by simp [fr, upd]) ?_
      refine mJ_nif_le (tgt := 45) hK dX6_replyOf_38 (by decide) (by omega) (fun c_38 => ?_) (fun c_38 => ?_)
      · refine mJ_aload_n hK dX6_replyOf_45 rfl ?_
        refine xJ_getr hR hK dX6_replyOf_46 fX6_56 (by unfold yV; omega) (fun _ _ => rfl) (by decide) (fun _ _ => rfl) ?_
        refine mJ_iload_n hK dX6_replyOf_49 rfl ?_
        refine mJ_bipush (v := nI 24) hK dX6_replyOf_50 (by decide) ?_
        refine mJ_iremN hK dX6_replyOf_52 (by omega) (by omega) (by omega) ?_
        refine xJ_iald (t % 24) hR hK dX6_replyOf_53 (by unfold yV; omega) (fun _ _ => rfl) rfl (by omega) (by decide) ?_
        refine mJ_iret hK dX6_replyOf_54 rfl hZ (by decide) (by decide) ?_
        exact ⟨rfl, hR⟩
      · exact absurd c_38 (by omega)
  · exact (c_6 ⟨nI_le ht1 (by omega), nI_lt ht2 (by omega)⟩).elim

set_option maxRecDepth 100000 in
set_option maxHeartbeats 4000000 in
theorem k_X6_replyOf_x1 {l : Launch} {D : va_G} {aC : Nat → ClassId} {ad : xAd} {h0 h : mH} {F : xFm} {W : xWm} {pm : Nat → Nat} (hR : xR yV ad h0 F W pm h) {g : Nat} (hg : F 30 0 0 19 = nI g) (hgb : g < 1000000) {x : Int32} (hx : ¬ (nI (g - 24) ≤ x ∧ x < nI g)) : mCon l D aC mX6_replyOf [.ref (ad 30 0 0), .int x] h (mRi (nI 0) (fun h' => xR yV ad h0 (tS F (nI 1)) W pm h')) := by
  refine mCon.of [some (.ref (ad 30 0 0)), some (.int x)] (by decide +kernel) rfl (Nat.le_of_ble_eq_true rfl) ?_
  intro K el eD eC hK hZ
  subst el eD eC
  refine mJ_aload_n hK dX6_replyOf_0 rfl ?_
  refine mJ_aload_n hK dX6_replyOf_1 rfl ?_
  refine mJ_iload_n hK dX6_replyOf_2 rfl ?_
  refine mJ_cVi hK dX6_replyOf_3 lX6_252 (by unfold mFit; decide) (by decide) (k_X6_isKnown hR hg hgb _) rfl rfl (Nat.le_of_ble_eq_true rfl) (hR.1 _ _ _ (by unfold yV; omega)) ⟨_, _, rfl⟩ (fun h e9 => ?_)
  subst e9
  refine mJ_ifb_ne (tgt := 13) hK dX6_replyOf_6 (by decide) (fun c_6 => ?_) (fun c_6 => ?_)
  · exact absurd c_6 hx
  · refine mJ_iconst (v := nI 1) hK dX6_replyOf_9 (by decide) ?_
    refine mJ_goto (tgt := 31) hK dX6_replyOf_10 (by decide) ?_
    refine xJ_puti hR hK dX6_replyOf_31 fX6_117 sX6_0 rfl rfl (by unfold yV; omega) (fun _ _ => rfl) (by decide) rfl (fun h hR => ?_)
    refine mJ_aload_n hK dX6_replyOf_34 rfl ?_
    refine xJ_getx (nI 1) hR hK dX6_replyOf_35 fX6_117 (by unfold yV; omega) (fun _ _ => rfl) (by decide) rfl (by simp [fr, upd]) ?_
    refine mJ_nif_le (tgt := 45) hK dX6_replyOf_38 (by decide) (by omega) (fun c_38 => ?_) (fun c_38 => ?_)
    · exact absurd c_38 (by omega)
    · refine mJ_iconst (v := nI 0) hK dX6_replyOf_41 (by decide) ?_
      refine mJ_goto (tgt := 54) hK dX6_replyOf_42 (by decide) ?_
      refine mJ_iret hK dX6_replyOf_54 rfl hZ (by decide) (by decide) ?_
      exact ⟨rfl, hR⟩

set_option maxRecDepth 100000 in
set_option maxHeartbeats 4000000 in
theorem k_X6_replyOf_x2 {l : Launch} {D : va_G} {aC : Nat → ClassId} {ad : xAd} {h0 h : mH} {F : xFm} {W : xWm} {pm : Nat → Nat} (hR : xR yV ad h0 F W pm h) {g : Nat} (hg : F 30 0 0 19 = nI g) (hgb : g < 1000000) {t : Nat} (ht1 : g - 24 ≤ t) (ht2 : t < g) (ha : ¬ F 50 0 0 (t % 24) = nI 1) : mCon l D aC mX6_replyOf [.ref (ad 30 0 0), .int (nI t)] h (mRi (nI 0) (fun h' => xR yV ad h0 (tS F (nI 2)) W pm h')) := by
  refine mCon.of [some (.ref (ad 30 0 0)), some (.int (nI t))] (by decide +kernel) rfl (Nat.le_of_ble_eq_true rfl) ?_
  intro K el eD eC hK hZ
  subst el eD eC
  refine mJ_aload_n hK dX6_replyOf_0 rfl ?_
  refine mJ_aload_n hK dX6_replyOf_1 rfl ?_
  refine mJ_iload_n hK dX6_replyOf_2 rfl ?_
  refine mJ_cVi hK dX6_replyOf_3 lX6_252 (by unfold mFit; decide) (by decide) (k_X6_isKnown hR hg hgb _) rfl rfl (Nat.le_of_ble_eq_true rfl) (hR.1 _ _ _ (by unfold yV; omega)) ⟨_, _, rfl⟩ (fun h e9 => ?_)
  subst e9
  refine mJ_ifb_ne (tgt := 13) hK dX6_replyOf_6 (by decide) (fun c_6 => ?_) (fun c_6 => ?_)
  · refine mJ_aload_n hK dX6_replyOf_13 rfl ?_
    refine xJ_getr hR hK dX6_replyOf_14 fX6_53 (by unfold yV; omega) (fun _ _ => rfl) (by decide) (fun _ _ => rfl) ?_
    refine mJ_iload_n hK dX6_replyOf_17 rfl ?_
    refine mJ_bipush (v := nI 24) hK dX6_replyOf_18 (by decide) ?_
    refine mJ_iremN hK dX6_replyOf_20 (by omega) (by omega) (by omega) ?_
    refine xJ_iald (t % 24) hR hK dX6_replyOf_21 (by unfold yV; omega) (fun _ _ => rfl) rfl (by omega) (by decide) ?_
    refine mJ_iconst (v := nI 1) hK dX6_replyOf_22 (by decide) ?_
    refine mJ_icmp_ne (tgt := 30) hK dX6_replyOf_23 (by decide) (fun c_23 => ?_) (fun c_23 => ?_)
    · refine mJ_iconst (v := nI 2) hK dX6_replyOf_30 (by decide) ?_
      refine xJ_puti hR hK dX6_replyOf_31 fX6_117 sX6_0 rfl rfl (by unfold yV; omega) (fun _ _ => rfl) (by decide) rfl (fun h hR => ?_)
      refine mJ_aload_n hK dX6_replyOf_34 rfl ?_
      refine xJ_getx (nI 2) hR hK dX6_replyOf_35 fX6_117 (by unfold yV; omega) (fun _ _ => rfl) (by decide) rfl (by simp [fr, upd]) ?_
      refine mJ_nif_le (tgt := 45) hK dX6_replyOf_38 (by decide) (by omega) (fun c_38 => ?_) (fun c_38 => ?_)
      · exact absurd c_38 (by omega)
      · refine mJ_iconst (v := nI 0) hK dX6_replyOf_41 (by decide) ?_
        refine mJ_goto (tgt := 54) hK dX6_replyOf_42 (by decide) ?_
        refine mJ_iret hK dX6_replyOf_54 rfl hZ (by decide) (by decide) ?_
        exact ⟨rfl, hR⟩
    · exact absurd c_23 ha
  · exact (c_6 ⟨nI_le ht1 (by omega), nI_lt ht2 (by omega)⟩).elim
