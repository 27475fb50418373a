abbrev usP (p x : Int32) : Prop := ¬ (p >>> (x &&& 31)) &&& nI 1 = 0
abbrev ghP (g x y : Int32) : Prop := (g = nI 60 ∧ x < y) ∨ (g ≠ nI 60 ∧ g = nI 62 ∧ y < x) ∨ (g ≠ nI 60 ∧ g ≠ nI 62 ∧ x = y)
def mirS (g : Int32) : Int32 := if g = nI 60 then nI 62 else if g = nI 62 then nI 60 else g
def xSg (F : xFm) (r : Nat) (a g b : Int32) : xFm := fr F 17 r 0 (upd (upd (upd (F 17 r 0) 1 (if b < a then b else a)) 3 (if b < a then a else b)) 2 (if b < a then mirS g else g))
def xCl (F : xFm) (r : Nat) : xFm := fr F 17 r 0 (upd (upd (upd (upd (upd (upd (F 17 r 0) 0 (nI 0)) 4 (nI 0)) 5 (nI 0)) 1 (nI 8)) 3 (nI 8)) 2 (nI 61))
theorem k_X5_isChannelN {l : Launch} {D : va_G} {aC : Nat → ClassId} {h : mH} {a : Nat} (ha : a < 2 ^ 31) : mCon l D aC mX5_isChannel [.int (nI a)] h (mRi (bI (a < 8)) (fun h' => h' = h)) := by
  have := k_X5_isChannel (l := l) (D := D) (aC := aC) (h := h) (nI a)
  rwa [bI_iff (q := a < 8) ⟨fun z => (nI_ltI ha (by decide)).mp z.2, fun z => ⟨nI_pos' ha, (nI_ltI ha (by decide)).mpr z⟩⟩] at this
set_option maxRecDepth 100000 in
set_option maxHeartbeats 4000000 in
theorem k_X1_uses {l : Launch} {D : va_G} {aC : Nat → ClassId} {ad : xAd} {h0 h : mH} {F : xFm} {W : xWm} {pm : Nat → Nat} (hR : xR xV ad h0 F W pm h) {r : Nat} (hr : r < 9) (x : Int32) : mCon l D aC mX1_uses [.ref (ad 17 r 0), .int x] h (mRi (bI (usP (F 17 r 0 0) x)) (fun h' => h' = h)) := by
  refine mCon.of [some (.ref (ad 17 r 0)), some (.int x)] (by decide +kernel) rfl (Nat.le_of_ble_eq_true rfl) ?_
  intro K el eD eC hK hZ
  subst el eD eC
  refine mJ_aload_n hK dX1_uses_0 rfl ?_
  refine xJ_geti hR hK dX1_uses_1 fX1_28 (by unfold xV; omega) (fun _ _ => rfl) (by decide) rfl ?_
  refine mJ_iload_n hK dX1_uses_4 rfl ?_
  refine mJ_ishr hK dX1_uses_5 ?_
  refine mJ_iconst (v := nI 1) hK dX1_uses_6 (by decide) ?_
  refine mJ_iand hK dX1_uses_7 ?_
  refine mJ_if_eq (tgt := 15) hK dX1_uses_8 (by decide) (fun c_8 => ?_) (fun c_8 => ?_)
  · refine mJ_iconst (v := nI 0) hK dX1_uses_15 (by decide) ?_
    refine mJ_zret hK dX1_uses_16 rfl (by decide) hZ (by decide) (by decide) ?_
    first | exact ⟨congrArg (fun z => some (Value.int z)) (b0 (fun z => z c_8)), rfl⟩ | exact ⟨congrArg (fun z => some (Value.int z)) (b1 c_8), rfl⟩
  · refine mJ_iconst (v := nI 1) hK dX1_uses_11 (by decide) ?_
    refine mJ_goto (tgt := 16) hK dX1_uses_12 (by decide) ?_
    refine mJ_zret hK dX1_uses_16 rfl (by decide) hZ (by decide) (by decide) ?_
    first | exact ⟨congrArg (fun z => some (Value.int z)) (b0 (fun z => z c_8)), rfl⟩ | exact ⟨congrArg (fun z => some (Value.int z)) (b1 c_8), rfl⟩

set_option maxRecDepth 100000 in
set_option maxHeartbeats 4000000 in
theorem k_X1_repliesTo {l : Launch} {D : va_G} {aC : Nat → ClassId} {ad : xAd} {h0 h : mH} {F : xFm} {W : xWm} {pm : Nat → Nat} (hR : xR xV ad h0 F W pm h) {r : Nat} (hr : r < 9) (x : Int32) : mCon l D aC mX1_repliesTo [.ref (ad 17 r 0), .int x] h (mRi (bI (usP (F 17 r 0 4) x)) (fun h' => h' = h)) := by
  refine mCon.of [some (.ref (ad 17 r 0)), some (.int x)] (by decide +kernel) rfl (Nat.le_of_ble_eq_true rfl) ?_
  intro K el eD eC hK hZ
  subst el eD eC
  refine mJ_aload_n hK dX1_repliesTo_0 rfl ?_
  refine xJ_geti hR hK dX1_repliesTo_1 fX1_32 (by unfold xV; omega) (fun _ _ => rfl) (by decide) rfl ?_
  refine mJ_iload_n hK dX1_repliesTo_4 rfl ?_
  refine mJ_ishr hK dX1_repliesTo_5 ?_
  refine mJ_iconst (v := nI 1) hK dX1_repliesTo_6 (by decide) ?_
  refine mJ_iand hK dX1_repliesTo_7 ?_
  refine mJ_if_eq (tgt := 15) hK dX1_repliesTo_8 (by decide) (fun c_8 => ?_) (fun c_8 => ?_)
  · refine mJ_iconst (v := nI 0) hK dX1_repliesTo_15 (by decide) ?_
    refine mJ_zret hK dX1_repliesTo_16 rfl (by decide) hZ (by decide) (by decide) ?_
    first | exact ⟨congrArg (fun z => some (Value.int z)) (b0 (fun z => z c_8)), rfl⟩ | exact ⟨congrArg (fun z => some (Value.int z)) (b1 c_8), rfl⟩
  · refine mJ_iconst (v := nI 1) hK dX1_repliesTo_11 (by decide) ?_
    refine mJ_goto (tgt := 16) hK dX1_repliesTo_12 (by decide) ?_
    refine mJ_zret hK dX1_repliesTo_16 rfl (by decide) hZ (by decide) (by decide) ?_
    first | exact ⟨congrArg (fun z => some (Value.int z)) (b0 (fun z => z c_8)), rfl⟩ | exact ⟨congrArg (fun z => some (Value.int z)) (b1 c_8), rfl⟩

set_option maxRecDepth 100000 in
set_option maxHeartbeats 4000000 in
theorem k_X1_isReady {l : Launch} {D : va_G} {aC : Nat → ClassId} {ad : xAd} {h0 h : mH} {F : xFm} {W : xWm} {pm : Nat → Nat} (hR : xR xV ad h0 F W pm h) {r : Nat} (hr : r < 9) (x : Int32) : mCon l D aC mX1_isReady [.ref (ad 17 r 0), .int x] h (mRi (bI (F 17 r 0 0 &&& x = F 17 r 0 0)) (fun h' => h' = h)) := by
  refine mCon.of [some (.ref (ad 17 r 0)), some (.int x)] (by decide +kernel) rfl (Nat.le_of_ble_eq_true rfl) ?_
  intro K el eD eC hK hZ
  subst el eD eC
  refine mJ_aload_n hK dX1_isReady_0 rfl ?_
  refine xJ_geti hR hK dX1_isReady_1 fX1_28 (by unfold xV; omega) (fun _ _ => rfl) (by decide) rfl ?_
  refine mJ_iload_n hK dX1_isReady_4 rfl ?_
  refine mJ_iand hK dX1_isReady_5 ?_
  refine mJ_aload_n hK dX1_isReady_6 rfl ?_
  refine xJ_geti hR hK dX1_isReady_7 fX1_28 (by unfold xV; omega) (fun _ _ => rfl) (by decide) rfl ?_
  refine mJ_icmp_ne (tgt := 17) hK dX1_isReady_10 (by decide) (fun c_10 => ?_) (fun c_10 => ?_)
  · refine mJ_iconst (v := nI 0) hK dX1_isReady_17 (by decide) ?_
    refine mJ_zret hK dX1_isReady_18 rfl (by decide) hZ (by decide) (by decide) ?_
    first | exact ⟨congrArg (fun z => some (Value.int z)) (b0 c_10), rfl⟩ | exact ⟨congrArg (fun z => some (Value.int z)) (b1 c_10), rfl⟩
  · refine mJ_iconst (v := nI 1) hK dX1_isReady_13 (by decide) ?_
    refine mJ_goto (tgt := 18) hK dX1_isReady_14 (by decide) ?_
    refine mJ_zret hK dX1_isReady_18 rfl (by decide) hZ (by decide) (by decide) ?_
    first | exact ⟨congrArg (fun z => some (Value.int z)) (b0 c_10), rfl⟩ | exact ⟨congrArg (fun z => some (Value.int z)) (b1 c_10), rfl⟩

set_option maxRecDepth 100000 in
set_option maxHeartbeats 4000000 in
theorem k_X1_addChannel {l : Launch} {D : va_G} {aC : Nat → ClassId} {ad : xAd} {h0 h : mH} {F : xFm} {W : xWm} {pm : Nat → Nat} (hR : xR xV ad h0 F W pm h) {r : Nat} (hr : r < 9) (x : Int32) : mCon l D aC mX1_addChannel [.ref (ad 17 r 0), .int x] h (mRv (fun h' => xR xV ad h0 (fr F 17 r 0 (upd (F 17 r 0) 0 (F 17 r 0 0 ||| nI 1 <<< (x &&& 31)))) W pm h')) := by
  refine mCon.of [some (.ref (ad 17 r 0)), some (.int x)] (by decide +kernel) rfl (Nat.le_of_ble_eq_true rfl) ?_
  intro K el eD eC hK hZ
  subst el eD eC
  refine mJ_aload_n hK dX1_addChannel_0 rfl ?_
  refine mJ_dup hK dX1_addChannel_1 rfl ?_
  refine xJ_geti hR hK dX1_addChannel_2 fX1_28 (by unfold xV; omega) (fun _ _ => rfl) (by decide) rfl ?_
  refine mJ_iconst (v := nI 1) hK dX1_addChannel_5 (by decide) ?_
  refine mJ_iload_n hK dX1_addChannel_6 rfl ?_
  refine mJ_ishl hK dX1_addChannel_7 ?_
  refine mJ_ior hK dX1_addChannel_8 ?_
  refine xJ_puti hR hK dX1_addChannel_9 fX1_28 sX1_0 rfl rfl (by unfold xV; omega) (fun _ _ => rfl) (by decide) rfl (fun h hR => ?_)
  refine mJ_vret hK dX1_addChannel_12 rfl hZ (by decide) (by decide) ?_
  exact ⟨rfl, hR⟩

set_option maxRecDepth 100000 in
set_option maxHeartbeats 4000000 in
theorem k_X1_mirrored {l : Launch} {D : va_G} {aC : Nat → ClassId} {h : mH} (g : Int32) : mCon l D aC mX1_mirrored [.int g] h (mRi (mirS g) (fun h' => h' = h)) := by
  refine mCon.of [some (.int g)] (by decide +kernel) rfl (Nat.le_of_ble_eq_true rfl) ?_
  intro K el eD eC hK hZ
  subst el eD eC
  refine mJ_iload_n hK dX1_mirrored_0 rfl ?_
  refine mJ_bipush (v := nI 60) hK dX1_mirrored_1 (by decide) ?_
  refine mJ_icmp_ne (tgt := 9) hK dX1_mirrored_3 (by decide) (fun c_3 => ?_) (fun c_3 => ?_)
  · refine mJ_iload_n hK dX1_mirrored_9 rfl ?_
    refine mJ_bipush (v := nI 62) hK dX1_mirrored_10 (by decide) ?_
    refine mJ_icmp_ne (tgt := 20) hK dX1_mirrored_12 (by decide) (fun c_12 => ?_) (fun c_12 => ?_)
    · refine mJ_iload_n hK dX1_mirrored_20 rfl ?_
      refine mJ_iret hK dX1_mirrored_21 rfl hZ (by decide) (by decide) ?_
      exact ⟨by simp_all [mirS], rfl⟩
    · refine mJ_bipush (v := nI 60) hK dX1_mirrored_15 (by decide) ?_
      refine mJ_goto (tgt := 21) hK dX1_mirrored_17 (by decide) ?_
      refine mJ_iret hK dX1_mirrored_21 rfl hZ (by decide) (by decide) ?_
      exact ⟨by simp_all [mirS], rfl⟩
  · refine mJ_bipush (v := nI 62) hK dX1_mirrored_6 (by decide) ?_
    refine mJ_iret hK dX1_mirrored_8 rfl hZ (by decide) (by decide) ?_
    exact ⟨by simp_all [mirS], rfl⟩

set_option maxRecDepth 100000 in
set_option maxHeartbeats 4000000 in
theorem k_X1_setGuard {l : Launch} {D : va_G} {aC : Nat → ClassId} {ad : xAd} {h0 h : mH} {F : xFm} {W : xWm} {pm : Nat → Nat} (hR : xR xV ad h0 F W pm h) {r : Nat} (hr : r < 9) (a g b : Int32) : mCon l D aC mX1_setGuard [.ref (ad 17 r 0), .int a, .int g, .int b] h (mRv (fun h' => xR xV ad h0 (xSg F r a g b) W pm h')) := by
  refine mCon.of [some (.ref (ad 17 r 0)), some (.int a), some (.int g), some (.int b), none] (by decide +kernel) rfl (Nat.le_of_ble_eq_true rfl) ?_
  intro K el eD eC hK hZ
  subst el eD eC
  refine mJ_iload_n hK dX1_setGuard_0 rfl ?_
  refine mJ_iload_n hK dX1_setGuard_1 rfl ?_
  refine mJ_icmp_le (tgt := 9) hK dX1_setGuard_2 (by decide) (fun c_2 => ?_) (fun c_2 => ?_)
  · refine mJ_iconst (v := nI 0) hK dX1_setGuard_9 (by decide) ?_
    refine mJ_istore hK dX1_setGuard_10 (by decide) rfl ?_
    refine mJ_aload_n hK dX1_setGuard_12 rfl ?_
    refine mJ_iload hK dX1_setGuard_13 rfl ?_
    refine mJ_nif_eq (tgt := 22) hK dX1_setGuard_15 (by decide) (by omega) (fun c_15 => ?_) (fun c_15 => ?_)
    · refine mJ_iload_n hK dX1_setGuard_22 rfl ?_
      refine xJ_puti hR hK dX1_setGuard_23 fX1_42 sX1_1 rfl rfl (by unfold xV; omega) (fun _ _ => rfl) (by decide) rfl (fun h hR => ?_)
      refine mJ_aload_n hK dX1_setGuard_26 rfl ?_
      refine mJ_iload hK dX1_setGuard_27 rfl ?_
      refine mJ_nif_eq (tgt := 36) hK dX1_setGuard_29 (by decide) (by omega) (fun c_29 => ?_) (fun c_29 => ?_)
      · refine mJ_iload_n hK dX1_setGuard_36 rfl ?_
        refine xJ_puti hR hK dX1_setGuard_37 fX1_45 sX1_3 rfl rfl (by unfold xV; omega) (fun _ _ => rfl) (by decide) rfl (fun h hR => ?_)
        refine mJ_aload_n hK dX1_setGuard_40 rfl ?_
        refine mJ_iload hK dX1_setGuard_41 rfl ?_
        refine mJ_nif_eq (tgt := 53) hK dX1_setGuard_43 (by decide) (by omega) (fun c_43 => ?_) (fun c_43 => ?_)
        · refine mJ_iload_n hK dX1_setGuard_53 rfl ?_
          refine xJ_puti hR hK dX1_setGuard_54 fX1_52 sX1_2 rfl rfl (by unfold xV; omega) (fun _ _ => rfl) (by decide) rfl (fun h hR => ?_)
          refine mJ_vret hK dX1_setGuard_57 rfl hZ (by decide) (by decide) ?_
          refine ⟨rfl, xR_ext hR ?_⟩
          have c9 : b < a ∨ ¬ b < a := Decidable.em _
          rcases c9 with c9 | c9
          all_goals first | (simp only [xSg, if_pos c9, fr_s]; funext k i j; unfold fr; split <;> rfl) | (simp only [xSg, if_neg c9, fr_s]; funext k i j; unfold fr; split <;> rfl) | exact absurd c9 (Int32.not_lt.mpr c_2) | exact absurd (Int32.not_lt.mp c9) c_2
        · exact absurd c_43 (by omega)
      · exact absurd c_29 (by omega)
    · exact absurd c_15 (by omega)
  · refine mJ_iconst (v := nI 1) hK dX1_setGuard_5 (by decide) ?_
    refine mJ_goto (tgt := 10) hK dX1_setGuard_6 (by decide) ?_
    refine mJ_istore hK dX1_setGuard_10 (by decide) rfl ?_
    refine mJ_aload_n hK dX1_setGuard_12 rfl ?_
    refine mJ_iload hK dX1_setGuard_13 rfl ?_
    refine mJ_nif_eq (tgt := 22) hK dX1_setGuard_15 (by decide) (by omega) (fun c_15 => ?_) (fun c_15 => ?_)
    · exact absurd c_15 (by omega)
    · refine mJ_iload_n hK dX1_setGuard_18 rfl ?_
      refine mJ_goto (tgt := 23) hK dX1_setGuard_19 (by decide) ?_
      refine xJ_puti hR hK dX1_setGuard_23 fX1_42 sX1_1 rfl rfl (by unfold xV; omega) (fun _ _ => rfl) (by decide) rfl (fun h hR => ?_)
      refine mJ_aload_n hK dX1_setGuard_26 rfl ?_
      refine mJ_iload hK dX1_setGuard_27 rfl ?_
      refine mJ_nif_eq (tgt := 36) hK dX1_setGuard_29 (by decide) (by omega) (fun c_29 => ?_) (fun c_29 => ?_)
      · exact absurd c_29 (by omega)
      · refine mJ_iload_n hK dX1_setGuard_32 rfl ?_
        refine mJ_goto (tgt := 37) hK dX1_setGuard_33 (by decide) ?_
        refine xJ_puti hR hK dX1_setGuard_37 fX1_45 sX1_3 rfl rfl (by unfold xV; omega) (fun _ _ => rfl) (by decide) rfl (fun h hR => ?_)
        refine mJ_aload_n hK dX1_setGuard_40 rfl ?_
        refine mJ_iload hK dX1_setGuard_41 rfl ?_
        refine mJ_nif_eq (tgt := 53) hK dX1_setGuard_43 (by decide) (by omega) (fun c_43 => ?_) (fun c_43 => ?_)
        · exact absurd c_43 (by omega)
        · refine mJ_iload_n hK dX1_setGuard_46 rfl ?_
          refine mJ_cSi hK dX1_setGuard_47 lX1_48 (by unfold mFit; decide) (by decide) (k_X1_mirrored _) rfl rfl (Nat.le_of_ble_eq_true rfl) (fun h e9 => ?_)
          subst e9
          refine mJ_goto (tgt := 54) hK dX1_setGuard_50 (by decide) ?_
          refine xJ_puti hR hK dX1_setGuard_54 fX1_52 sX1_2 rfl rfl (by unfold xV; omega) (fun _ _ => rfl) (by decide) rfl (fun h hR => ?_)
          refine mJ_vret hK dX1_setGuard_57 rfl hZ (by decide) (by decide) ?_
          refine ⟨rfl, xR_ext hR ?_⟩
          have c9 : b < a ∨ ¬ b < a := Decidable.em _
          rcases c9 with c9 | c9
          all_goals first | (simp only [xSg, if_pos c9, fr_s]; funext k i j; unfold fr; split <;> rfl) | (simp only [xSg, if_neg c9, fr_s]; funext k i j; unfold fr; split <;> rfl) | exact absurd c9 (Int32.not_lt.mpr c_2) | exact absurd (Int32.not_lt.mp c9) c_2

set_option maxRecDepth 100000 in
set_option maxHeartbeats 4000000 in
theorem k_X1_clear {l : Launch} {D : va_G} {aC : Nat → ClassId} {ad : xAd} {h0 h : mH} {F : xFm} {W : xWm} {pm : Nat → Nat} (hR : xR xV ad h0 F W pm h) {r : Nat} (hr : r < 9) : mCon l D aC mX1_clear [.ref (ad 17 r 0)] h (mRv (fun h' => xR xV ad h0 (xCl F r) W pm h')) := by
  refine mCon.of [some (.ref (ad 17 r 0))] (by decide +kernel) rfl (Nat.le_of_ble_eq_true rfl) ?_
  intro K el eD eC hK hZ
  subst el eD eC
  refine mJ_aload_n hK dX1_clear_0 rfl ?_
  refine mJ_iconst (v := nI 0) hK dX1_clear_1 (by decide) ?_
  refine xJ_puti hR hK dX1_clear_2 fX1_28 sX1_0 rfl rfl (by unfold xV; omega) (fun _ _ => rfl) (by decide) rfl (fun h hR => ?_)
  refine mJ_aload_n hK dX1_clear_5 rfl ?_
  refine mJ_iconst (v := nI 0) hK dX1_clear_6 (by decide) ?_
  refine xJ_puti hR hK dX1_clear_7 fX1_32 sX1_4 rfl rfl (by unfold xV; omega) (fun _ _ => rfl) (by decide) rfl (fun h hR => ?_)
  refine mJ_aload_n hK dX1_clear_10 rfl ?_
  refine mJ_iconst (v := nI 0) hK dX1_clear_11 (by decide) ?_
  refine xJ_puti hR hK dX1_clear_12 fX1_35 sX1_5 rfl rfl (by unfold xV; omega) (fun _ _ => rfl) (by decide) rfl (fun h hR => ?_)
  refine mJ_aload_n hK dX1_clear_15 rfl ?_
  refine mJ_bipush (v := nI 8) hK dX1_clear_16 (by decide) ?_
  refine mJ_bipush (v := nI 61) hK dX1_clear_18 (by decide) ?_
  refine mJ_bipush (v := nI 8) hK dX1_clear_20 (by decide) ?_
  refine mJ_cVv hK dX1_clear_22 lX1_38 (by unfold mFit; decide) (by decide) (k_X1_setGuard hR hr _ _ _) rfl rfl (Nat.le_of_ble_eq_true rfl) (hR.1 _ _ _ (by unfold xV; omega)) ⟨_, _, rfl⟩ (fun h hR => ?_)
  refine mJ_vret hK dX1_clear_25 rfl hZ (by decide) (by decide) ?_
  refine ⟨rfl, xR_ext hR ?_⟩
  have c9 : ¬ nI 8 < nI 8 := by decide
  simp only [xSg, if_neg c9, fr_s]
  simp only [xCl]
  funext k i j
  unfold fr
  split <;> rfl

set_option maxRecDepth 100000 in
set_option maxHeartbeats 4000000 in
theorem k_X1_guardHolds {l : Launch} {D : va_G} {aC : Nat → ClassId} {ad : xAd} {h0 h : mH} {F : xFm} {W : xWm} {pm : Nat → Nat} (hR : xR xV ad h0 F W pm h) {r : Nat} (hr : r < 9) (x y : Int32) : mCon l D aC mX1_guardHolds [.ref (ad 17 r 0), .int x, .int y] h (mRi (bI (ghP (F 17 r 0 2) x y)) (fun h' => h' = h)) := by
  refine mCon.of [some (.ref (ad 17 r 0)), some (.int x), some (.int y)] (by decide +kernel) rfl (Nat.le_of_ble_eq_true rfl) ?_
  intro K el eD eC hK hZ
  subst el eD eC
  refine mJ_aload_n hK dX1_guardHolds_0 rfl ?_
  refine xJ_geti hR hK dX1_guardHolds_1 fX1_52 (by unfold xV; omega) (fun _ _ => rfl) (by decide) rfl ?_
  refine mJ_bipush (v := nI 60) hK dX1_guardHolds_4 (by decide) ?_
  refine mJ_icmp_ne (tgt := 20) hK dX1_guardHolds_6 (by decide) (fun c_6 => ?_) (fun c_6 => ?_)
  · refine mJ_aload_n hK dX1_guardHolds_20 rfl ?_
    refine xJ_geti hR hK dX1_guardHolds_21 fX1_52 (by unfold xV; omega) (fun _ _ => rfl) (by decide) rfl ?_
    refine mJ_bipush (v := nI 62) hK dX1_guardHolds_24 (by decide) ?_
    refine mJ_icmp_ne (tgt := 42) hK dX1_guardHolds_26 (by decide) (fun c_26 => ?_) (fun c_26 => ?_)
    · refine mJ_iload_n hK dX1_guardHolds_42 rfl ?_
      refine mJ_iload_n hK dX1_guardHolds_43 rfl ?_
      refine mJ_icmp_ne (tgt := 51) hK dX1_guardHolds_44 (by decide) (fun c_44 => ?_) (fun c_44 => ?_)
      · refine mJ_iconst (v := nI 0) hK dX1_guardHolds_51 (by decide) ?_
        refine mJ_zret hK dX1_guardHolds_52 rfl (by decide) hZ (by decide) (by decide) ?_
        first | exact ⟨congrArg (fun z => some (Value.int z)) (b1 (by unfold ghP; simp_all)), rfl⟩ | exact ⟨congrArg (fun z => some (Value.int z)) (b0 (by unfold ghP; simp_all)), rfl⟩ | exact ⟨congrArg (fun z => some (Value.int z)) (b1 (by unfold ghP; simp_all [Int32.not_le])), rfl⟩ | exact ⟨congrArg (fun z => some (Value.int z)) (b0 (by unfold ghP; simp_all [Int32.not_lt])), rfl⟩
      · refine mJ_iconst (v := nI 1) hK dX1_guardHolds_47 (by decide) ?_
        refine mJ_goto (tgt := 52) hK dX1_guardHolds_48 (by decide) ?_
        refine mJ_zret hK dX1_guardHolds_52 rfl (by decide) hZ (by decide) (by decide) ?_
        first | exact ⟨congrArg (fun z => some (Value.int z)) (b1 (by unfold ghP; simp_all)), rfl⟩ | exact ⟨congrArg (fun z => some (Value.int z)) (b0 (by unfold ghP; simp_all)), rfl⟩ | exact ⟨congrArg (fun z => some (Value.int z)) (b1 (by unfold ghP; simp_all [Int32.not_le])), rfl⟩ | exact ⟨congrArg (fun z => some (Value.int z)) (b0 (by unfold ghP; simp_all [Int32.not_lt])), rfl⟩
    · refine mJ_iload_n hK dX1_guardHolds_29 rfl ?_
      refine mJ_iload_n hK dX1_guardHolds_30 rfl ?_
      refine mJ_icmp_le (tgt := 38) hK dX1_guardHolds_31 (by decide) (fun c_31 => ?_) (fun c_31 => ?_)
      · refine mJ_iconst (v := nI 0) hK dX1_guardHolds_38 (by decide) ?_
        refine mJ_goto (tgt := 52) hK dX1_guardHolds_39 (by decide) ?_
        refine mJ_zret hK dX1_guardHolds_52 rfl (by decide) hZ (by decide) (by decide) ?_
        first | exact ⟨congrArg (fun z => some (Value.int z)) (b1 (by unfold ghP; simp_all)), rfl⟩ | exact ⟨congrArg (fun z => some (Value.int z)) (b0 (by unfold ghP; simp_all)), rfl⟩ | exact ⟨congrArg (fun z => some (Value.int z)) (b1 (by unfold ghP; simp_all [Int32.not_le])), rfl⟩ | exact ⟨congrArg (fun z => some (Value.int z)) (b0 (by unfold ghP; simp_all [Int32.not_lt])), rfl⟩
      · refine mJ_iconst (v := nI 1) hK dX1_guardHolds_34 (by decide) ?_
        refine mJ_goto (tgt := 52) hK dX1_guardHolds_35 (by decide) ?_
        refine mJ_zret hK dX1_guardHolds_52 rfl (by decide) hZ (by decide) (by decide) ?_
        first | exact ⟨congrArg (fun z => some (Value.int z)) (b1 (by unfold ghP; simp_all)), rfl⟩ | exact ⟨congrArg (fun z => some (Value.int z)) (b0 (by unfold ghP; simp_all)), rfl⟩ | exact ⟨congrArg (fun z => some (Value.int z)) (b1 (by unfold ghP; simp_all [Int32.not_le])), rfl⟩ | exact ⟨congrArg (fun z => some (Value.int z)) (b0 (by unfold ghP; simp_all [Int32.not_lt])), rfl⟩
  · refine mJ_iload_n hK dX1_guardHolds_9 rfl ?_
    refine mJ_iload_n hK dX1_guardHolds_10 rfl ?_
    refine mJ_icmp_ge (tgt := 18) hK dX1_guardHolds_11 (by decide) (fun c_11 => ?_) (fun c_11 => ?_)
    · refine mJ_iconst (v := nI 0) hK dX1_guardHolds_18 (by decide) ?_
      refine mJ_zret hK dX1_guardHolds_19 rfl (by decide) hZ (by decide) (by decide) ?_
      first | exact ⟨congrArg (fun z => some (Value.int z)) (b1 (by unfold ghP; simp_all)), rfl⟩ | exact ⟨congrArg (fun z => some (Value.int z)) (b0 (by unfold ghP; simp_all)), rfl⟩ | exact ⟨congrArg (fun z => some (Value.int z)) (b1 (by unfold ghP; simp_all [Int32.not_le])), rfl⟩ | exact ⟨congrArg (fun z => some (Value.int z)) (b0 (by unfold ghP; simp_all [Int32.not_lt])), rfl⟩
    · refine mJ_iconst (v := nI 1) hK dX1_guardHolds_14 (by decide) ?_
      refine mJ_goto (tgt := 19) hK dX1_guardHolds_15 (by decide) ?_
      refine mJ_zret hK dX1_guardHolds_19 rfl (by decide) hZ (by decide) (by decide) ?_
      first | exact ⟨congrArg (fun z => some (Value.int z)) (b1 (by unfold ghP; simp_all)), rfl⟩ | exact ⟨congrArg (fun z => some (Value.int z)) (b0 (by unfold ghP; simp_all)), rfl⟩ | exact ⟨congrArg (fun z => some (Value.int z)) (b1 (by unfold ghP; simp_all [Int32.not_le])), rfl⟩ | exact ⟨congrArg (fun z => some (Value.int z)) (b0 (by unfold ghP; simp_all [Int32.not_lt])), rfl⟩

def xAo (F : xFm) (r m : Nat) (x b : Int32) : xFm := fr (fr (fr (fr F 18 r 0 (upd (F 18 r 0) m x)) 19 r 0 (upd (F 19 r 0) m b)) 20 r 0 (upd (F 20 r 0) m (nI 0))) 17 r 0 (upd (F 17 r 0) 5 (nI (m + 1)))
def xAr (F : xFm) (r m : Nat) (x b : Int32) : xFm := fr (fr (fr (fr F 18 r 0 (upd (F 18 r 0) m x)) 19 r 0 (upd (F 19 r 0) m b)) 20 r 0 (upd (F 20 r 0) m (nI 0))) 17 r 0 (upd (upd (F 17 r 0) 4 (F 17 r 0 4 ||| nI 1 <<< (x &&& 31))) 5 (nI (m + 1)))
def xAp (F : xFm) (r m k : Nat) (g x : Int32) : xFm := fr (fr (fr F 21 r 0 (upd (F 21 r 0) ((m - 1) * 3 + k) g)) 22 r 0 (upd (F 22 r 0) ((m - 1) * 3 + k) x)) 20 r 0 (upd (F 20 r 0) (m - 1) (nI (k + 1)))
set_option maxRecDepth 100000 in
set_option maxHeartbeats 4000000 in
theorem k_X1_addOutput_0 {l : Launch} {D : va_G} {aC : Nat → ClassId} {ad : xAd} {h0 h : mH} {F : xFm} {W : xWm} {pm : Nat → Nat} (hR : xR xV ad h0 F W pm h) {r : Nat} (hr : r < 9) {m : Nat} (hm : F 17 r 0 5 = nI m) (hm4 : m < 4) (x : Int32) : mCon l D aC mX1_addOutput [.ref (ad 17 r 0), .int x, .int (nI 0)] h (mRv (fun h' => xR xV ad h0 (xAo F r m x (nI 0)) W pm h')) := by
  refine mCon.of [some (.ref (ad 17 r 0)), some (.int x), some (.int (nI 0))] (by decide +kernel) rfl (Nat.le_of_ble_eq_true rfl) ?_
  intro K el eD eC hK hZ
  subst el eD eC
  refine mJ_aload_n hK dX1_addOutput_0 rfl ?_
  refine xJ_getx (nI m) hR hK dX1_addOutput_1 fX1_35 (by unfold xV; omega) (fun _ _ => rfl) (by decide) rfl (by first | exact hm | (simp [fr, upd]; exact hm)) ?_
  refine mJ_iconst (v := nI 4) hK dX1_addOutput_4 (by decide) ?_
  refine mJ_nlt (tgt := 9) hK dX1_addOutput_5 (by decide) (by omega) (by omega) (fun c_5 => ?_) (fun c_5 => ?_)
  · refine mJ_aload_n hK dX1_addOutput_9 rfl ?_
    refine xJ_getr hR hK dX1_addOutput_10 fX1_9 (by unfold xV; omega) (fun _ _ => rfl) (by decide) (fun _ _ => rfl) ?_
    refine mJ_aload_n hK dX1_addOutput_13 rfl ?_
    refine xJ_getx (nI m) hR hK dX1_addOutput_14 fX1_35 (by unfold xV; omega) (fun _ _ => rfl) (by decide) rfl (by first | exact hm | (simp [fr, upd]; exact hm)) ?_
    refine mJ_iload_n hK dX1_addOutput_17 rfl ?_
    refine xJ_iast m hR hK dX1_addOutput_18 (by unfold xV; omega) (fun _ _ => rfl) rfl (by omega) (by decide) (fun h hR => ?_)
    refine mJ_aload_n hK dX1_addOutput_19 rfl ?_
    refine xJ_getr hR hK dX1_addOutput_20 fX1_15 (by unfold xV; omega) (fun _ _ => rfl) (by decide) (fun _ _ => rfl) ?_
    refine mJ_aload_n hK dX1_addOutput_23 rfl ?_
    refine xJ_getx (nI m) hR hK dX1_addOutput_24 fX1_35 (by unfold xV; omega) (fun _ _ => rfl) (by decide) rfl (by first | exact hm | (simp [fr, upd]; exact hm)) ?_
    refine mJ_iload_n hK dX1_addOutput_27 rfl ?_
    refine xJ_zast m hR hK dX1_addOutput_28 (by unfold xV; omega) (fun _ _ => rfl) (by decide) rfl (by omega) (by decide) (fun h hR => ?_)
    refine mJ_aload_n hK dX1_addOutput_29 rfl ?_
    refine xJ_getr hR hK dX1_addOutput_30 fX1_19 (by unfold xV; omega) (fun _ _ => rfl) (by decide) (fun _ _ => rfl) ?_
    refine mJ_aload_n hK dX1_addOutput_33 rfl ?_
    refine xJ_getx (nI m) hR hK dX1_addOutput_34 fX1_35 (by unfold xV; omega) (fun _ _ => rfl) (by decide) rfl (by first | exact hm | (simp [fr, upd]; exact hm)) ?_
    refine mJ_iconst (v := nI 0) hK dX1_addOutput_37 (by decide) ?_
    refine xJ_iast m hR hK dX1_addOutput_38 (by unfold xV; omega) (fun _ _ => rfl) rfl (by omega) (by decide) (fun h hR => ?_)
    refine mJ_iload_n hK dX1_addOutput_39 rfl ?_
    refine mJ_nif_eq (tgt := 55) hK dX1_addOutput_40 (by decide) (by omega) (fun c_40 => ?_) (fun c_40 => ?_)
    · refine mJ_aload_n hK dX1_addOutput_55 rfl ?_
      refine mJ_dup hK dX1_addOutput_56 rfl ?_
      refine xJ_getx (nI m) hR hK dX1_addOutput_57 fX1_35 (by unfold xV; omega) (fun _ _ => rfl) (by decide) rfl (by first | exact hm | (simp [fr, upd]; exact hm)) ?_
      refine mJ_iconst (v := nI 1) hK dX1_addOutput_60 (by decide) ?_
      refine mJ_iaddN hK dX1_addOutput_61 ?_
      refine xJ_puti hR hK dX1_addOutput_62 fX1_35 sX1_5 rfl rfl (by unfold xV; omega) (fun _ _ => rfl) (by decide) rfl (fun h hR => ?_)
      refine mJ_vret hK dX1_addOutput_65 rfl hZ (by decide) (by decide) ?_
      exact ⟨rfl, hR⟩
    · exact absurd c_40 (by omega)
  · exact absurd c_5 (by omega)

set_option maxRecDepth 100000 in
set_option maxHeartbeats 4000000 in
theorem k_X1_addOutput_1 {l : Launch} {D : va_G} {aC : Nat → ClassId} {ad : xAd} {h0 h : mH} {F : xFm} {W : xWm} {pm : Nat → Nat} (hR : xR xV ad h0 F W pm h) {r : Nat} (hr : r < 9) {m : Nat} (hm : F 17 r 0 5 = nI m) (hm4 : m < 4) (x : Int32) : mCon l D aC mX1_addOutput [.ref (ad 17 r 0), .int x, .int (nI 1)] h (mRv (fun h' => xR xV ad h0 (xAr F r m x (nI 1)) W pm h')) := by
  refine mCon.of [some (.ref (ad 17 r 0)), some (.int x), some (.int (nI 1))] (by decide +kernel) rfl (Nat.le_of_ble_eq_true rfl) ?_
  intro K el eD eC hK hZ
  subst el eD eC
  refine mJ_aload_n hK dX1_addOutput_0 rfl ?_
  refine xJ_getx (nI m) hR hK dX1_addOutput_1 fX1_35 (by unfold xV; omega) (fun _ _ => rfl) (by decide) rfl (by first | exact hm | (simp [fr, upd]; exact hm)) ?_
  refine mJ_iconst (v := nI 4) hK dX1_addOutput_4 (by decide) ?_
  refine mJ_nlt (tgt := 9) hK dX1_addOutput_5 (by decide) (by omega) (by omega) (fun c_5 => ?_) (fun c_5 => ?_)
  · refine mJ_aload_n hK dX1_addOutput_9 rfl ?_
    refine xJ_getr hR hK dX1_addOutput_10 fX1_9 (by unfold xV; omega) (fun _ _ => rfl) (by decide) (fun _ _ => rfl) ?_
    refine mJ_aload_n hK dX1_addOutput_13 rfl ?_
    refine xJ_getx (nI m) hR hK dX1_addOutput_14 fX1_35 (by unfold xV; omega) (fun _ _ => rfl) (by decide) rfl (by first | exact hm | (simp [fr, upd]; exact hm)) ?_
    refine mJ_iload_n hK dX1_addOutput_17 rfl ?_
    refine xJ_iast m hR hK dX1_addOutput_18 (by unfold xV; omega) (fun _ _ => rfl) rfl (by omega) (by decide) (fun h hR => ?_)
    refine mJ_aload_n hK dX1_addOutput_19 rfl ?_
    refine xJ_getr hR hK dX1_addOutput_20 fX1_15 (by unfold xV; omega) (fun _ _ => rfl) (by decide) (fun _ _ => rfl) ?_
    refine mJ_aload_n hK dX1_addOutput_23 rfl ?_
    refine xJ_getx (nI m) hR hK dX1_addOutput_24 fX1_35 (by unfold xV; omega) (fun _ _ => rfl) (by decide) rfl (by first | exact hm | (simp [fr, upd]; exact hm)) ?_
    refine mJ_iload_n hK dX1_addOutput_27 rfl ?_
    refine xJ_zast m hR hK dX1_addOutput_28 (by unfold xV; omega) (fun _ _ => rfl) (by decide) rfl (by omega) (by decide) (fun h hR => ?_)
    refine mJ_aload_n hK dX1_addOutput_29 rfl ?_
    refine xJ_getr hR hK dX1_addOutput_30 fX1_19 (by unfold xV; omega) (fun _ _ => rfl) (by decide) (fun _ _ => rfl) ?_
    refine mJ_aload_n hK dX1_addOutput_33 rfl ?_
    refine xJ_getx (nI m) hR hK dX1_addOutput_34 fX1_35 (by unfold xV; omega) (fun _ _ => rfl) (by decide) rfl (by first | exact hm | (simp [fr, upd]; exact hm)) ?_
    refine mJ_iconst (v := nI 0) hK dX1_addOutput_37 (by decide) ?_
    refine xJ_iast m hR hK dX1_addOutput_38 (by unfold xV; omega) (fun _ _ => rfl) rfl (by omega) (by decide) (fun h hR => ?_)
    refine mJ_iload_n hK dX1_addOutput_39 rfl ?_
    refine mJ_nif_eq (tgt := 55) hK dX1_addOutput_40 (by decide) (by omega) (fun c_40 => ?_) (fun c_40 => ?_)
    · exact absurd c_40 (by omega)
    · refine mJ_aload_n hK dX1_addOutput_43 rfl ?_
      refine mJ_dup hK dX1_addOutput_44 rfl ?_
      refine xJ_geti hR hK dX1_addOutput_45 fX1_32 (by unfold xV; omega) (fun _ _ => rfl) (by decide) rfl ?_
      refine mJ_iconst (v := nI 1) hK dX1_addOutput_48 (by decide) ?_
      refine mJ_iload_n hK dX1_addOutput_49 rfl ?_
      refine mJ_ishl hK dX1_addOutput_50 ?_
      refine mJ_ior hK dX1_addOutput_51 ?_
      refine xJ_puti hR hK dX1_addOutput_52 fX1_32 sX1_4 rfl rfl (by unfold xV; omega) (fun _ _ => rfl) (by decide) rfl (fun h hR => ?_)
      refine mJ_aload_n hK dX1_addOutput_55 rfl ?_
      refine mJ_dup hK dX1_addOutput_56 rfl ?_
      refine xJ_getx (nI m) hR hK dX1_addOutput_57 fX1_35 (by unfold xV; omega) (fun _ _ => rfl) (by decide) rfl (by first | exact hm | (simp [fr, upd]; exact hm)) ?_
      refine mJ_iconst (v := nI 1) hK dX1_addOutput_60 (by decide) ?_
      refine mJ_iaddN hK dX1_addOutput_61 ?_
      refine xJ_puti hR hK dX1_addOutput_62 fX1_35 sX1_5 rfl rfl (by unfold xV; omega) (fun _ _ => rfl) (by decide) rfl (fun h hR => ?_)
      refine mJ_vret hK dX1_addOutput_65 rfl hZ (by decide) (by decide) ?_
      refine ⟨rfl, xR_ext hR ?_⟩
      simp only [fr_s, xAr]
      funext k i j
      by_cases e1 : k = 17 ∧ i = r ∧ j = 0
      · obtain ⟨rfl, rfl, rfl⟩ := e1
        simp only [fr_s]
        rfl
      · rw [fr_n e1, fr_n e1, fr_n e1]
        rfl
  · exact absurd c_5 (by omega)

set_option maxRecDepth 100000 in
set_option maxHeartbeats 4000000 in
theorem k_X1_lastOperandCount {l : Launch} {D : va_G} {aC : Nat → ClassId} {ad : xAd} {h0 h : mH} {F : xFm} {W : xWm} {pm : Nat → Nat} (hR : xR xV ad h0 F W pm h) {r : Nat} (hr : r < 9) {m : Nat} (hm : F 17 r 0 5 = nI m) (hm1 : 0 < m) (hm4 : m ≤ 4) {k : Nat} (hk : F 20 r 0 (m - 1) = nI k) : mCon l D aC mX1_lastOperandCount [.ref (ad 17 r 0)] h (mRi (nI k) (fun h' => h' = h)) := by
  refine mCon.of [some (.ref (ad 17 r 0))] (by decide +kernel) rfl (Nat.le_of_ble_eq_true rfl) ?_
  intro K el eD eC hK hZ
  subst el eD eC
  refine mJ_aload_n hK dX1_lastOperandCount_0 rfl ?_
  refine xJ_getx (nI m) hR hK dX1_lastOperandCount_1 fX1_35 (by unfold xV; omega) (fun _ _ => rfl) (by decide) rfl (by first | exact hm | (simp [fr, upd]; exact hm)) ?_
  refine mJ_nif_ne (tgt := 11) hK dX1_lastOperandCount_4 (by decide) (by omega) (fun c_4 => ?_) (fun c_4 => ?_)
  · refine mJ_aload_n hK dX1_lastOperandCount_11 rfl ?_
    refine xJ_getr hR hK dX1_lastOperandCount_12 fX1_19 (by unfold xV; omega) (fun _ _ => rfl) (by decide) (fun _ _ => rfl) ?_
    refine mJ_aload_n hK dX1_lastOperandCount_15 rfl ?_
    refine xJ_getx (nI m) hR hK dX1_lastOperandCount_16 fX1_35 (by unfold xV; omega) (fun _ _ => rfl) (by decide) rfl (by first | exact hm | (simp [fr, upd]; exact hm)) ?_
    refine mJ_iconst (v := nI 1) hK dX1_lastOperandCount_19 (by decide) ?_
    refine mJ_isubN hK dX1_lastOperandCount_20 (by omega) ?_
    refine xJ_ialdx (m - 1) (nI k) hR hK dX1_lastOperandCount_21 (by unfold xV; omega) (fun _ _ => rfl) rfl (by omega) (by decide) (hk) ?_
    refine mJ_iret hK dX1_lastOperandCount_22 rfl hZ (by decide) (by decide) ?_
    exact ⟨rfl, rfl⟩
  · exact absurd c_4 (by omega)

set_option maxRecDepth 100000 in
set_option maxHeartbeats 4000000 in
theorem k_X1_addOperand {l : Launch} {D : va_G} {aC : Nat → ClassId} {ad : xAd} {h0 h : mH} {F : xFm} {W : xWm} {pm : Nat → Nat} (hR : xR xV ad h0 F W pm h) {r : Nat} (hr : r < 9) {m : Nat} (hm : F 17 r 0 5 = nI m) (hm1 : 0 < m) (hm4 : m ≤ 4) {k : Nat} (hk : F 20 r 0 (m - 1) = nI k) (hk3 : k < 3) (g x : Int32) : mCon l D aC mX1_addOperand [.ref (ad 17 r 0), .int g, .int x] h (mRv (fun h' => xR xV ad h0 (xAp F r m k g x) W pm h')) := by
  refine mCon.of [some (.ref (ad 17 r 0)), some (.int g), some (.int x), none, none] (by decide +kernel) rfl (Nat.le_of_ble_eq_true rfl) ?_
  intro K el eD eC hK hZ
  subst el eD eC
  refine mJ_aload_n hK dX1_addOperand_0 rfl ?_
  refine xJ_getx (nI m) hR hK dX1_addOperand_1 fX1_35 (by unfold xV; omega) (fun _ _ => rfl) (by decide) rfl (by first | exact hm | (simp [fr, upd]; exact hm)) ?_
  refine mJ_iconst (v := nI 1) hK dX1_addOperand_4 (by decide) ?_
  refine mJ_isubN hK dX1_addOperand_5 (by omega) ?_
  refine mJ_istore_n hK dX1_addOperand_6 (by decide) rfl ?_
  refine mJ_iload_n hK dX1_addOperand_7 rfl ?_
  refine mJ_nif_lt (tgt := 19) hK dX1_addOperand_8 (by decide) (by omega) ?_
  refine mJ_aload_n hK dX1_addOperand_11 rfl ?_
  refine mJ_cVi hK dX1_addOperand_12 lX1_55 (by unfold mFit; decide) (by decide) (k_X1_lastOperandCount hR hr hm hm1 hm4 hk) rfl rfl (Nat.le_of_ble_eq_true rfl) (hR.1 _ _ _ (by unfold xV; omega)) ⟨_, _, rfl⟩ (fun h e9 => ?_)
  subst e9
  refine mJ_iconst (v := nI 3) hK dX1_addOperand_15 (by decide) ?_
  refine mJ_nlt (tgt := 20) hK dX1_addOperand_16 (by decide) (by omega) (by omega) (fun c_16 => ?_) (fun c_16 => ?_)
  · refine mJ_iload_n hK dX1_addOperand_20 rfl ?_
    refine mJ_iconst (v := nI 3) hK dX1_addOperand_21 (by decide) ?_
    refine mJ_imulN hK dX1_addOperand_22 ?_
    refine mJ_aload_n hK dX1_addOperand_23 rfl ?_
    refine xJ_getr hR hK dX1_addOperand_24 fX1_19 (by unfold xV; omega) (fun _ _ => rfl) (by decide) (fun _ _ => rfl) ?_
    refine mJ_iload_n hK dX1_addOperand_27 rfl ?_
    refine xJ_ialdx (m - 1) (nI k) hR hK dX1_addOperand_28 (by unfold xV; omega) (fun _ _ => rfl) rfl (by omega) (by decide) (hk) ?_
    refine mJ_iaddN hK dX1_addOperand_29 ?_
    refine mJ_istore hK dX1_addOperand_30 (by decide) rfl ?_
    refine mJ_aload_n hK dX1_addOperand_32 rfl ?_
    refine xJ_getr hR hK dX1_addOperand_33 fX1_22 (by unfold xV; omega) (fun _ _ => rfl) (by decide) (fun _ _ => rfl) ?_
    refine mJ_iload hK dX1_addOperand_36 rfl ?_
    refine mJ_iload_n hK dX1_addOperand_38 rfl ?_
    refine xJ_iast (((m - 1) * 3) + k) hR hK dX1_addOperand_39 (by unfold xV; omega) (fun _ _ => rfl) rfl (by omega) (by decide) (fun h hR => ?_)
    refine mJ_aload_n hK dX1_addOperand_40 rfl ?_
    refine xJ_getr hR hK dX1_addOperand_41 fX1_25 (by unfold xV; omega) (fun _ _ => rfl) (by decide) (fun _ _ => rfl) ?_
    refine mJ_iload hK dX1_addOperand_44 rfl ?_
    refine mJ_iload_n hK dX1_addOperand_46 rfl ?_
    refine xJ_iast (((m - 1) * 3) + k) hR hK dX1_addOperand_47 (by unfold xV; omega) (fun _ _ => rfl) rfl (by omega) (by decide) (fun h hR => ?_)
    refine mJ_aload_n hK dX1_addOperand_48 rfl ?_
    refine xJ_getr hR hK dX1_addOperand_49 fX1_19 (by unfold xV; omega) (fun _ _ => rfl) (by decide) (fun _ _ => rfl) ?_
    refine mJ_iload_n hK dX1_addOperand_52 rfl ?_
    refine mJ_dup2 hK dX1_addOperand_53 rfl rfl ?_
    refine xJ_ialdx (m - 1) (nI k) hR hK dX1_addOperand_54 (by unfold xV; omega) (fun _ _ => rfl) rfl (by omega) (by decide) (hk) ?_
    refine mJ_iconst (v := nI 1) hK dX1_addOperand_55 (by decide) ?_
    refine mJ_iaddN hK dX1_addOperand_56 ?_
    refine xJ_iast (m - 1) hR hK dX1_addOperand_57 (by unfold xV; omega) (fun _ _ => rfl) rfl (by omega) (by decide) (fun h hR => ?_)
    refine mJ_vret hK dX1_addOperand_58 rfl hZ (by decide) (by decide) ?_
    exact ⟨rfl, hR⟩
  · exact absurd c_16 (by omega)

def snN (q t : Nat → Int32) (c : Int32) : Nat → Nat
  | 0 => 0
  | i + 1 => if q i = 0 ∧ t i = c then snN q t c i + 1 else snN q t c i
theorem snN_le {q t : Nat → Int32} {c : Int32} : ∀ i, snN q t c i ≤ i
  | 0 => Nat.le_refl 0
  | i + 1 => by
    have := snN_le (q := q) (t := t) (c := c) i
    unfold snN
    split <;> omega
set_option maxRecDepth 100000 in
set_option maxHeartbeats 4000000 in
theorem lp_X1_sentTo {K : mK} (hK : mCx K mX1_sentTo) {ad : xAd} {h0 : mH} {F : xFm} {W : xWm} {pm : Nat → Nat} {r : Nat} (hr : r < 9) {m : Nat} (hm : F 17 r 0 5 = nI m) (hm4 : m ≤ 4) {x : Int32} {h9 : mH} (hZ : mRt K mX1_sentTo (mRi (nI (snN (F 19 r 0) (F 18 r 0) x m)) (fun h' => h' = h9))) : ∀ (fu : Nat) (i : Nat) (h : mH), m - i < fu → (i ≤ m) → (h = h9) → (xR xV ad h0 F W pm h) → mJ K 0 0 4 [some (.ref (ad 17 r 0)), some (.int x), some (.int (nI (snN (F 19 r 0) (F 18 r 0) x i))), some (.int (nI i))] [] h := by
  intro fu
  induction fu with
  | zero =>
    intro i h hm0
    exact absurd hm0 (by omega)
  | succ fu ih =>
    intro i h hm0 hi eh hR
    refine mJ_iload_n hK dX1_sentTo_4 rfl ?_
    refine mJ_aload_n hK dX1_sentTo_5 rfl ?_
    refine xJ_getx (nI m) hR hK dX1_sentTo_6 fX1_35 (by unfold xV; omega) (fun _ _ => rfl) (by decide) rfl (by first | exact hm | (simp [fr, upd]; exact hm)) ?_
    refine mJ_nge (tgt := 40) hK dX1_sentTo_9 (by decide) (by omega) (by omega) (fun c_9 => ?_) (fun c_9 => ?_)
    · refine mJ_iload_n hK dX1_sentTo_40 rfl ?_
      refine mJ_iret hK dX1_sentTo_41 rfl hZ (by decide) (by decide) ?_
      have : i = m := by omega
      subst this
      exact ⟨rfl, eh⟩
    · refine mJ_aload_n hK dX1_sentTo_12 rfl ?_
      refine xJ_getr hR hK dX1_sentTo_13 fX1_15 (by unfold xV; omega) (fun _ _ => rfl) (by decide) (fun _ _ => rfl) ?_
      refine mJ_iload_n hK dX1_sentTo_16 rfl ?_
      refine xJ_zald i hR hK dX1_sentTo_17 (by unfold xV; omega) (fun _ _ => rfl) rfl (by omega) (by decide) ?_
      refine mJ_if_ne (tgt := 34) hK dX1_sentTo_18 (by decide) (fun c_18 => ?_) (fun c_18 => ?_)
      · refine mJ_iincN hK dX1_sentTo_34 rfl rfl (by decide) rfl ?_
        refine mJ_goto (tgt := 4) hK dX1_sentTo_37 (by decide) ?_
        refine mJ_L ?_ (ih (i + 1) _ (by omega) (by omega) eh hR)
        simp_all [snN]
      · refine mJ_aload_n hK dX1_sentTo_21 rfl ?_
        refine xJ_getr hR hK dX1_sentTo_22 fX1_9 (by unfold xV; omega) (fun _ _ => rfl) (by decide) (fun _ _ => rfl) ?_
        refine mJ_iload_n hK dX1_sentTo_25 rfl ?_
        refine xJ_iald i hR hK dX1_sentTo_26 (by unfold xV; omega) (fun _ _ => rfl) rfl (by omega) (by decide) ?_
        refine mJ_iload_n hK dX1_sentTo_27 rfl ?_
        refine mJ_icmp_ne (tgt := 34) hK dX1_sentTo_28 (by decide) (fun c_28 => ?_) (fun c_28 => ?_)
        · refine mJ_iincN hK dX1_sentTo_34 rfl rfl (by decide) rfl ?_
          refine mJ_goto (tgt := 4) hK dX1_sentTo_37 (by decide) ?_
          refine mJ_L ?_ (ih (i + 1) _ (by omega) (by omega) eh hR)
          simp_all [snN]
        · refine mJ_iincN hK dX1_sentTo_31 rfl rfl (by decide) rfl ?_
          refine mJ_iincN hK dX1_sentTo_34 rfl rfl (by decide) rfl ?_
          refine mJ_goto (tgt := 4) hK dX1_sentTo_37 (by decide) ?_
          refine mJ_L ?_ (ih (i + 1) _ (by omega) (by omega) eh hR)
          simp_all [snN]

set_option maxRecDepth 100000 in
set_option maxHeartbeats 4000000 in
theorem k_X1_sentTo {l : Launch} {D : va_G} {aC : Nat → ClassId} {ad : xAd} {h0 h : mH} {F : xFm} {W : xWm} {pm : Nat → Nat} (hR : xR xV ad h0 F W pm h) {r : Nat} (hr : r < 9) {m : Nat} (hm : F 17 r 0 5 = nI m) (hm4 : m ≤ 4) (x : Int32) : mCon l D aC mX1_sentTo [.ref (ad 17 r 0), .int x] h (mRi (nI (snN (F 19 r 0) (F 18 r 0) x m)) (fun h' => h' = h)) := by
  refine mCon.of [some (.ref (ad 17 r 0)), some (.int x), none, none] (by decide +kernel) rfl (Nat.le_of_ble_eq_true rfl) ?_
  intro K el eD eC hK hZ
  subst el eD eC
  refine mJ_iconst (v := nI 0) hK dX1_sentTo_0 (by decide) ?_
  refine mJ_istore_n hK dX1_sentTo_1 (by decide) rfl ?_
  refine mJ_iconst (v := nI 0) hK dX1_sentTo_2 (by decide) ?_
  refine mJ_istore_n hK dX1_sentTo_3 (by decide) rfl ?_
  exact lp_X1_sentTo hK hr hm hm4 hZ (m + 1) 0 _ (by omega) (by omega) rfl hR
