def oofI (x : Int32) : Int32 := if x < nI 97 then nI 8 + x - nI 48 else x - nI 97
theorem isO_40 {p : Int32} {cd : Nat} (h : isO p cd) : 40 ≤ cd := by
  rcases h with h | h
  · have := h.1
    omega
  · omega
theorem oofI_n {cd : Nat} (hcd : cd < 1000) (h : 40 ≤ cd) : oofI (nI cd) = nI (oof cd) := by
  unfold oofI oof
  by_cases e : 97 ≤ cd
  · rw [if_neg (nI_nlt e (by omega)), if_pos e, pk_sub e]
  · rw [if_pos (nI_lt (by omega) (by omega)), if_neg e, nI_add, pk_sub (by omega)]
def mtG (F : xFm) (a cd : Nat) : Option xFm := if isO (F 30 0 0 25) cd then some (rS (sS F 24 (nI (a + 2))) 58 a (nI (oof cd))) else none
def mtH (F : xFm) (cd : Nat) : Option xFm := if cd = 60 ∨ cd = 61 ∨ cd = 62 then some (rS (sS F 24 (nI 3)) 58 1 (nI cd)) else none
def mt4 (F : xFm) (cd : Nat) : Option xFm := if cd = 58 then some (sS F 24 (nI 5)) else none
def mt7 (F : xFm) (cd : Nat) : Option xFm := if cd = 61 then some (sS F 24 (nI 8)) else none
def mtO (F : xFm) (ro cd : Nat) : Option xFm := if cd = 33 then some (sS (rS F 63 ro (nI 0)) 24 (nI 6)) else if 97 ≤ cd ∧ cd ≤ 104 then some (sS (rS (rS F 63 ro (nI 0)) 62 ro (nI (cd - 97))) 24 (nI 7)) else none
def mtr (F : xFm) (ro cd : Nat) : Option xFm := if (97 ≤ cd ∧ cd ≤ 100) ∧ ofP (F 30 0 0 25) cd ∧ ¬ usP (F 30 0 0 30) (nI (cd - 97)) then some (sS (rS (sS F 24 (nI 7)) 62 ro (nI (8 + cd - 97))) 30 (F 30 0 0 30 ||| nI 1 <<< (nI (cd - 97) &&& 31))) else none
def mtp (F : xFm) (ro k cd : Nat) : Option xFm := if isO (F 30 0 0 25) cd then some (rS (rS (sS F 24 (nI 9)) 64 (3 * ro + k) (nI (oof cd))) 63 ro (nI (k + 1))) else none
def mtb (F : xFm) (ro k cd : Nat) : Option xFm := if cd = 44 then (if ro + 1 < 4 then some (sS (sS (sS F 29 (nI (ro + 1))) 24 (nI 5)) 31 (nI 1)) else none) else if k = 3 then none else if cd = 43 ∨ cd = 45 ∨ cd = 42 then some (sS (rS F 65 (3 * ro + k) (nI cd)) 24 (nI 8)) else none
set_option maxRecDepth 100000 in
set_option maxHeartbeats 4000000 in
theorem k_X6_operandOf_I {l : Launch} {D : va_G} {aC : Nat → ClassId} {h : mH} (x : Int32) : mCon l D aC mX6_operandOf [.int x] h (mRi (oofI x) (fun h' => h' = h)) := by
  refine mCon.of [some (.int x)] (by decide +kernel) rfl (Nat.le_of_ble_eq_true rfl) ?_
  intro K el eD eC hK hZ
  subst el eD eC
  refine mJ_iload_n hK dX6_operandOf_0 rfl ?_
  refine mJ_bipush (v := nI 97) hK dX6_operandOf_1 (by decide) ?_
  refine mJ_icmp_lt (tgt := 13) hK dX6_operandOf_3 (by decide) (fun c_3 => ?_) (fun c_3 => ?_)
  · refine mJ_bipush (v := nI 8) hK dX6_operandOf_13 (by decide) ?_
    refine mJ_iload_n hK dX6_operandOf_15 rfl ?_
    refine mJ_iadd hK dX6_operandOf_16 ?_
    refine mJ_bipush (v := nI 48) hK dX6_operandOf_17 (by decide) ?_
    refine mJ_isub hK dX6_operandOf_19 ?_
    refine mJ_iret hK dX6_operandOf_20 rfl hZ (by decide) (by decide) ?_
    first | exact ⟨by rw [oofI, if_pos c_3], rfl⟩ | exact ⟨by rw [oofI, if_neg c_3], rfl⟩
  · refine mJ_iload_n hK dX6_operandOf_6 rfl ?_
    refine mJ_bipush (v := nI 97) hK dX6_operandOf_7 (by decide) ?_
    refine mJ_isub hK dX6_operandOf_9 ?_
    refine mJ_goto (tgt := 20) hK dX6_operandOf_10 (by decide) ?_
    refine mJ_iret hK dX6_operandOf_20 rfl hZ (by decide) (by decide) ?_
    first | exact ⟨by rw [oofI, if_pos c_3], rfl⟩ | exact ⟨by rw [oofI, if_neg c_3], rfl⟩

set_option maxRecDepth 100000 in
set_option maxHeartbeats 4000000 in
theorem k_X6_takesGuard_1 {l : Launch} {D : va_G} {aC : Nat → ClassId} {ad : xAd} {h0 h : mH} {F : xFm} {W : xWm} {pm : Nat → Nat} (hR : xR yV ad h0 F W pm h) {cd : Nat} (hcd : cd < 1000) (hs : F 30 0 0 24 = nI 1) : mCon l D aC mX6_takesGuard [.ref (ad 30 0 0), .int (nI cd)] h (mRi (bI ((mtG F 0 cd).isSome = true)) (fun h' => ∃ G : xFm, xR yV ad h0 G W pm h' ∧ pO F G ∧ ∀ G', mtG F 0 cd = some G' → G = G')) := by
  refine mCon.of [some (.ref (ad 30 0 0)), some (.int (nI cd)), none] (by decide +kernel) rfl (Nat.le_of_ble_eq_true rfl) ?_
  intro K el eD eC hK hZ
  subst el eD eC
  refine mJ_aload_n hK dX6_takesGuard_0 rfl ?_
  refine xJ_getx (nI 1) hR hK dX6_takesGuard_1 fX6_140 (by unfold yV; omega) (fun _ _ => rfl) (by decide) rfl (by first | exact hs | (simp [fr, upd]; exact hs) | (simp [fr, upd, tS]; exact hs)) ?_
  refine mJ_iconst (v := nI 1) hK dX6_takesGuard_4 (by decide) ?_
  refine mJ_isubN hK dX6_takesGuard_5 (by omega) ?_
  refine mJ_istore_n hK dX6_takesGuard_6 (by decide) rfl ?_
  refine mJ_aload_n hK dX6_takesGuard_7 rfl ?_
  refine mJ_dup hK dX6_takesGuard_8 rfl ?_
  refine xJ_getx (nI 1) hR hK dX6_takesGuard_9 fX6_140 (by unfold yV; omega) (fun _ _ => rfl) (by decide) rfl (by first | exact hs | (simp [fr, upd]; exact hs) | (simp [fr, upd, tS]; exact hs)) ?_
  refine mJ_iconst (v := nI 1) hK dX6_takesGuard_12 (by decide) ?_
  refine mJ_iaddN hK dX6_takesGuard_13 ?_
  refine xJ_puti hR hK dX6_takesGuard_14 fX6_140 sX6_24 rfl rfl (by unfold yV; omega) (fun _ _ => rfl) (by decide) rfl (fun h hR => ?_)
  refine mJ_aload_n hK dX6_takesGuard_17 rfl ?_
  refine xJ_getr hR hK dX6_takesGuard_18 fX6_66 (by unfold yV; omega) (fun _ _ => rfl) (by decide) (fun _ _ => rfl) ?_
  refine mJ_iload_n hK dX6_takesGuard_21 rfl ?_
  refine mJ_iload_n hK dX6_takesGuard_22 rfl ?_
  refine mJ_iconst (v := nI 1) hK dX6_takesGuard_23 (by decide) ?_
  refine mJ_nne (tgt := 31) hK dX6_takesGuard_24 (by decide) (by omega) (by omega) (fun c_24 => ?_) (fun c_24 => ?_)
  · refine mJ_iload_n hK dX6_takesGuard_31 rfl ?_
    refine mJ_cSi hK dX6_takesGuard_32 lX6_152 (by unfold mFit; decide) (by decide) (k_X6_operandOf_I _) rfl rfl (Nat.le_of_ble_eq_true rfl) (fun h e9 => ?_)
    subst e9
    refine xJ_iast (1 - 1) hR hK dX6_takesGuard_35 (by unfold yV; omega) (fun _ _ => rfl) rfl (by omega) (by decide) (fun h hR => ?_)
    refine mJ_iload_n hK dX6_takesGuard_36 rfl ?_
    refine mJ_iconst (v := nI 1) hK dX6_takesGuard_37 (by decide) ?_
    refine mJ_nne (tgt := 67) hK dX6_takesGuard_38 (by decide) (by omega) (by omega) (fun c_38 => ?_) (fun c_38 => ?_)
    · refine mJ_aload_n hK dX6_takesGuard_67 rfl ?_
      refine mJ_iload_n hK dX6_takesGuard_68 rfl ?_
      refine mJ_cVi hK dX6_takesGuard_69 lX6_149 (by unfold mFit; decide) (by decide) (k_X6_isOperand hR hcd) rfl rfl (Nat.le_of_ble_eq_true rfl) (hR.1 _ _ _ (by unfold yV; omega)) ⟨_, _, rfl⟩ (fun h e9 => ?_)
      subst e9
      refine mJ_zret hK dX6_takesGuard_72 rfl bI_nar hZ (by decide) (by decide) ?_
      by_cases ho : isO (F 30 0 0 25) cd
      · have e9 : mtG F 0 cd = some _ := if_pos ho
        refine ⟨congrArg (fun z => some (Value.int z)) (by rw [e9]; exact bI_iff (iff_of_true ho rfl)), _, hR, pO_tr (pO_s (by omega)) (pO_r (by omega)), fun G' z => by rw [e9] at z; cases z; rw [oofI_n hcd (isO_40 ho)]; rfl⟩
      · have e9 : mtG F 0 cd = none := if_neg ho
        exact ⟨congrArg (fun z => some (Value.int z)) (by rw [e9]; exact bI_iff (iff_of_false ho (fun z => by cases z))), _, hR, pO_tr (pO_s (by omega)) (pO_r (by omega)), fun G' z => by rw [e9] at z; cases z⟩
    · exact absurd c_38 (by omega)
  · exact absurd c_24 (by omega)

set_option maxRecDepth 100000 in
set_option maxHeartbeats 4000000 in
theorem k_X6_takesGuard_3 {l : Launch} {D : va_G} {aC : Nat → ClassId} {ad : xAd} {h0 h : mH} {F : xFm} {W : xWm} {pm : Nat → Nat} (hR : xR yV ad h0 F W pm h) {cd : Nat} (hcd : cd < 1000) (hs : F 30 0 0 24 = nI 3) : mCon l D aC mX6_takesGuard [.ref (ad 30 0 0), .int (nI cd)] h (mRi (bI ((mtG F 2 cd).isSome = true)) (fun h' => ∃ G : xFm, xR yV ad h0 G W pm h' ∧ pO F G ∧ ∀ G', mtG F 2 cd = some G' → G = G')) := by
  refine mCon.of [some (.ref (ad 30 0 0)), some (.int (nI cd)), none] (by decide +kernel) rfl (Nat.le_of_ble_eq_true rfl) ?_
  intro K el eD eC hK hZ
  subst el eD eC
  refine mJ_aload_n hK dX6_takesGuard_0 rfl ?_
  refine xJ_getx (nI 3) hR hK dX6_takesGuard_1 fX6_140 (by unfold yV; omega) (fun _ _ => rfl) (by decide) rfl (by first | exact hs | (simp [fr, upd]; exact hs) | (simp [fr, upd, tS]; exact hs)) ?_
  refine mJ_iconst (v := nI 1) hK dX6_takesGuard_4 (by decide) ?_
  refine mJ_isubN hK dX6_takesGuard_5 (by omega) ?_
  refine mJ_istore_n hK dX6_takesGuard_6 (by decide) rfl ?_
  refine mJ_aload_n hK dX6_takesGuard_7 rfl ?_
  refine mJ_dup hK dX6_takesGuard_8 rfl ?_
  refine xJ_getx (nI 3) hR hK dX6_takesGuard_9 fX6_140 (by unfold yV; omega) (fun _ _ => rfl) (by decide) rfl (by first | exact hs | (simp [fr, upd]; exact hs) | (simp [fr, upd, tS]; exact hs)) ?_
  refine mJ_iconst (v := nI 1) hK dX6_takesGuard_12 (by decide) ?_
  refine mJ_iaddN hK dX6_takesGuard_13 ?_
  refine xJ_puti hR hK dX6_takesGuard_14 fX6_140 sX6_24 rfl rfl (by unfold yV; omega) (fun _ _ => rfl) (by decide) rfl (fun h hR => ?_)
  refine mJ_aload_n hK dX6_takesGuard_17 rfl ?_
  refine xJ_getr hR hK dX6_takesGuard_18 fX6_66 (by unfold yV; omega) (fun _ _ => rfl) (by decide) (fun _ _ => rfl) ?_
  refine mJ_iload_n hK dX6_takesGuard_21 rfl ?_
  refine mJ_iload_n hK dX6_takesGuard_22 rfl ?_
  refine mJ_iconst (v := nI 1) hK dX6_takesGuard_23 (by decide) ?_
  refine mJ_nne (tgt := 31) hK dX6_takesGuard_24 (by decide) (by omega) (by omega) (fun c_24 => ?_) (fun c_24 => ?_)
  · refine mJ_iload_n hK dX6_takesGuard_31 rfl ?_
    refine mJ_cSi hK dX6_takesGuard_32 lX6_152 (by unfold mFit; decide) (by decide) (k_X6_operandOf_I _) rfl rfl (Nat.le_of_ble_eq_true rfl) (fun h e9 => ?_)
    subst e9
    refine xJ_iast (3 - 1) hR hK dX6_takesGuard_35 (by unfold yV; omega) (fun _ _ => rfl) rfl (by omega) (by decide) (fun h hR => ?_)
    refine mJ_iload_n hK dX6_takesGuard_36 rfl ?_
    refine mJ_iconst (v := nI 1) hK dX6_takesGuard_37 (by decide) ?_
    refine mJ_nne (tgt := 67) hK dX6_takesGuard_38 (by decide) (by omega) (by omega) (fun c_38 => ?_) (fun c_38 => ?_)
    · refine mJ_aload_n hK dX6_takesGuard_67 rfl ?_
      refine mJ_iload_n hK dX6_takesGuard_68 rfl ?_
      refine mJ_cVi hK dX6_takesGuard_69 lX6_149 (by unfold mFit; decide) (by decide) (k_X6_isOperand hR hcd) rfl rfl (Nat.le_of_ble_eq_true rfl) (hR.1 _ _ _ (by unfold yV; omega)) ⟨_, _, rfl⟩ (fun h e9 => ?_)
      subst e9
      refine mJ_zret hK dX6_takesGuard_72 rfl bI_nar hZ (by decide) (by decide) ?_
      by_cases ho : isO (F 30 0 0 25) cd
      · have e9 : mtG F 2 cd = some _ := if_pos ho
        refine ⟨congrArg (fun z => some (Value.int z)) (by rw [e9]; exact bI_iff (iff_of_true ho rfl)), _, hR, pO_tr (pO_s (by omega)) (pO_r (by omega)), fun G' z => by rw [e9] at z; cases z; rw [oofI_n hcd (isO_40 ho)]; rfl⟩
      · have e9 : mtG F 2 cd = none := if_neg ho
        exact ⟨congrArg (fun z => some (Value.int z)) (by rw [e9]; exact bI_iff (iff_of_false ho (fun z => by cases z))), _, hR, pO_tr (pO_s (by omega)) (pO_r (by omega)), fun G' z => by rw [e9] at z; cases z⟩
    · exact absurd c_38 (by omega)
  · exact absurd c_24 (by omega)

set_option maxRecDepth 100000 in
set_option maxHeartbeats 4000000 in
theorem k_X6_takesGuard_2 {l : Launch} {D : va_G} {aC : Nat → ClassId} {ad : xAd} {h0 h : mH} {F : xFm} {W : xWm} {pm : Nat → Nat} (hR : xR yV ad h0 F W pm h) {cd : Nat} (hcd : cd < 1000) (hs : F 30 0 0 24 = nI 2) : mCon l D aC mX6_takesGuard [.ref (ad 30 0 0), .int (nI cd)] h (mRi (bI ((mtH F cd).isSome = true)) (fun h' => ∃ G : xFm, xR yV ad h0 G W pm h' ∧ pO F G ∧ ∀ G', mtH F cd = some G' → G = G')) := by
  refine mCon.of [some (.ref (ad 30 0 0)), some (.int (nI cd)), none] (by decide +kernel) rfl (Nat.le_of_ble_eq_true rfl) ?_
  intro K el eD eC hK hZ
  subst el eD eC
  refine mJ_aload_n hK dX6_takesGuard_0 rfl ?_
  refine xJ_getx (nI 2) hR hK dX6_takesGuard_1 fX6_140 (by unfold yV; omega) (fun _ _ => rfl) (by decide) rfl (by first | exact hs | (simp [fr, upd]; exact hs) | (simp [fr, upd, tS]; exact hs)) ?_
  refine mJ_iconst (v := nI 1) hK dX6_takesGuard_4 (by decide) ?_
  refine mJ_isubN hK dX6_takesGuard_5 (by omega) ?_
  refine mJ_istore_n hK dX6_takesGuard_6 (by decide) rfl ?_
  refine mJ_aload_n hK dX6_takesGuard_7 rfl ?_
  refine mJ_dup hK dX6_takesGuard_8 rfl ?_
  refine xJ_getx (nI 2) hR hK dX6_takesGuard_9 fX6_140 (by unfold yV; omega) (fun _ _ => rfl) (by decide) rfl (by first | exact hs | (simp [fr, upd]; exact hs) | (simp [fr, upd, tS]; exact hs)) ?_
  refine mJ_iconst (v := nI 1) hK dX6_takesGuard_12 (by decide) ?_
  refine mJ_iaddN hK dX6_takesGuard_13 ?_
  refine xJ_puti hR hK dX6_takesGuard_14 fX6_140 sX6_24 rfl rfl (by unfold yV; omega) (fun _ _ => rfl) (by decide) rfl (fun h hR => ?_)
  refine mJ_aload_n hK dX6_takesGuard_17 rfl ?_
  refine xJ_getr hR hK dX6_takesGuard_18 fX6_66 (by unfold yV; omega) (fun _ _ => rfl) (by decide) (fun _ _ => rfl) ?_
  refine mJ_iload_n hK dX6_takesGuard_21 rfl ?_
  refine mJ_iload_n hK dX6_takesGuard_22 rfl ?_
  refine mJ_iconst (v := nI 1) hK dX6_takesGuard_23 (by decide) ?_
  refine mJ_nne (tgt := 31) hK dX6_takesGuard_24 (by decide) (by omega) (by omega) (fun c_24 => ?_) (fun c_24 => ?_)
  · exact absurd c_24 (by omega)
  · refine mJ_iload_n hK dX6_takesGuard_27 rfl ?_
    refine mJ_goto (tgt := 35) hK dX6_takesGuard_28 (by decide) ?_
    refine xJ_iast (2 - 1) hR hK dX6_takesGuard_35 (by unfold yV; omega) (fun _ _ => rfl) rfl (by omega) (by decide) (fun h hR => ?_)
    refine mJ_iload_n hK dX6_takesGuard_36 rfl ?_
    refine mJ_iconst (v := nI 1) hK dX6_takesGuard_37 (by decide) ?_
    refine mJ_nne (tgt := 67) hK dX6_takesGuard_38 (by decide) (by omega) (by omega) (fun c_38 => ?_) (fun c_38 => ?_)
    · exact absurd c_38 (by omega)
    · refine mJ_iload_n hK dX6_takesGuard_41 rfl ?_
      refine mJ_bipush (v := nI 60) hK dX6_takesGuard_42 (by decide) ?_
      refine mJ_neq (tgt := 59) hK dX6_takesGuard_44 (by decide) (by omega) (by omega) (fun c_44 => ?_) (fun c_44 => ?_)
      · refine mJ_iconst (v := nI 1) hK dX6_takesGuard_59 (by decide) ?_
        refine mJ_goto (tgt := 72) hK dX6_takesGuard_60 (by decide) ?_
        refine mJ_zret hK dX6_takesGuard_72 rfl (by decide) hZ (by decide) (by decide) ?_
        first | (exfalso; omega) | ((have e9 : mtH F cd = some _ := if_pos (by omega)) ; exact ⟨congrArg (fun z => some (Value.int z)) (b1 (by rw [e9]; rfl)), _, hR, pO_tr (pO_s (by omega)) (pO_r (by omega)), fun G' z => by rw [e9] at z; cases z; rfl⟩) | ((have e9 : mtH F cd = none := if_neg (by omega)) ; exact ⟨congrArg (fun z => some (Value.int z)) (b0 (by rw [e9]; exact fun z => by cases z)), _, hR, pO_tr (pO_s (by omega)) (pO_r (by omega)), fun G' z => by rw [e9] at z; cases z⟩)
      · refine mJ_iload_n hK dX6_takesGuard_47 rfl ?_
        refine mJ_bipush (v := nI 61) hK dX6_takesGuard_48 (by decide) ?_
        refine mJ_neq (tgt := 59) hK dX6_takesGuard_50 (by decide) (by omega) (by omega) (fun c_50 => ?_) (fun c_50 => ?_)
        · refine mJ_iconst (v := nI 1) hK dX6_takesGuard_59 (by decide) ?_
          refine mJ_goto (tgt := 72) hK dX6_takesGuard_60 (by decide) ?_
          refine mJ_zret hK dX6_takesGuard_72 rfl (by decide) hZ (by decide) (by decide) ?_
          first | (exfalso; omega) | ((have e9 : mtH F cd = some _ := if_pos (by omega)) ; exact ⟨congrArg (fun z => some (Value.int z)) (b1 (by rw [e9]; rfl)), _, hR, pO_tr (pO_s (by omega)) (pO_r (by omega)), fun G' z => by rw [e9] at z; cases z; rfl⟩) | ((have e9 : mtH F cd = none := if_neg (by omega)) ; exact ⟨congrArg (fun z => some (Value.int z)) (b0 (by rw [e9]; exact fun z => by cases z)), _, hR, pO_tr (pO_s (by omega)) (pO_r (by omega)), fun G' z => by rw [e9] at z; cases z⟩)
        · refine mJ_iload_n hK dX6_takesGuard_53 rfl ?_
          refine mJ_bipush (v := nI 62) hK dX6_takesGuard_54 (by decide) ?_
          refine mJ_nne (tgt := 63) hK dX6_takesGuard_56 (by decide) (by omega) (by omega) (fun c_56 => ?_) (fun c_56 => ?_)
          · refine mJ_iconst (v := nI 0) hK dX6_takesGuard_63 (by decide) ?_
            refine mJ_goto (tgt := 72) hK dX6_takesGuard_64 (by decide) ?_
            refine mJ_zret hK dX6_takesGuard_72 rfl (by decide) hZ (by decide) (by decide) ?_
            first | (exfalso; omega) | ((have e9 : mtH F cd = some _ := if_pos (by omega)) ; exact ⟨congrArg (fun z => some (Value.int z)) (b1 (by rw [e9]; rfl)), _, hR, pO_tr (pO_s (by omega)) (pO_r (by omega)), fun G' z => by rw [e9] at z; cases z; rfl⟩) | ((have e9 : mtH F cd = none := if_neg (by omega)) ; exact ⟨congrArg (fun z => some (Value.int z)) (b0 (by rw [e9]; exact fun z => by cases z)), _, hR, pO_tr (pO_s (by omega)) (pO_r (by omega)), fun G' z => by rw [e9] at z; cases z⟩)
          · refine mJ_iconst (v := nI 1) hK dX6_takesGuard_59 (by decide) ?_
            refine mJ_goto (tgt := 72) hK dX6_takesGuard_60 (by decide) ?_
            refine mJ_zret hK dX6_takesGuard_72 rfl (by decide) hZ (by decide) (by decide) ?_
            first | (exfalso; omega) | ((have e9 : mtH F cd = some _ := if_pos (by omega)) ; exact ⟨congrArg (fun z => some (Value.int z)) (b1 (by rw [e9]; rfl)), _, hR, pO_tr (pO_s (by omega)) (pO_r (by omega)), fun G' z => by rw [e9] at z; cases z; rfl⟩) | ((have e9 : mtH F cd = none := if_neg (by omega)) ; exact ⟨congrArg (fun z => some (Value.int z)) (b0 (by rw [e9]; exact fun z => by cases z)), _, hR, pO_tr (pO_s (by omega)) (pO_r (by omega)), fun G' z => by rw [e9] at z; cases z⟩)

set_option maxRecDepth 100000 in
set_option maxHeartbeats 4000000 in
theorem k_X6_takesOutput {l : Launch} {D : va_G} {aC : Nat → ClassId} {ad : xAd} {h0 h : mH} {F : xFm} {W : xWm} {pm : Nat → Nat} (hR : xR yV ad h0 F W pm h) {cd : Nat} (hcd : cd < 1000) {ro : Nat} (hro : F 30 0 0 29 = nI ro) (hro4 : ro < 4) : mCon l D aC mX6_takesOutput [.ref (ad 30 0 0), .int (nI cd)] h (mRi (bI ((mtO F ro cd).isSome = true)) (fun h' => ∃ G : xFm, xR yV ad h0 G W pm h' ∧ pO F G ∧ ∀ G', mtO F ro cd = some G' → G = G')) := by
  refine mCon.of [some (.ref (ad 30 0 0)), some (.int (nI cd))] (by decide +kernel) rfl (Nat.le_of_ble_eq_true rfl) ?_
  intro K el eD eC hK hZ
  subst el eD eC
  refine mJ_aload_n hK dX6_takesOutput_0 rfl ?_
  refine xJ_getr hR hK dX6_takesOutput_1 fX6_72 (by unfold yV; omega) (fun _ _ => rfl) (by decide) (fun _ _ => rfl) ?_
  refine mJ_aload_n hK dX6_takesOutput_4 rfl ?_
  refine xJ_getx (nI ro) hR hK dX6_takesOutput_5 fX6_143 (by unfold yV; omega) (fun _ _ => rfl) (by decide) rfl (by first | exact hro | (simp [fr, upd]; exact hro) | (simp [fr, upd, tS]; exact hro)) ?_
  refine mJ_iconst (v := nI 0) hK dX6_takesOutput_8 (by decide) ?_
  refine xJ_iast ro hR hK dX6_takesOutput_9 (by unfold yV; omega) (fun _ _ => rfl) rfl (by omega) (by decide) (fun h hR => ?_)
  refine mJ_iload_n hK dX6_takesOutput_10 rfl ?_
  refine mJ_bipush (v := nI 33) hK dX6_takesOutput_11 (by decide) ?_
  refine mJ_nne (tgt := 24) hK dX6_takesOutput_13 (by decide) (by omega) (by omega) (fun c_13 => ?_) (fun c_13 => ?_)
  · refine mJ_aload_n hK dX6_takesOutput_24 rfl ?_
    refine xJ_getr hR hK dX6_takesOutput_25 fX6_69 (by unfold yV; omega) (fun _ _ => rfl) (by decide) (fun _ _ => rfl) ?_
    refine mJ_aload_n hK dX6_takesOutput_28 rfl ?_
    refine xJ_getx (nI ro) hR hK dX6_takesOutput_29 fX6_143 (by unfold yV; omega) (fun _ _ => rfl) (by decide) rfl (by first | exact hro | (simp [fr, upd]; exact hro) | (simp [fr, upd, tS]; exact hro)) ?_
    refine mJ_iload_n hK dX6_takesOutput_32 rfl ?_
    refine mJ_bipush (v := nI 97) hK dX6_takesOutput_33 (by decide) ?_
    refine mJ_isub hK dX6_takesOutput_35 ?_
    refine xJ_iast ro hR hK dX6_takesOutput_36 (by unfold yV; omega) (fun _ _ => rfl) rfl (by omega) (by decide) (fun h hR => ?_)
    refine mJ_aload_n hK dX6_takesOutput_37 rfl ?_
    refine mJ_bipush (v := nI 7) hK dX6_takesOutput_38 (by decide) ?_
    refine xJ_puti hR hK dX6_takesOutput_40 fX6_140 sX6_24 rfl rfl (by unfold yV; omega) (fun _ _ => rfl) (by decide) rfl (fun h hR => ?_)
    refine mJ_iload_n hK dX6_takesOutput_43 rfl ?_
    refine mJ_bipush (v := nI 97) hK dX6_takesOutput_44 (by decide) ?_
    refine mJ_bipush (v := nI 104) hK dX6_takesOutput_46 (by decide) ?_
    refine mJ_cSi hK dX6_takesOutput_48 lX6_120 (by unfold mFit; decide) (by decide) (k_X6_withinN (by omega) (by omega) (by omega)) rfl rfl (Nat.le_of_ble_eq_true rfl) (fun h e9 => ?_)
    subst e9
    refine mJ_zret hK dX6_takesOutput_51 rfl bI_nar hZ (by decide) (by decide) ?_
    by_cases ho : 97 ≤ cd ∧ cd ≤ 104
    · have e9 : mtO F ro cd = some (sS (rS (rS F 63 ro (nI 0)) 62 ro (nI (cd - 97))) 24 (nI 7)) := by rw [mtO, if_neg (by omega), if_pos ho]
      refine ⟨congrArg (fun z => some (Value.int z)) (by rw [e9]; exact bI_iff (iff_of_true ho rfl)), _, hR, pO_tr (pO_tr (pO_r (by omega)) (pO_r (by omega))) (pO_s (by omega)), fun G' z => by rw [e9] at z; cases z; rw [← pk_sub (a := cd) (b := 97) (by omega)]; rfl⟩
    · have e9 : mtO F ro cd = none := by rw [mtO, if_neg (by omega), if_neg ho]
      exact ⟨congrArg (fun z => some (Value.int z)) (by rw [e9]; exact bI_iff (iff_of_false ho (fun z => by cases z))), _, hR, pO_tr (pO_tr (pO_r (by omega)) (pO_r (by omega))) (pO_s (by omega)), fun G' z => by rw [e9] at z; cases z⟩
  · refine mJ_aload_n hK dX6_takesOutput_16 rfl ?_
    refine mJ_bipush (v := nI 6) hK dX6_takesOutput_17 (by decide) ?_
    refine xJ_puti hR hK dX6_takesOutput_19 fX6_140 sX6_24 rfl rfl (by unfold yV; omega) (fun _ _ => rfl) (by decide) rfl (fun h hR => ?_)
    refine mJ_iconst (v := nI 1) hK dX6_takesOutput_22 (by decide) ?_
    refine mJ_zret hK dX6_takesOutput_23 rfl (by decide) hZ (by decide) (by decide) ?_
    have e9 : mtO F ro cd = some _ := if_pos (by omega)
    exact ⟨congrArg (fun z => some (Value.int z)) (b1 (by rw [e9]; rfl)), _, hR, pO_tr (pO_r (by omega)) (pO_s (by omega)), fun G' z => by rw [e9] at z; cases z; rfl⟩

set_option maxRecDepth 100000 in
set_option maxHeartbeats 4000000 in
theorem k_X6_takesReply {l : Launch} {D : va_G} {aC : Nat → ClassId} {ad : xAd} {h0 h : mH} {F : xFm} {W : xWm} {pm : Nat → Nat} (hR : xR yV ad h0 F W pm h) {cd : Nat} (hcd : cd < 1000) {ro : Nat} (hro : F 30 0 0 29 = nI ro) (hro4 : ro < 4) : mCon l D aC mX6_takesReply [.ref (ad 30 0 0), .int (nI cd)] h (mRi (bI ((mtr F ro cd).isSome = true)) (fun h' => ∃ G : xFm, xR yV ad h0 G W pm h' ∧ pO F G ∧ ∀ G', mtr F ro cd = some G' → G = G')) := by
  refine mCon.of [some (.ref (ad 30 0 0)), some (.int (nI cd)), none] (by decide +kernel) rfl (Nat.le_of_ble_eq_true rfl) ?_
  intro K el eD eC hK hZ
  subst el eD eC
  refine mJ_aload_n hK dX6_takesReply_0 rfl ?_
  refine mJ_bipush (v := nI 7) hK dX6_takesReply_1 (by decide) ?_
  refine xJ_puti hR hK dX6_takesReply_3 fX6_140 sX6_24 rfl rfl (by unfold yV; omega) (fun _ _ => rfl) (by decide) rfl (fun h hR => ?_)
  refine mJ_iload_n hK dX6_takesReply_6 rfl ?_
  refine mJ_bipush (v := nI 97) hK dX6_takesReply_7 (by decide) ?_
  refine mJ_bipush (v := nI 100) hK dX6_takesReply_9 (by decide) ?_
  refine mJ_cSi hK dX6_takesReply_11 lX6_120 (by unfold mFit; decide) (by decide) (k_X6_withinN (by omega) (by omega) (by omega)) rfl rfl (Nat.le_of_ble_eq_true rfl) (fun h e9 => ?_)
  subst e9
  refine mJ_ifb_eq (tgt := 43) hK dX6_takesReply_14 (by decide) (fun c_14 => ?_) (fun c_14 => ?_)
  · refine mJ_iconst (v := nI 0) hK dX6_takesReply_43 (by decide) ?_
    refine mJ_istore_n hK dX6_takesReply_44 (by decide) rfl ?_
    refine mJ_iload_n hK dX6_takesReply_45 rfl ?_
    refine mJ_nif_eq (tgt := 80) hK dX6_takesReply_46 (by decide) (by omega) (fun c_46 => ?_) (fun c_46 => ?_)
    · refine mJ_iload_n hK dX6_takesReply_80 rfl ?_
      refine mJ_zret hK dX6_takesReply_81 rfl (by decide) hZ (by decide) (by decide) ?_
      have e9 : mtr F ro cd = none := if_neg (fun z => c_14 z.1)
      exact ⟨congrArg (fun z => some (Value.int z)) (b0 (by rw [e9]; exact fun z => by cases z)), _, hR, pO_s (by omega), fun G' z => by rw [e9] at z; cases z⟩
    · exact absurd c_46 (by omega)
  · refine mJ_aload_n hK dX6_takesReply_17 rfl ?_
    refine mJ_iload_n hK dX6_takesReply_18 rfl ?_
    refine mJ_cVi hK dX6_takesReply_19 lX6_130 (by unfold mFit; decide) (by decide) (k_X6_isOfPattern hR hcd) rfl rfl (Nat.le_of_ble_eq_true rfl) (hR.1 _ _ _ (by unfold yV; omega)) ⟨_, _, rfl⟩ (fun h e9 => ?_)
    subst e9
    refine mJ_ifb_eq (tgt := 43) hK dX6_takesReply_22 (by decide) (fun c_22 => ?_) (fun c_22 => ?_)
    · refine mJ_iconst (v := nI 0) hK dX6_takesReply_43 (by decide) ?_
      refine mJ_istore_n hK dX6_takesReply_44 (by decide) rfl ?_
      refine mJ_iload_n hK dX6_takesReply_45 rfl ?_
      refine mJ_nif_eq (tgt := 80) hK dX6_takesReply_46 (by decide) (by omega) (fun c_46 => ?_) (fun c_46 => ?_)
      · refine mJ_iload_n hK dX6_takesReply_80 rfl ?_
        refine mJ_zret hK dX6_takesReply_81 rfl (by decide) hZ (by decide) (by decide) ?_
        have e9 : mtr F ro cd = none := if_neg (fun z => c_22 z.2.1)
        exact ⟨congrArg (fun z => some (Value.int z)) (b0 (by rw [e9]; exact fun z => by cases z)), _, hR, pO_s (by omega), fun G' z => by rw [e9] at z; cases z⟩
      · exact absurd c_46 (by omega)
    · refine mJ_aload_n hK dX6_takesReply_25 rfl ?_
      refine xJ_geti hR hK dX6_takesReply_26 fX6_146 (by unfold yV; omega) (fun _ _ => rfl) (by decide) rfl ?_
      refine mJ_iload_n hK dX6_takesReply_29 rfl ?_
      refine mJ_bipush (v := nI 97) hK dX6_takesReply_30 (by decide) ?_
      refine mJ_isubN hK dX6_takesReply_32 (by omega) ?_
      refine mJ_ishr hK dX6_takesReply_33 ?_
      refine mJ_iconst (v := nI 1) hK dX6_takesReply_34 (by decide) ?_
      refine mJ_iand hK dX6_takesReply_35 ?_
      refine mJ_if_ne (tgt := 43) hK dX6_takesReply_36 (by decide) (fun c_36 => ?_) (fun c_36 => ?_)
      · refine mJ_iconst (v := nI 0) hK dX6_takesReply_43 (by decide) ?_
        refine mJ_istore_n hK dX6_takesReply_44 (by decide) rfl ?_
        refine mJ_iload_n hK dX6_takesReply_45 rfl ?_
        refine mJ_nif_eq (tgt := 80) hK dX6_takesReply_46 (by decide) (by omega) (fun c_46 => ?_) (fun c_46 => ?_)
        · refine mJ_iload_n hK dX6_takesReply_80 rfl ?_
          refine mJ_zret hK dX6_takesReply_81 rfl (by decide) hZ (by decide) (by decide) ?_
          have e9 : mtr F ro cd = none := if_neg (fun z => z.2.2 c_36)
          exact ⟨congrArg (fun z => some (Value.int z)) (b0 (by rw [e9]; exact fun z => by cases z)), _, hR, pO_s (by omega), fun G' z => by rw [e9] at z; cases z⟩
        · exact absurd c_46 (by omega)
      · refine mJ_iconst (v := nI 1) hK dX6_takesReply_39 (by decide) ?_
        refine mJ_goto (tgt := 44) hK dX6_takesReply_40 (by decide) ?_
        refine mJ_istore_n hK dX6_takesReply_44 (by decide) rfl ?_
        refine mJ_iload_n hK dX6_takesReply_45 rfl ?_
        refine mJ_nif_eq (tgt := 80) hK dX6_takesReply_46 (by decide) (by omega) (fun c_46 => ?_) (fun c_46 => ?_)
        · exact absurd c_46 (by omega)
        · refine mJ_aload_n hK dX6_takesReply_49 rfl ?_
          refine xJ_getr hR hK dX6_takesReply_50 fX6_69 (by unfold yV; omega) (fun _ _ => rfl) (by decide) (fun _ _ => rfl) ?_
          refine mJ_aload_n hK dX6_takesReply_53 rfl ?_
          refine xJ_getx (nI ro) hR hK dX6_takesReply_54 fX6_143 (by unfold yV; omega) (fun _ _ => rfl) (by decide) rfl (by first | exact hro | (simp [fr, upd]; exact hro) | (simp [fr, upd, tS]; exact hro)) ?_
          refine mJ_bipush (v := nI 8) hK dX6_takesReply_57 (by decide) ?_
          refine mJ_iload_n hK dX6_takesReply_59 rfl ?_
          refine mJ_iaddN hK dX6_takesReply_60 ?_
          refine mJ_bipush (v := nI 97) hK dX6_takesReply_61 (by decide) ?_
          refine mJ_isubN hK dX6_takesReply_63 (by omega) ?_
          refine xJ_iast ro hR hK dX6_takesReply_64 (by unfold yV; omega) (fun _ _ => rfl) rfl (by omega) (by decide) (fun h hR => ?_)
          refine mJ_aload_n hK dX6_takesReply_65 rfl ?_
          refine mJ_dup hK dX6_takesReply_66 rfl ?_
          refine xJ_geti hR hK dX6_takesReply_67 fX6_146 (by unfold yV; omega) (fun _ _ => rfl) (by decide) rfl ?_
          refine mJ_iconst (v := nI 1) hK dX6_takesReply_70 (by decide) ?_
          refine mJ_iload_n hK dX6_takesReply_71 rfl ?_
          refine mJ_bipush (v := nI 97) hK dX6_takesReply_72 (by decide) ?_
          refine mJ_isubN hK dX6_takesReply_74 (by omega) ?_
          refine mJ_ishl hK dX6_takesReply_75 ?_
          refine mJ_ior hK dX6_takesReply_76 ?_
          refine xJ_puti hR hK dX6_takesReply_77 fX6_146 sX6_30 rfl rfl (by unfold yV; omega) (fun _ _ => rfl) (by decide) rfl (fun h hR => ?_)
          refine mJ_iload_n hK dX6_takesReply_80 rfl ?_
          refine mJ_zret hK dX6_takesReply_81 rfl (by decide) hZ (by decide) (by decide) ?_
          have e9 : mtr F ro cd = some _ := if_pos ⟨c_14, c_22, fun z => z c_36⟩
          exact ⟨congrArg (fun z => some (Value.int z)) (b1 (by rw [e9]; rfl)), _, hR, pO_tr (pO_tr (pO_s (by omega)) (pO_r (by omega))) (pO_s (by omega)), fun G' z => by rw [e9] at z; cases z; rfl⟩

set_option maxRecDepth 100000 in
set_option maxHeartbeats 4000000 in
theorem k_X6_takesOperand {l : Launch} {D : va_G} {aC : Nat → ClassId} {ad : xAd} {h0 h : mH} {F : xFm} {W : xWm} {pm : Nat → Nat} (hR : xR yV ad h0 F W pm h) {cd : Nat} (hcd : cd < 1000) {ro : Nat} (hro : F 30 0 0 29 = nI ro) (hro4 : ro < 4) {k : Nat} (hk : F 63 0 0 ro = nI k) (hk3 : k < 3) : mCon l D aC mX6_takesOperand [.ref (ad 30 0 0), .int (nI cd)] h (mRi (bI ((mtp F ro k cd).isSome = true)) (fun h' => ∃ G : xFm, xR yV ad h0 G W pm h' ∧ pO F G ∧ ∀ G', mtp F ro k cd = some G' → G = G')) := by
  refine mCon.of [some (.ref (ad 30 0 0)), some (.int (nI cd))] (by decide +kernel) rfl (Nat.le_of_ble_eq_true rfl) ?_
  intro K el eD eC hK hZ
  subst el eD eC
  refine mJ_aload_n hK dX6_takesOperand_0 rfl ?_
  refine mJ_bipush (v := nI 9) hK dX6_takesOperand_1 (by decide) ?_
  refine xJ_puti hR hK dX6_takesOperand_3 fX6_140 sX6_24 rfl rfl (by unfold yV; omega) (fun _ _ => rfl) (by decide) rfl (fun h hR => ?_)
  refine mJ_aload_n hK dX6_takesOperand_6 rfl ?_
  refine mJ_iload_n hK dX6_takesOperand_7 rfl ?_
  refine mJ_cVi hK dX6_takesOperand_8 lX6_149 (by unfold mFit; decide) (by decide) (k_X6_isOperand hR hcd) rfl rfl (Nat.le_of_ble_eq_true rfl) (hR.1 _ _ _ (by unfold yV; omega)) ⟨_, _, rfl⟩ (fun h e9 => ?_)
  subst e9
  refine mJ_ifb_ne (tgt := 16) hK dX6_takesOperand_11 (by decide) (fun c_11 => ?_) (fun c_11 => ?_)
  · refine mJ_aload_n hK dX6_takesOperand_16 rfl ?_
    refine xJ_getr hR hK dX6_takesOperand_17 fX6_75 (by unfold yV; omega) (fun _ _ => rfl) (by decide) (fun _ _ => rfl) ?_
    refine mJ_iconst (v := nI 3) hK dX6_takesOperand_20 (by decide) ?_
    refine mJ_aload_n hK dX6_takesOperand_21 rfl ?_
    refine xJ_getx (nI ro) hR hK dX6_takesOperand_22 fX6_143 (by unfold yV; omega) (fun _ _ => rfl) (by decide) rfl (by first | exact hro | (simp [fr, upd]; exact hro) | (simp [fr, upd, tS]; exact hro)) ?_
    refine mJ_imulN hK dX6_takesOperand_25 ?_
    refine mJ_aload_n hK dX6_takesOperand_26 rfl ?_
    refine xJ_getr hR hK dX6_takesOperand_27 fX6_72 (by unfold yV; omega) (fun _ _ => rfl) (by decide) (fun _ _ => rfl) ?_
    refine mJ_aload_n hK dX6_takesOperand_30 rfl ?_
    refine xJ_getx (nI ro) hR hK dX6_takesOperand_31 fX6_143 (by unfold yV; omega) (fun _ _ => rfl) (by decide) rfl (by first | exact hro | (simp [fr, upd]; exact hro) | (simp [fr, upd, tS]; exact hro)) ?_
    refine xJ_ialdx ro (nI k) hR hK dX6_takesOperand_34 (by unfold yV; omega) (fun _ _ => rfl) rfl (by omega) (by decide) (by first | exact hk | (simp [fr, upd]; exact hk) | (simp [fr, upd, tS]; exact hk)) ?_
    refine mJ_iaddN hK dX6_takesOperand_35 ?_
    refine mJ_iload_n hK dX6_takesOperand_36 rfl ?_
    refine mJ_cSi hK dX6_takesOperand_37 lX6_152 (by unfold mFit; decide) (by decide) (k_X6_operandOf hcd (isO_40 c_11)) rfl rfl (Nat.le_of_ble_eq_true rfl) (fun h e9 => ?_)
    subst e9
    refine xJ_iast ((3 * ro) + k) hR hK dX6_takesOperand_40 (by unfold yV; omega) (fun _ _ => rfl) rfl (by omega) (by decide) (fun h hR => ?_)
    refine mJ_aload_n hK dX6_takesOperand_41 rfl ?_
    refine xJ_getr hR hK dX6_takesOperand_42 fX6_72 (by unfold yV; omega) (fun _ _ => rfl) (by decide) (fun _ _ => rfl) ?_
    refine mJ_aload_n hK dX6_takesOperand_45 rfl ?_
    refine xJ_getx (nI ro) hR hK dX6_takesOperand_46 fX6_143 (by unfold yV; omega) (fun _ _ => rfl) (by decide) rfl (by first | exact hro | (simp [fr, upd]; exact hro) | (simp [fr, upd, tS]; exact hro)) ?_
    refine mJ_dup2 hK dX6_takesOperand_49 rfl rfl ?_
    refine xJ_ialdx ro (nI k) hR hK dX6_takesOperand_50 (by unfold yV; omega) (fun _ _ => rfl) rfl (by omega) (by decide) (by first | exact hk | (simp [fr, upd]; exact hk) | (simp [fr, upd, tS]; exact hk)) ?_
    refine mJ_iconst (v := nI 1) hK dX6_takesOperand_51 (by decide) ?_
    refine mJ_iaddN hK dX6_takesOperand_52 ?_
    refine xJ_iast ro hR hK dX6_takesOperand_53 (by unfold yV; omega) (fun _ _ => rfl) rfl (by omega) (by decide) (fun h hR => ?_)
    refine mJ_iconst (v := nI 1) hK dX6_takesOperand_54 (by decide) ?_
    refine mJ_zret hK dX6_takesOperand_55 rfl (by decide) hZ (by decide) (by decide) ?_
    have e9 : mtp F ro k cd = some _ := if_pos c_11
    exact ⟨congrArg (fun z => some (Value.int z)) (b1 (by rw [e9]; rfl)), _, hR, pO_tr (pO_tr (pO_s (by omega)) (pO_r (by omega))) (pO_r (by omega)), fun G' z => by rw [e9] at z; cases z; rfl⟩
  · refine mJ_iconst (v := nI 0) hK dX6_takesOperand_14 (by decide) ?_
    refine mJ_zret hK dX6_takesOperand_15 rfl (by decide) hZ (by decide) (by decide) ?_
    have e9 : mtp F ro k cd = none := if_neg c_11
    exact ⟨congrArg (fun z => some (Value.int z)) (b0 (by rw [e9]; exact fun z => by cases z)), _, hR, pO_s (by omega), fun G' z => by rw [e9] at z; cases z⟩

set_option maxRecDepth 100000 in
set_option maxHeartbeats 4000000 in
theorem k_X6_takesBehind {l : Launch} {D : va_G} {aC : Nat → ClassId} {ad : xAd} {h0 h : mH} {F : xFm} {W : xWm} {pm : Nat → Nat} (hR : xR yV ad h0 F W pm h) {cd : Nat} (hcd : cd < 1000) {ro : Nat} (hro : F 30 0 0 29 = nI ro) (hro4 : ro < 4) {k : Nat} (hk : F 63 0 0 ro = nI k) (hk3 : k ≤ 3) : mCon l D aC mX6_takesBehind [.ref (ad 30 0 0), .int (nI cd)] h (mRi (bI ((mtb F ro k cd).isSome = true)) (fun h' => ∃ G : xFm, xR yV ad h0 G W pm h' ∧ pO F G ∧ ∀ G', mtb F ro k cd = some G' → G = G')) := by
  refine mCon.of [some (.ref (ad 30 0 0)), some (.int (nI cd))] (by decide +kernel) rfl (Nat.le_of_ble_eq_true rfl) ?_
  intro K el eD eC hK hZ
  subst el eD eC
  refine mJ_iload_n hK dX6_takesBehind_0 rfl ?_
  refine mJ_bipush (v := nI 44) hK dX6_takesBehind_1 (by decide) ?_
  refine mJ_nne (tgt := 40) hK dX6_takesBehind_3 (by decide) (by omega) (by omega) (fun c_3 => ?_) (fun c_3 => ?_)
  · refine mJ_aload_n hK dX6_takesBehind_40 rfl ?_
    refine xJ_getr hR hK dX6_takesBehind_41 fX6_72 (by unfold yV; omega) (fun _ _ => rfl) (by decide) (fun _ _ => rfl) ?_
    refine mJ_aload_n hK dX6_takesBehind_44 rfl ?_
    refine xJ_getx (nI ro) hR hK dX6_takesBehind_45 fX6_143 (by unfold yV; omega) (fun _ _ => rfl) (by decide) rfl (by first | exact hro | (simp [fr, upd]; exact hro) | (simp [fr, upd, tS]; exact hro)) ?_
    refine xJ_ialdx ro (nI k) hR hK dX6_takesBehind_48 (by unfold yV; omega) (fun _ _ => rfl) rfl (by omega) (by decide) (by first | exact hk | (simp [fr, upd]; exact hk) | (simp [fr, upd, tS]; exact hk)) ?_
    refine mJ_iconst (v := nI 3) hK dX6_takesBehind_49 (by decide) ?_
    refine mJ_nne (tgt := 55) hK dX6_takesBehind_50 (by decide) (by omega) (by omega) (fun c_50 => ?_) (fun c_50 => ?_)
    · refine mJ_aload_n hK dX6_takesBehind_55 rfl ?_
      refine xJ_getr hR hK dX6_takesBehind_56 fX6_78 (by unfold yV; omega) (fun _ _ => rfl) (by decide) (fun _ _ => rfl) ?_
      refine mJ_iconst (v := nI 3) hK dX6_takesBehind_59 (by decide) ?_
      refine mJ_aload_n hK dX6_takesBehind_60 rfl ?_
      refine xJ_getx (nI ro) hR hK dX6_takesBehind_61 fX6_143 (by unfold yV; omega) (fun _ _ => rfl) (by decide) rfl (by first | exact hro | (simp [fr, upd]; exact hro) | (simp [fr, upd, tS]; exact hro)) ?_
      refine mJ_imulN hK dX6_takesBehind_64 ?_
      refine mJ_aload_n hK dX6_takesBehind_65 rfl ?_
      refine xJ_getr hR hK dX6_takesBehind_66 fX6_72 (by unfold yV; omega) (fun _ _ => rfl) (by decide) (fun _ _ => rfl) ?_
      refine mJ_aload_n hK dX6_takesBehind_69 rfl ?_
      refine xJ_getx (nI ro) hR hK dX6_takesBehind_70 fX6_143 (by unfold yV; omega) (fun _ _ => rfl) (by decide) rfl (by first | exact hro | (simp [fr, upd]; exact hro) | (simp [fr, upd, tS]; exact hro)) ?_
      refine xJ_ialdx ro (nI k) hR hK dX6_takesBehind_73 (by unfold yV; omega) (fun _ _ => rfl) rfl (by omega) (by decide) (by first | exact hk | (simp [fr, upd]; exact hk) | (simp [fr, upd, tS]; exact hk)) ?_
      refine mJ_iaddN hK dX6_takesBehind_74 ?_
      refine mJ_iload_n hK dX6_takesBehind_75 rfl ?_
      refine xJ_iast ((3 * ro) + k) hR hK dX6_takesBehind_76 (by unfold yV; omega) (fun _ _ => rfl) rfl (by omega) (by decide) (fun h hR => ?_)
      refine mJ_aload_n hK dX6_takesBehind_77 rfl ?_
      refine mJ_bipush (v := nI 8) hK dX6_takesBehind_78 (by decide) ?_
      refine xJ_puti hR hK dX6_takesBehind_80 fX6_140 sX6_24 rfl rfl (by unfold yV; omega) (fun _ _ => rfl) (by decide) rfl (fun h hR => ?_)
      refine mJ_iload_n hK dX6_takesBehind_83 rfl ?_
      refine mJ_bipush (v := nI 43) hK dX6_takesBehind_84 (by decide) ?_
      refine mJ_neq (tgt := 101) hK dX6_takesBehind_86 (by decide) (by omega) (by omega) (fun c_86 => ?_) (fun c_86 => ?_)
      · refine mJ_iconst (v := nI 1) hK dX6_takesBehind_101 (by decide) ?_
        refine mJ_goto (tgt := 106) hK dX6_takesBehind_102 (by decide) ?_
        refine mJ_zret hK dX6_takesBehind_106 rfl (by decide) hZ (by decide) (by decide) ?_
        first | (exfalso; omega) | ((have e9 : mtb F ro k cd = some _ := (if_neg (by omega)).trans ((if_neg (by omega)).trans (if_pos (by omega)))) ; exact ⟨congrArg (fun z => some (Value.int z)) (b1 (by rw [e9]; rfl)), _, hR, pO_tr (pO_r (by omega)) (pO_s (by omega)), fun G' z => by rw [e9] at z; cases z; rfl⟩) | ((have e9 : mtb F ro k cd = none := (if_neg (by omega)).trans ((if_neg (by omega)).trans (if_neg (by omega)))) ; exact ⟨congrArg (fun z => some (Value.int z)) (b0 (by rw [e9]; exact fun z => by cases z)), _, hR, pO_tr (pO_r (by omega)) (pO_s (by omega)), fun G' z => by rw [e9] at z; cases z⟩)
      · refine mJ_iload_n hK dX6_takesBehind_89 rfl ?_
        refine mJ_bipush (v := nI 45) hK dX6_takesBehind_90 (by decide) ?_
        refine mJ_neq (tgt := 101) hK dX6_takesBehind_92 (by decide) (by omega) (by omega) (fun c_92 => ?_) (fun c_92 => ?_)
        · refine mJ_iconst (v := nI 1) hK dX6_takesBehind_101 (by decide) ?_
          refine mJ_goto (tgt := 106) hK dX6_takesBehind_102 (by decide) ?_
          refine mJ_zret hK dX6_takesBehind_106 rfl (by decide) hZ (by decide) (by decide) ?_
          first | (exfalso; omega) | ((have e9 : mtb F ro k cd = some _ := (if_neg (by omega)).trans ((if_neg (by omega)).trans (if_pos (by omega)))) ; exact ⟨congrArg (fun z => some (Value.int z)) (b1 (by rw [e9]; rfl)), _, hR, pO_tr (pO_r (by omega)) (pO_s (by omega)), fun G' z => by rw [e9] at z; cases z; rfl⟩) | ((have e9 : mtb F ro k cd = none := (if_neg (by omega)).trans ((if_neg (by omega)).trans (if_neg (by omega)))) ; exact ⟨congrArg (fun z => some (Value.int z)) (b0 (by rw [e9]; exact fun z => by cases z)), _, hR, pO_tr (pO_r (by omega)) (pO_s (by omega)), fun G' z => by rw [e9] at z; cases z⟩)
        · refine mJ_iload_n hK dX6_takesBehind_95 rfl ?_
          refine mJ_bipush (v := nI 42) hK dX6_takesBehind_96 (by decide) ?_
          refine mJ_nne (tgt := 105) hK dX6_takesBehind_98 (by decide) (by omega) (by omega) (fun c_98 => ?_) (fun c_98 => ?_)
          · refine mJ_iconst (v := nI 0) hK dX6_takesBehind_105 (by decide) ?_
            refine mJ_zret hK dX6_takesBehind_106 rfl (by decide) hZ (by decide) (by decide) ?_
            first | (exfalso; omega) | ((have e9 : mtb F ro k cd = some _ := (if_neg (by omega)).trans ((if_neg (by omega)).trans (if_pos (by omega)))) ; exact ⟨congrArg (fun z => some (Value.int z)) (b1 (by rw [e9]; rfl)), _, hR, pO_tr (pO_r (by omega)) (pO_s (by omega)), fun G' z => by rw [e9] at z; cases z; rfl⟩) | ((have e9 : mtb F ro k cd = none := (if_neg (by omega)).trans ((if_neg (by omega)).trans (if_neg (by omega)))) ; exact ⟨congrArg (fun z => some (Value.int z)) (b0 (by rw [e9]; exact fun z => by cases z)), _, hR, pO_tr (pO_r (by omega)) (pO_s (by omega)), fun G' z => by rw [e9] at z; cases z⟩)
          · refine mJ_iconst (v := nI 1) hK dX6_takesBehind_101 (by decide) ?_
            refine mJ_goto (tgt := 106) hK dX6_takesBehind_102 (by decide) ?_
            refine mJ_zret hK dX6_takesBehind_106 rfl (by decide) hZ (by decide) (by decide) ?_
            first | (exfalso; omega) | ((have e9 : mtb F ro k cd = some _ := (if_neg (by omega)).trans ((if_neg (by omega)).trans (if_pos (by omega)))) ; exact ⟨congrArg (fun z => some (Value.int z)) (b1 (by rw [e9]; rfl)), _, hR, pO_tr (pO_r (by omega)) (pO_s (by omega)), fun G' z => by rw [e9] at z; cases z; rfl⟩) | ((have e9 : mtb F ro k cd = none := (if_neg (by omega)).trans ((if_neg (by omega)).trans (if_neg (by omega)))) ; exact ⟨congrArg (fun z => some (Value.int z)) (b0 (by rw [e9]; exact fun z => by cases z)), _, hR, pO_tr (pO_r (by omega)) (pO_s (by omega)), fun G' z => by rw [e9] at z; cases z⟩)
    · refine mJ_iconst (v := nI 0) hK dX6_takesBehind_53 (by decide) ?_
      refine mJ_zret hK dX6_takesBehind_54 rfl (by decide) hZ (by decide) (by decide) ?_
      have e9 : mtb F ro k cd = none := by rw [mtb, if_neg (by omega), if_pos (by omega)]
      exact ⟨congrArg (fun z => some (Value.int z)) (b0 (by rw [e9]; exact fun z => by cases z)), _, hR, pO_refl, fun G' z => by rw [e9] at z; cases z⟩
  · refine mJ_aload_n hK dX6_takesBehind_6 rfl ?_
    refine mJ_dup hK dX6_takesBehind_7 rfl ?_
    refine xJ_getx (nI ro) hR hK dX6_takesBehind_8 fX6_143 (by unfold yV; omega) (fun _ _ => rfl) (by decide) rfl (by first | exact hro | (simp [fr, upd]; exact hro) | (simp [fr, upd, tS]; exact hro)) ?_
    refine mJ_iconst (v := nI 1) hK dX6_takesBehind_11 (by decide) ?_
    refine mJ_iaddN hK dX6_takesBehind_12 ?_
    refine xJ_puti hR hK dX6_takesBehind_13 fX6_143 sX6_29 rfl rfl (by unfold yV; omega) (fun _ _ => rfl) (by decide) rfl (fun h hR => ?_)
    refine mJ_aload_n hK dX6_takesBehind_16 rfl ?_
    refine mJ_iconst (v := nI 5) hK dX6_takesBehind_17 (by decide) ?_
    refine xJ_puti hR hK dX6_takesBehind_18 fX6_140 sX6_24 rfl rfl (by unfold yV; omega) (fun _ _ => rfl) (by decide) rfl (fun h hR => ?_)
    refine mJ_aload_n hK dX6_takesBehind_21 rfl ?_
    refine mJ_iconst (v := nI 1) hK dX6_takesBehind_22 (by decide) ?_
    refine xJ_puti hR hK dX6_takesBehind_23 fX6_156 sX6_31 (by decide) (by decide) (by unfold yV; omega) (fun _ _ => rfl) (by decide) rfl (fun h hR => ?_)
    refine mJ_aload_n hK dX6_takesBehind_26 rfl ?_
    refine xJ_getx (nI (ro + 1)) hR hK dX6_takesBehind_27 fX6_143 (by unfold yV; omega) (fun _ _ => rfl) (by decide) rfl (by simp [fr, upd]) ?_
    refine mJ_iconst (v := nI 4) hK dX6_takesBehind_30 (by decide) ?_
    refine mJ_nge (tgt := 38) hK dX6_takesBehind_31 (by decide) (by omega) (by omega) (fun c_31 => ?_) (fun c_31 => ?_)
    · refine mJ_iconst (v := nI 0) hK dX6_takesBehind_38 (by decide) ?_
      refine mJ_zret hK dX6_takesBehind_39 rfl (by decide) hZ (by decide) (by decide) ?_
      first | (exfalso; omega) | ((have e9 : mtb F ro k cd = some _ := (if_pos (by omega)).trans (if_pos (by omega))) ; exact ⟨congrArg (fun z => some (Value.int z)) (b1 (by rw [e9]; rfl)), _, hR, pO_tr (pO_tr (pO_s (by omega)) (pO_s (by omega))) (pO_s (by omega)), fun G' z => by rw [e9] at z; cases z; rfl⟩) | ((have e9 : mtb F ro k cd = none := (if_pos (by omega)).trans (if_neg (by omega))) ; exact ⟨congrArg (fun z => some (Value.int z)) (b0 (by rw [e9]; exact fun z => by cases z)), _, hR, pO_tr (pO_tr (pO_s (by omega)) (pO_s (by omega))) (pO_s (by omega)), fun G' z => by rw [e9] at z; cases z⟩)
    · refine mJ_iconst (v := nI 1) hK dX6_takesBehind_34 (by decide) ?_
      refine mJ_goto (tgt := 39) hK dX6_takesBehind_35 (by decide) ?_
      refine mJ_zret hK dX6_takesBehind_39 rfl (by decide) hZ (by decide) (by decide) ?_
      first | (exfalso; omega) | ((have e9 : mtb F ro k cd = some _ := (if_pos (by omega)).trans (if_pos (by omega))) ; exact ⟨congrArg (fun z => some (Value.int z)) (b1 (by rw [e9]; rfl)), _, hR, pO_tr (pO_tr (pO_s (by omega)) (pO_s (by omega))) (pO_s (by omega)), fun G' z => by rw [e9] at z; cases z; rfl⟩) | ((have e9 : mtb F ro k cd = none := (if_pos (by omega)).trans (if_neg (by omega))) ; exact ⟨congrArg (fun z => some (Value.int z)) (b0 (by rw [e9]; exact fun z => by cases z)), _, hR, pO_tr (pO_tr (pO_s (by omega)) (pO_s (by omega))) (pO_s (by omega)), fun G' z => by rw [e9] at z; cases z⟩)

set_option maxRecDepth 100000 in
set_option maxHeartbeats 4000000 in
theorem k_X6_takes_0 {l : Launch} {D : va_G} {aC : Nat → ClassId} {ad : xAd} {h0 h : mH} {F : xFm} {W : xWm} {pm : Nat → Nat} (hR : xR yV ad h0 F W pm h) {cd : Nat} (hcd : cd < 1000) (hs : F 30 0 0 24 = nI 0) {n : Nat} (hn : F 30 0 0 26 = nI n) (hn4 : n ≤ 4) : mCon l D aC mX6_takes [.ref (ad 30 0 0), .int (nI cd)] h (mRi (bI ((mtP F n cd).isSome = true)) (fun h' => ∃ G : xFm, xR yV ad h0 G W pm h' ∧ pO F G ∧ ∀ G', mtP F n cd = some G' → G = G')) := by
  refine mCon.of [some (.ref (ad 30 0 0)), some (.int (nI cd))] (by decide +kernel) rfl (Nat.le_of_ble_eq_true rfl) ?_
  intro K el eD eC hK hZ
  subst el eD eC
  refine mJ_aload_n hK dX6_takes_0 rfl ?_
  refine xJ_getx (nI 0) hR hK dX6_takes_1 fX6_140 (by unfold yV; omega) (fun _ _ => rfl) (by decide) rfl (by first | exact hs | (simp [fr, upd]; exact hs) | (simp [fr, upd, tS]; exact hs)) ?_
  refine mJ_tabIn (off := 52) (tgt := 56) hK dX6_takes_4 (by decide) (by decide) (by decide) (by decide) ?_
  refine mJ_aload_n hK dX6_takes_56 rfl ?_
  refine mJ_iload_n hK dX6_takes_57 rfl ?_
  refine mJ_cVi hK dX6_takes_58 lX6_160 (by unfold mFit; decide) (by decide) (k_X6_takesPattern hR hcd hn hn4) rfl rfl (Nat.le_of_ble_eq_true rfl) (hR.1 _ _ _ (by unfold yV; omega)) ⟨_, _, rfl⟩ (fun h hE => ?_)
  refine mJ_zret hK dX6_takes_61 rfl bI_nar hZ (by decide) (by decide) ?_
  obtain ⟨G9, hR9, hp9, hs9⟩ := hE
  exact ⟨rfl, G9, hR9, hp9, hs9⟩

set_option maxRecDepth 100000 in
set_option maxHeartbeats 4000000 in
theorem k_X6_takes_1 {l : Launch} {D : va_G} {aC : Nat → ClassId} {ad : xAd} {h0 h : mH} {F : xFm} {W : xWm} {pm : Nat → Nat} (hR : xR yV ad h0 F W pm h) {cd : Nat} (hcd : cd < 1000) (hs : F 30 0 0 24 = nI 1) : mCon l D aC mX6_takes [.ref (ad 30 0 0), .int (nI cd)] h (mRi (bI ((mtG F 0 cd).isSome = true)) (fun h' => ∃ G : xFm, xR yV ad h0 G W pm h' ∧ pO F G ∧ ∀ G', mtG F 0 cd = some G' → G = G')) := by
  refine mCon.of [some (.ref (ad 30 0 0)), some (.int (nI cd))] (by decide +kernel) rfl (Nat.le_of_ble_eq_true rfl) ?_
  intro K el eD eC hK hZ
  subst el eD eC
  refine mJ_aload_n hK dX6_takes_0 rfl ?_
  refine xJ_getx (nI 1) hR hK dX6_takes_1 fX6_140 (by unfold yV; omega) (fun _ _ => rfl) (by decide) rfl (by first | exact hs | (simp [fr, upd]; exact hs) | (simp [fr, upd, tS]; exact hs)) ?_
  refine mJ_tabIn (off := 58) (tgt := 62) hK dX6_takes_4 (by decide) (by decide) (by decide) (by decide) ?_
  refine mJ_aload_n hK dX6_takes_62 rfl ?_
  refine mJ_iload_n hK dX6_takes_63 rfl ?_
  refine mJ_cVi hK dX6_takes_64 lX6_163 (by unfold mFit; decide) (by decide) (k_X6_takesGuard_1 hR hcd hs) rfl rfl (Nat.le_of_ble_eq_true rfl) (hR.1 _ _ _ (by unfold yV; omega)) ⟨_, _, rfl⟩ (fun h hE => ?_)
  refine mJ_zret hK dX6_takes_67 rfl bI_nar hZ (by decide) (by decide) ?_
  obtain ⟨G9, hR9, hp9, hs9⟩ := hE
  exact ⟨rfl, G9, hR9, hp9, hs9⟩

set_option maxRecDepth 100000 in
set_option maxHeartbeats 4000000 in
theorem k_X6_takes_2 {l : Launch} {D : va_G} {aC : Nat → ClassId} {ad : xAd} {h0 h : mH} {F : xFm} {W : xWm} {pm : Nat → Nat} (hR : xR yV ad h0 F W pm h) {cd : Nat} (hcd : cd < 1000) (hs : F 30 0 0 24 = nI 2) : mCon l D aC mX6_takes [.ref (ad 30 0 0), .int (nI cd)] h (mRi (bI ((mtH F cd).isSome = true)) (fun h' => ∃ G : xFm, xR yV ad h0 G W pm h' ∧ pO F G ∧ ∀ G', mtH F cd = some G' → G = G')) := by
  refine mCon.of [some (.ref (ad 30 0 0)), some (.int (nI cd))] (by decide +kernel) rfl (Nat.le_of_ble_eq_true rfl) ?_
  intro K el eD eC hK hZ
  subst el eD eC
  refine mJ_aload_n hK dX6_takes_0 rfl ?_
  refine xJ_getx (nI 2) hR hK dX6_takes_1 fX6_140 (by unfold yV; omega) (fun _ _ => rfl) (by decide) rfl (by first | exact hs | (simp [fr, upd]; exact hs) | (simp [fr, upd, tS]; exact hs)) ?_
  refine mJ_tabIn (off := 58) (tgt := 62) hK dX6_takes_4 (by decide) (by decide) (by decide) (by decide) ?_
  refine mJ_aload_n hK dX6_takes_62 rfl ?_
  refine mJ_iload_n hK dX6_takes_63 rfl ?_
  refine mJ_cVi hK dX6_takes_64 lX6_163 (by unfold mFit; decide) (by decide) (k_X6_takesGuard_2 hR hcd hs) rfl rfl (Nat.le_of_ble_eq_true rfl) (hR.1 _ _ _ (by unfold yV; omega)) ⟨_, _, rfl⟩ (fun h hE => ?_)
  refine mJ_zret hK dX6_takes_67 rfl bI_nar hZ (by decide) (by decide) ?_
  obtain ⟨G9, hR9, hp9, hs9⟩ := hE
  exact ⟨rfl, G9, hR9, hp9, hs9⟩

set_option maxRecDepth 100000 in
set_option maxHeartbeats 4000000 in
theorem k_X6_takes_3 {l : Launch} {D : va_G} {aC : Nat → ClassId} {ad : xAd} {h0 h : mH} {F : xFm} {W : xWm} {pm : Nat → Nat} (hR : xR yV ad h0 F W pm h) {cd : Nat} (hcd : cd < 1000) (hs : F 30 0 0 24 = nI 3) : mCon l D aC mX6_takes [.ref (ad 30 0 0), .int (nI cd)] h (mRi (bI ((mtG F 2 cd).isSome = true)) (fun h' => ∃ G : xFm, xR yV ad h0 G W pm h' ∧ pO F G ∧ ∀ G', mtG F 2 cd = some G' → G = G')) := by
  refine mCon.of [some (.ref (ad 30 0 0)), some (.int (nI cd))] (by decide +kernel) rfl (Nat.le_of_ble_eq_true rfl) ?_
  intro K el eD eC hK hZ
  subst el eD eC
  refine mJ_aload_n hK dX6_takes_0 rfl ?_
  refine xJ_getx (nI 3) hR hK dX6_takes_1 fX6_140 (by unfold yV; omega) (fun _ _ => rfl) (by decide) rfl (by first | exact hs | (simp [fr, upd]; exact hs) | (simp [fr, upd, tS]; exact hs)) ?_
  refine mJ_tabIn (off := 58) (tgt := 62) hK dX6_takes_4 (by decide) (by decide) (by decide) (by decide) ?_
  refine mJ_aload_n hK dX6_takes_62 rfl ?_
  refine mJ_iload_n hK dX6_takes_63 rfl ?_
  refine mJ_cVi hK dX6_takes_64 lX6_163 (by unfold mFit; decide) (by decide) (k_X6_takesGuard_3 hR hcd hs) rfl rfl (Nat.le_of_ble_eq_true rfl) (hR.1 _ _ _ (by unfold yV; omega)) ⟨_, _, rfl⟩ (fun h hE => ?_)
  refine mJ_zret hK dX6_takes_67 rfl bI_nar hZ (by decide) (by decide) ?_
  obtain ⟨G9, hR9, hp9, hs9⟩ := hE
  exact ⟨rfl, G9, hR9, hp9, hs9⟩

set_option maxRecDepth 100000 in
set_option maxHeartbeats 4000000 in
theorem k_X6_takes_4 {l : Launch} {D : va_G} {aC : Nat → ClassId} {ad : xAd} {h0 h : mH} {F : xFm} {W : xWm} {pm : Nat → Nat} (hR : xR yV ad h0 F W pm h) {cd : Nat} (hcd : cd < 1000) (hs : F 30 0 0 24 = nI 4) : mCon l D aC mX6_takes [.ref (ad 30 0 0), .int (nI cd)] h (mRi (bI ((mt4 F cd).isSome = true)) (fun h' => ∃ G : xFm, xR yV ad h0 G W pm h' ∧ pO F G ∧ ∀ G', mt4 F cd = some G' → G = G')) := by
  refine mCon.of [some (.ref (ad 30 0 0)), some (.int (nI cd))] (by decide +kernel) rfl (Nat.le_of_ble_eq_true rfl) ?_
  intro K el eD eC hK hZ
  subst el eD eC
  refine mJ_aload_n hK dX6_takes_0 rfl ?_
  refine xJ_getx (nI 4) hR hK dX6_takes_1 fX6_140 (by unfold yV; omega) (fun _ _ => rfl) (by decide) rfl (by first | exact hs | (simp [fr, upd]; exact hs) | (simp [fr, upd, tS]; exact hs)) ?_
  refine mJ_tabIn (off := 64) (tgt := 68) hK dX6_takes_4 (by decide) (by decide) (by decide) (by decide) ?_
  refine mJ_aload_n hK dX6_takes_68 rfl ?_
  refine mJ_iconst (v := nI 5) hK dX6_takes_69 (by decide) ?_
  refine xJ_puti hR hK dX6_takes_70 fX6_140 sX6_24 rfl rfl (by unfold yV; omega) (fun _ _ => rfl) (by decide) rfl (fun h hR => ?_)
  refine mJ_iload_n hK dX6_takes_73 rfl ?_
  refine mJ_bipush (v := nI 58) hK dX6_takes_74 (by decide) ?_
  refine mJ_nne (tgt := 83) hK dX6_takes_76 (by decide) (by omega) (by omega) (fun c_76 => ?_) (fun c_76 => ?_)
  · refine mJ_iconst (v := nI 0) hK dX6_takes_83 (by decide) ?_
    refine mJ_zret hK dX6_takes_84 rfl (by decide) hZ (by decide) (by decide) ?_
    first | (exfalso; omega) | ((have e9 : mt4 F cd = some _ := if_pos (by omega)) ; exact ⟨congrArg (fun z => some (Value.int z)) (b1 (by rw [e9]; rfl)), _, hR, pO_s (by omega), fun G' z => by rw [e9] at z; cases z; rfl⟩) | ((have e9 : mt4 F cd = none := if_neg (by omega)) ; exact ⟨congrArg (fun z => some (Value.int z)) (b0 (by rw [e9]; exact fun z => by cases z)), _, hR, pO_s (by omega), fun G' z => by rw [e9] at z; cases z⟩)
  · refine mJ_iconst (v := nI 1) hK dX6_takes_79 (by decide) ?_
    refine mJ_goto (tgt := 84) hK dX6_takes_80 (by decide) ?_
    refine mJ_zret hK dX6_takes_84 rfl (by decide) hZ (by decide) (by decide) ?_
    first | (exfalso; omega) | ((have e9 : mt4 F cd = some _ := if_pos (by omega)) ; exact ⟨congrArg (fun z => some (Value.int z)) (b1 (by rw [e9]; rfl)), _, hR, pO_s (by omega), fun G' z => by rw [e9] at z; cases z; rfl⟩) | ((have e9 : mt4 F cd = none := if_neg (by omega)) ; exact ⟨congrArg (fun z => some (Value.int z)) (b0 (by rw [e9]; exact fun z => by cases z)), _, hR, pO_s (by omega), fun G' z => by rw [e9] at z; cases z⟩)

set_option maxRecDepth 100000 in
set_option maxHeartbeats 4000000 in
theorem k_X6_takes_5 {l : Launch} {D : va_G} {aC : Nat → ClassId} {ad : xAd} {h0 h : mH} {F : xFm} {W : xWm} {pm : Nat → Nat} (hR : xR yV ad h0 F W pm h) {cd : Nat} (hcd : cd < 1000) (hs : F 30 0 0 24 = nI 5) {ro : Nat} (hro : F 30 0 0 29 = nI ro) (hro4 : ro < 4) : mCon l D aC mX6_takes [.ref (ad 30 0 0), .int (nI cd)] h (mRi (bI ((mtO F ro cd).isSome = true)) (fun h' => ∃ G : xFm, xR yV ad h0 G W pm h' ∧ pO F G ∧ ∀ G', mtO F ro cd = some G' → G = G')) := by
  refine mCon.of [some (.ref (ad 30 0 0)), some (.int (nI cd))] (by decide +kernel) rfl (Nat.le_of_ble_eq_true rfl) ?_
  intro K el eD eC hK hZ
  subst el eD eC
  refine mJ_aload_n hK dX6_takes_0 rfl ?_
  refine xJ_getx (nI 5) hR hK dX6_takes_1 fX6_140 (by unfold yV; omega) (fun _ _ => rfl) (by decide) rfl (by first | exact hs | (simp [fr, upd]; exact hs) | (simp [fr, upd, tS]; exact hs)) ?_
  refine mJ_tabIn (off := 81) (tgt := 85) hK dX6_takes_4 (by decide) (by decide) (by decide) (by decide) ?_
  refine mJ_aload_n hK dX6_takes_85 rfl ?_
  refine mJ_iload_n hK dX6_takes_86 rfl ?_
  refine mJ_cVi hK dX6_takes_87 lX6_166 (by unfold mFit; decide) (by decide) (k_X6_takesOutput hR hcd hro hro4) rfl rfl (Nat.le_of_ble_eq_true rfl) (hR.1 _ _ _ (by unfold yV; omega)) ⟨_, _, rfl⟩ (fun h hE => ?_)
  refine mJ_zret hK dX6_takes_90 rfl bI_nar hZ (by decide) (by decide) ?_
  obtain ⟨G9, hR9, hp9, hs9⟩ := hE
  exact ⟨rfl, G9, hR9, hp9, hs9⟩

set_option maxRecDepth 100000 in
set_option maxHeartbeats 4000000 in
theorem k_X6_takes_6 {l : Launch} {D : va_G} {aC : Nat → ClassId} {ad : xAd} {h0 h : mH} {F : xFm} {W : xWm} {pm : Nat → Nat} (hR : xR yV ad h0 F W pm h) {cd : Nat} (hcd : cd < 1000) (hs : F 30 0 0 24 = nI 6) {ro : Nat} (hro : F 30 0 0 29 = nI ro) (hro4 : ro < 4) : mCon l D aC mX6_takes [.ref (ad 30 0 0), .int (nI cd)] h (mRi (bI ((mtr F ro cd).isSome = true)) (fun h' => ∃ G : xFm, xR yV ad h0 G W pm h' ∧ pO F G ∧ ∀ G', mtr F ro cd = some G' → G = G')) := by
  refine mCon.of [some (.ref (ad 30 0 0)), some (.int (nI cd))] (by decide +kernel) rfl (Nat.le_of_ble_eq_true rfl) ?_
  intro K el eD eC hK hZ
  subst el eD eC
  refine mJ_aload_n hK dX6_takes_0 rfl ?_
  refine xJ_getx (nI 6) hR hK dX6_takes_1 fX6_140 (by unfold yV; omega) (fun _ _ => rfl) (by decide) rfl (by first | exact hs | (simp [fr, upd]; exact hs) | (simp [fr, upd, tS]; exact hs)) ?_
  refine mJ_tabIn (off := 87) (tgt := 91) hK dX6_takes_4 (by decide) (by decide) (by decide) (by decide) ?_
  refine mJ_aload_n hK dX6_takes_91 rfl ?_
  refine mJ_iload_n hK dX6_takes_92 rfl ?_
  refine mJ_cVi hK dX6_takes_93 lX6_169 (by unfold mFit; decide) (by decide) (k_X6_takesReply hR hcd hro hro4) rfl rfl (Nat.le_of_ble_eq_true rfl) (hR.1 _ _ _ (by unfold yV; omega)) ⟨_, _, rfl⟩ (fun h hE => ?_)
  refine mJ_zret hK dX6_takes_96 rfl bI_nar hZ (by decide) (by decide) ?_
  obtain ⟨G9, hR9, hp9, hs9⟩ := hE
  exact ⟨rfl, G9, hR9, hp9, hs9⟩

set_option maxRecDepth 100000 in
set_option maxHeartbeats 4000000 in
theorem k_X6_takes_7 {l : Launch} {D : va_G} {aC : Nat → ClassId} {ad : xAd} {h0 h : mH} {F : xFm} {W : xWm} {pm : Nat → Nat} (hR : xR yV ad h0 F W pm h) {cd : Nat} (hcd : cd < 1000) (hs : F 30 0 0 24 = nI 7) : mCon l D aC mX6_takes [.ref (ad 30 0 0), .int (nI cd)] h (mRi (bI ((mt7 F cd).isSome = true)) (fun h' => ∃ G : xFm, xR yV ad h0 G W pm h' ∧ pO F G ∧ ∀ G', mt7 F cd = some G' → G = G')) := by
  refine mCon.of [some (.ref (ad 30 0 0)), some (.int (nI cd))] (by decide +kernel) rfl (Nat.le_of_ble_eq_true rfl) ?_
  intro K el eD eC hK hZ
  subst el eD eC
  refine mJ_aload_n hK dX6_takes_0 rfl ?_
  refine xJ_getx (nI 7) hR hK dX6_takes_1 fX6_140 (by unfold yV; omega) (fun _ _ => rfl) (by decide) rfl (by first | exact hs | (simp [fr, upd]; exact hs) | (simp [fr, upd, tS]; exact hs)) ?_
  refine mJ_tabIn (off := 93) (tgt := 97) hK dX6_takes_4 (by decide) (by decide) (by decide) (by decide) ?_
  refine mJ_aload_n hK dX6_takes_97 rfl ?_
  refine mJ_bipush (v := nI 8) hK dX6_takes_98 (by decide) ?_
  refine xJ_puti hR hK dX6_takes_100 fX6_140 sX6_24 rfl rfl (by unfold yV; omega) (fun _ _ => rfl) (by decide) rfl (fun h hR => ?_)
  refine mJ_iload_n hK dX6_takes_103 rfl ?_
  refine mJ_bipush (v := nI 61) hK dX6_takes_104 (by decide) ?_
  refine mJ_nne (tgt := 113) hK dX6_takes_106 (by decide) (by omega) (by omega) (fun c_106 => ?_) (fun c_106 => ?_)
  · refine mJ_iconst (v := nI 0) hK dX6_takes_113 (by decide) ?_
    refine mJ_zret hK dX6_takes_114 rfl (by decide) hZ (by decide) (by decide) ?_
    first | (exfalso; omega) | ((have e9 : mt7 F cd = some _ := if_pos (by omega)) ; exact ⟨congrArg (fun z => some (Value.int z)) (b1 (by rw [e9]; rfl)), _, hR, pO_s (by omega), fun G' z => by rw [e9] at z; cases z; rfl⟩) | ((have e9 : mt7 F cd = none := if_neg (by omega)) ; exact ⟨congrArg (fun z => some (Value.int z)) (b0 (by rw [e9]; exact fun z => by cases z)), _, hR, pO_s (by omega), fun G' z => by rw [e9] at z; cases z⟩)
  · refine mJ_iconst (v := nI 1) hK dX6_takes_109 (by decide) ?_
    refine mJ_goto (tgt := 114) hK dX6_takes_110 (by decide) ?_
    refine mJ_zret hK dX6_takes_114 rfl (by decide) hZ (by decide) (by decide) ?_
    first | (exfalso; omega) | ((have e9 : mt7 F cd = some _ := if_pos (by omega)) ; exact ⟨congrArg (fun z => some (Value.int z)) (b1 (by rw [e9]; rfl)), _, hR, pO_s (by omega), fun G' z => by rw [e9] at z; cases z; rfl⟩) | ((have e9 : mt7 F cd = none := if_neg (by omega)) ; exact ⟨congrArg (fun z => some (Value.int z)) (b0 (by rw [e9]; exact fun z => by cases z)), _, hR, pO_s (by omega), fun G' z => by rw [e9] at z; cases z⟩)

set_option maxRecDepth 100000 in
set_option maxHeartbeats 4000000 in
theorem k_X6_takes_8 {l : Launch} {D : va_G} {aC : Nat → ClassId} {ad : xAd} {h0 h : mH} {F : xFm} {W : xWm} {pm : Nat → Nat} (hR : xR yV ad h0 F W pm h) {cd : Nat} (hcd : cd < 1000) (hs : F 30 0 0 24 = nI 8) {ro : Nat} (hro : F 30 0 0 29 = nI ro) (hro4 : ro < 4) {k : Nat} (hk : F 63 0 0 ro = nI k) (hk3 : k < 3) : mCon l D aC mX6_takes [.ref (ad 30 0 0), .int (nI cd)] h (mRi (bI ((mtp F ro k cd).isSome = true)) (fun h' => ∃ G : xFm, xR yV ad h0 G W pm h' ∧ pO F G ∧ ∀ G', mtp F ro k cd = some G' → G = G')) := by
  refine mCon.of [some (.ref (ad 30 0 0)), some (.int (nI cd))] (by decide +kernel) rfl (Nat.le_of_ble_eq_true rfl) ?_
  intro K el eD eC hK hZ
  subst el eD eC
  refine mJ_aload_n hK dX6_takes_0 rfl ?_
  refine xJ_getx (nI 8) hR hK dX6_takes_1 fX6_140 (by unfold yV; omega) (fun _ _ => rfl) (by decide) rfl (by first | exact hs | (simp [fr, upd]; exact hs) | (simp [fr, upd, tS]; exact hs)) ?_
  refine mJ_tabIn (off := 111) (tgt := 115) hK dX6_takes_4 (by decide) (by decide) (by decide) (by decide) ?_
  refine mJ_aload_n hK dX6_takes_115 rfl ?_
  refine mJ_iload_n hK dX6_takes_116 rfl ?_
  refine mJ_cVi hK dX6_takes_117 lX6_172 (by unfold mFit; decide) (by decide) (k_X6_takesOperand hR hcd hro hro4 hk hk3) rfl rfl (Nat.le_of_ble_eq_true rfl) (hR.1 _ _ _ (by unfold yV; omega)) ⟨_, _, rfl⟩ (fun h hE => ?_)
  refine mJ_zret hK dX6_takes_120 rfl bI_nar hZ (by decide) (by decide) ?_
  obtain ⟨G9, hR9, hp9, hs9⟩ := hE
  exact ⟨rfl, G9, hR9, hp9, hs9⟩

set_option maxRecDepth 100000 in
set_option maxHeartbeats 4000000 in
theorem k_X6_takes_9 {l : Launch} {D : va_G} {aC : Nat → ClassId} {ad : xAd} {h0 h : mH} {F : xFm} {W : xWm} {pm : Nat → Nat} (hR : xR yV ad h0 F W pm h) {cd : Nat} (hcd : cd < 1000) (hs : F 30 0 0 24 = nI 9) {ro : Nat} (hro : F 30 0 0 29 = nI ro) (hro4 : ro < 4) {k : Nat} (hk : F 63 0 0 ro = nI k) (hk3 : k ≤ 3) : mCon l D aC mX6_takes [.ref (ad 30 0 0), .int (nI cd)] h (mRi (bI ((mtb F ro k cd).isSome = true)) (fun h' => ∃ G : xFm, xR yV ad h0 G W pm h' ∧ pO F G ∧ ∀ G', mtb F ro k cd = some G' → G = G')) := by
  refine mCon.of [some (.ref (ad 30 0 0)), some (.int (nI cd))] (by decide +kernel) rfl (Nat.le_of_ble_eq_true rfl) ?_
  intro K el eD eC hK hZ
  subst el eD eC
  refine mJ_aload_n hK dX6_takes_0 rfl ?_
  refine xJ_getx (nI 9) hR hK dX6_takes_1 fX6_140 (by unfold yV; omega) (fun _ _ => rfl) (by decide) rfl (by first | exact hs | (simp [fr, upd]; exact hs) | (simp [fr, upd, tS]; exact hs)) ?_
  refine mJ_tabOut (tgt := 121) hK dX6_takes_4 (by decide) (by decide) ?_
  refine mJ_aload_n hK dX6_takes_121 rfl ?_
  refine mJ_iload_n hK dX6_takes_122 rfl ?_
  refine mJ_cVi hK dX6_takes_123 lX6_175 (by unfold mFit; decide) (by decide) (k_X6_takesBehind hR hcd hro hro4 hk hk3) rfl rfl (Nat.le_of_ble_eq_true rfl) (hR.1 _ _ _ (by unfold yV; omega)) ⟨_, _, rfl⟩ (fun h hE => ?_)
  refine mJ_zret hK dX6_takes_126 rfl bI_nar hZ (by decide) (by decide) ?_
  obtain ⟨G9, hR9, hp9, hs9⟩ := hE
  exact ⟨rfl, G9, hR9, hp9, hs9⟩
