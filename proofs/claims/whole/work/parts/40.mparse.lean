def pO (F G : xFm) : Prop := (∀ k i j, k ≠ 30 → k ≠ 58 → (k < 62 ∨ 65 < k) → G k i j = F k i j) ∧ ∀ n, (n < 24 ∨ 31 < n) → G 30 0 0 n = F 30 0 0 n
theorem pO_refl {F : xFm} : pO F F := ⟨fun _ _ _ _ _ _ => rfl, fun _ _ => rfl⟩
theorem pO_tr {F G H : xFm} (h1 : pO F G) (h2 : pO G H) : pO F H := ⟨fun k i j a b c => (h2.1 k i j a b c).trans (h1.1 k i j a b c), fun n hn => (h2.2 n hn).trans (h1.2 n hn)⟩
def sS (F : xFm) (n : Nat) (x : Int32) : xFm := fr F 30 0 0 (upd (F 30 0 0) n x)
def rS (F : xFm) (k n : Nat) (x : Int32) : xFm := fr F k 0 0 (upd (F k 0 0) n x)
theorem pO_s {F : xFm} {n : Nat} {x : Int32} (h : 24 ≤ n ∧ n ≤ 31) : pO F (sS F n x) := by
  refine ⟨fun k i j a _ _ => fr_k a, fun m hm => ?_⟩
  unfold sS
  rw [fr_s]
  simp [upd, (show m ≠ n by omega)]
theorem pO_r {F : xFm} {k n : Nat} {x : Int32} (h : k = 58 ∨ (62 ≤ k ∧ k ≤ 65)) : pO F (rS F k n x) := by
  refine ⟨fun k' i j a b c => fr_k (by omega), fun m _ => ?_⟩
  unfold rS
  rw [fr_k (by omega)]
/-- a letter of the pattern so far; an operand -/
abbrev ofP (p : Int32) (cd : Nat) : Prop := (97 ≤ cd ∧ cd ≤ 104) ∧ usP p (nI (cd - 97))
abbrev isO (p : Int32) (cd : Nat) : Prop := ofP p cd ∨ (48 ≤ cd ∧ cd ≤ 57)
def oof (cd : Nat) : Nat := if 97 ≤ cd then cd - 97 else 8 + cd - 48
set_option maxRecDepth 100000 in
set_option maxHeartbeats 4000000 in
theorem k_X6_isOfPattern {l : Launch} {D : va_G} {aC : Nat → ClassId} {ad : xAd} {h0 h : mH} {F : xFm} {W : xWm} {pm : Nat → Nat} (hR : xR yV ad h0 F W pm h) {cd : Nat} (hcd : cd < 1000) : mCon l D aC mX6_isOfPattern [.ref (ad 30 0 0), .int (nI cd)] h (mRi (bI (ofP (F 30 0 0 25) cd)) (fun h' => h' = h)) := by
  refine mCon.of [some (.ref (ad 30 0 0)), some (.int (nI cd))] (by decide +kernel) rfl (Nat.le_of_ble_eq_true rfl) ?_
  intro K el eD eC hK hZ
  subst el eD eC
  refine mJ_iload_n hK dX6_isOfPattern_0 rfl ?_
  refine mJ_bipush (v := nI 97) hK dX6_isOfPattern_1 (by decide) ?_
  refine mJ_bipush (v := nI 104) hK dX6_isOfPattern_3 (by decide) ?_
  refine mJ_cSi hK dX6_isOfPattern_5 lX6_120 (by unfold mFit; decide) (by decide) (k_X6_withinN (by omega) (by omega) (by omega)) rfl rfl (Nat.le_of_ble_eq_true rfl) (fun h e9 => ?_)
  subst e9
  refine mJ_ifb_eq (tgt := 30) hK dX6_isOfPattern_8 (by decide) (fun c_8 => ?_) (fun c_8 => ?_)
  · refine mJ_iconst (v := nI 0) hK dX6_isOfPattern_30 (by decide) ?_
    refine mJ_zret hK dX6_isOfPattern_31 rfl (by decide) hZ (by decide) (by decide) ?_
    first | exact ⟨congrArg (fun z => some (Value.int z)) (b1 ⟨c_8, us1.mp c_23⟩), rfl⟩ | exact ⟨congrArg (fun z => some (Value.int z)) (b0 (fun z => c_23 (us1.mpr z.2))), rfl⟩ | exact ⟨congrArg (fun z => some (Value.int z)) (b0 (fun z => c_8 z.1)), rfl⟩
  · refine mJ_aload_n hK dX6_isOfPattern_11 rfl ?_
    refine xJ_geti hR hK dX6_isOfPattern_12 fX6_127 (by unfold yV; omega) (fun _ _ => rfl) (by decide) rfl ?_
    refine mJ_iload_n hK dX6_isOfPattern_15 rfl ?_
    refine mJ_bipush (v := nI 97) hK dX6_isOfPattern_16 (by decide) ?_
    refine mJ_isubN hK dX6_isOfPattern_18 (by omega) ?_
    refine mJ_ishr hK dX6_isOfPattern_19 ?_
    refine mJ_iconst (v := nI 1) hK dX6_isOfPattern_20 (by decide) ?_
    refine mJ_iand hK dX6_isOfPattern_21 ?_
    refine mJ_iconst (v := nI 1) hK dX6_isOfPattern_22 (by decide) ?_
    refine mJ_icmp_ne (tgt := 30) hK dX6_isOfPattern_23 (by decide) (fun c_23 => ?_) (fun c_23 => ?_)
    · refine mJ_iconst (v := nI 0) hK dX6_isOfPattern_30 (by decide) ?_
      refine mJ_zret hK dX6_isOfPattern_31 rfl (by decide) hZ (by decide) (by decide) ?_
      first | exact ⟨congrArg (fun z => some (Value.int z)) (b1 ⟨c_8, us1.mp c_23⟩), rfl⟩ | exact ⟨congrArg (fun z => some (Value.int z)) (b0 (fun z => c_23 (us1.mpr z.2))), rfl⟩ | exact ⟨congrArg (fun z => some (Value.int z)) (b0 (fun z => c_8 z.1)), rfl⟩
    · refine mJ_iconst (v := nI 1) hK dX6_isOfPattern_26 (by decide) ?_
      refine mJ_goto (tgt := 31) hK dX6_isOfPattern_27 (by decide) ?_
      refine mJ_zret hK dX6_isOfPattern_31 rfl (by decide) hZ (by decide) (by decide) ?_
      first | exact ⟨congrArg (fun z => some (Value.int z)) (b1 ⟨c_8, us1.mp c_23⟩), rfl⟩ | exact ⟨congrArg (fun z => some (Value.int z)) (b0 (fun z => c_23 (us1.mpr z.2))), rfl⟩ | exact ⟨congrArg (fun z => some (Value.int z)) (b0 (fun z => c_8 z.1)), rfl⟩

set_option maxRecDepth 100000 in
set_option maxHeartbeats 4000000 in
theorem k_X6_isOperand {l : Launch} {D : va_G} {aC : Nat → ClassId} {ad : xAd} {h0 h : mH} {F : xFm} {W : xWm} {pm : Nat → Nat} (hR : xR yV ad h0 F W pm h) {cd : Nat} (hcd : cd < 1000) : mCon l D aC mX6_isOperand [.ref (ad 30 0 0), .int (nI cd)] h (mRi (bI (isO (F 30 0 0 25) cd)) (fun h' => h' = h)) := by
  refine mCon.of [some (.ref (ad 30 0 0)), some (.int (nI cd))] (by decide +kernel) rfl (Nat.le_of_ble_eq_true rfl) ?_
  intro K el eD eC hK hZ
  subst el eD eC
  refine mJ_aload_n hK dX6_isOperand_0 rfl ?_
  refine mJ_iload_n hK dX6_isOperand_1 rfl ?_
  refine mJ_cVi hK dX6_isOperand_2 lX6_130 (by unfold mFit; decide) (by decide) (k_X6_isOfPattern hR hcd) rfl rfl (Nat.le_of_ble_eq_true rfl) (hR.1 _ _ _ (by unfold yV; omega)) ⟨_, _, rfl⟩ (fun h e9 => ?_)
  subst e9
  refine mJ_ifb_ne (tgt := 19) hK dX6_isOperand_5 (by decide) (fun c_5 => ?_) (fun c_5 => ?_)
  · refine mJ_iconst (v := nI 1) hK dX6_isOperand_19 (by decide) ?_
    refine mJ_goto (tgt := 24) hK dX6_isOperand_20 (by decide) ?_
    refine mJ_zret hK dX6_isOperand_24 rfl (by decide) hZ (by decide) (by decide) ?_
    first | exact ⟨congrArg (fun z => some (Value.int z)) (b1 (Or.inl c_5)), rfl⟩ | exact ⟨congrArg (fun z => some (Value.int z)) (b1 (Or.inr c_16)), rfl⟩ | exact ⟨congrArg (fun z => some (Value.int z)) (b0 (fun z => z.elim c_5 c_16)), rfl⟩
  · refine mJ_iload_n hK dX6_isOperand_8 rfl ?_
    refine mJ_bipush (v := nI 48) hK dX6_isOperand_9 (by decide) ?_
    refine mJ_bipush (v := nI 57) hK dX6_isOperand_11 (by decide) ?_
    refine mJ_cSi hK dX6_isOperand_13 lX6_120 (by unfold mFit; decide) (by decide) (k_X6_withinN (by omega) (by omega) (by omega)) rfl rfl (Nat.le_of_ble_eq_true rfl) (fun h e9 => ?_)
    subst e9
    refine mJ_ifb_eq (tgt := 23) hK dX6_isOperand_16 (by decide) (fun c_16 => ?_) (fun c_16 => ?_)
    · refine mJ_iconst (v := nI 0) hK dX6_isOperand_23 (by decide) ?_
      refine mJ_zret hK dX6_isOperand_24 rfl (by decide) hZ (by decide) (by decide) ?_
      first | exact ⟨congrArg (fun z => some (Value.int z)) (b1 (Or.inl c_5)), rfl⟩ | exact ⟨congrArg (fun z => some (Value.int z)) (b1 (Or.inr c_16)), rfl⟩ | exact ⟨congrArg (fun z => some (Value.int z)) (b0 (fun z => z.elim c_5 c_16)), rfl⟩
    · refine mJ_iconst (v := nI 1) hK dX6_isOperand_19 (by decide) ?_
      refine mJ_goto (tgt := 24) hK dX6_isOperand_20 (by decide) ?_
      refine mJ_zret hK dX6_isOperand_24 rfl (by decide) hZ (by decide) (by decide) ?_
      first | exact ⟨congrArg (fun z => some (Value.int z)) (b1 (Or.inl c_5)), rfl⟩ | exact ⟨congrArg (fun z => some (Value.int z)) (b1 (Or.inr c_16)), rfl⟩ | exact ⟨congrArg (fun z => some (Value.int z)) (b0 (fun z => z.elim c_5 c_16)), rfl⟩

set_option maxRecDepth 100000 in
set_option maxHeartbeats 4000000 in
theorem k_X6_operandOf {l : Launch} {D : va_G} {aC : Nat → ClassId} {h : mH} {cd : Nat} (hcd : cd < 1000) (h40 : 40 ≤ cd) : mCon l D aC mX6_operandOf [.int (nI cd)] h (mRi (nI (oof cd)) (fun h' => h' = h)) := by
  refine mCon.of [some (.int (nI cd))] (by decide +kernel) rfl (Nat.le_of_ble_eq_true rfl) ?_
  intro K el eD eC hK hZ
  subst el eD eC
  refine mJ_iload_n hK dX6_operandOf_0 rfl ?_
  refine mJ_bipush (v := nI 97) hK dX6_operandOf_1 (by decide) ?_
  refine mJ_nlt (tgt := 13) hK dX6_operandOf_3 (by decide) (by omega) (by omega) (fun c_3 => ?_) (fun c_3 => ?_)
  · refine mJ_bipush (v := nI 8) hK dX6_operandOf_13 (by decide) ?_
    refine mJ_iload_n hK dX6_operandOf_15 rfl ?_
    refine mJ_iaddN hK dX6_operandOf_16 ?_
    refine mJ_bipush (v := nI 48) hK dX6_operandOf_17 (by decide) ?_
    refine mJ_isubN hK dX6_operandOf_19 (by omega) ?_
    refine mJ_iret hK dX6_operandOf_20 rfl hZ (by decide) (by decide) ?_
    first | exact ⟨by rw [oof, if_pos (by omega)], rfl⟩ | exact ⟨by rw [oof, if_neg (by omega)], rfl⟩
  · refine mJ_iload_n hK dX6_operandOf_6 rfl ?_
    refine mJ_bipush (v := nI 97) hK dX6_operandOf_7 (by decide) ?_
    refine mJ_isubN hK dX6_operandOf_9 (by omega) ?_
    refine mJ_goto (tgt := 20) hK dX6_operandOf_10 (by decide) ?_
    refine mJ_iret hK dX6_operandOf_20 rfl hZ (by decide) (by decide) ?_
    first | exact ⟨by rw [oof, if_pos (by omega)], rfl⟩ | exact ⟨by rw [oof, if_neg (by omega)], rfl⟩

set_option maxRecDepth 100000 in
set_option maxHeartbeats 4000000 in
theorem k_X6_operandOf_any {l : Launch} {D : va_G} {aC : Nat → ClassId} {h : mH} (x : Int32) : mCon l D aC mX6_operandOf [.int x] h (fun r h' => h' = h ∧ ∃ y : Int32, r = some (.int y)) := by
  refine mCon.of [some (.int x)] (by decide +kernel) rfl (Nat.le_of_ble_eq_true rfl) ?_
  intro K el eD eC hK hZ
  subst el eD eC
  refine mJ_iload_n hK dX6_operandOf_0 rfl ?_
  refine mJ_bipush (v := nI 97) hK dX6_operandOf_1 (by decide) ?_
  refine mJ_icmp_lt (tgt := 13) hK dX6_operandOf_3 (by decide) (fun c_3 => ?_) (fun c_3 => ?_)
  · refine mJ_bipush (v := nI 8) hK dX6_operandOf_13 (by decide) ?_
    refine mJ_iload_n hK dX6_operandOf_15 rfl ?_
    refine mJ_iadd hK dX6_operandOf_16 ?_
    refine mJ_bipush (v := nI 48) hK dX6_operandOf_17 (by decide) ?_
    refine mJ_isub hK dX6_operandOf_19 ?_
    refine mJ_iret hK dX6_operandOf_20 rfl hZ (by decide) (by decide) ?_
    exact ⟨rfl, _, rfl⟩
  · refine mJ_iload_n hK dX6_operandOf_6 rfl ?_
    refine mJ_bipush (v := nI 97) hK dX6_operandOf_7 (by decide) ?_
    refine mJ_isub hK dX6_operandOf_9 ?_
    refine mJ_goto (tgt := 20) hK dX6_operandOf_10 (by decide) ?_
    refine mJ_iret hK dX6_operandOf_20 rfl hZ (by decide) (by decide) ?_
    exact ⟨rfl, _, rfl⟩

def mtP (F : xFm) (n cd : Nat) : Option xFm := if (97 ≤ cd ∧ cd ≤ 104) ∧ ¬ nI (cd - 97) ≤ F 30 0 0 27 ∧ n < 4 then some (sS (sS (sS F 25 (F 30 0 0 25 ||| nI 1 <<< (nI (cd - 97) &&& 31))) 27 (nI (cd - 97))) 26 (nI (n + 1))) else if 0 < n ∧ (cd = 63 ∨ cd = 58) then some (sS F 24 (nI (if cd = 63 then 1 else 5))) else none
set_option maxRecDepth 100000 in
set_option maxHeartbeats 4000000 in
theorem k_X6_takesPattern {l : Launch} {D : va_G} {aC : Nat → ClassId} {ad : xAd} {h0 h : mH} {F : xFm} {W : xWm} {pm : Nat → Nat} (hR : xR yV ad h0 F W pm h) {cd : Nat} (hcd : cd < 1000) {n : Nat} (hn : F 30 0 0 26 = nI n) (hn4 : n ≤ 4) : mCon l D aC mX6_takesPattern [.ref (ad 30 0 0), .int (nI cd)] h (mRi (bI ((mtP F n cd).isSome = true)) (fun h' => ∃ G : xFm, xR yV ad h0 G W pm h' ∧ pO F G ∧ ∀ G', mtP F n cd = some G' → G = G')) := by
  refine mCon.of [some (.ref (ad 30 0 0)), some (.int (nI cd))] (by decide +kernel) rfl (Nat.le_of_ble_eq_true rfl) ?_
  intro K el eD eC hK hZ
  subst el eD eC
  refine mJ_iload_n hK dX6_takesPattern_0 rfl ?_
  refine mJ_bipush (v := nI 97) hK dX6_takesPattern_1 (by decide) ?_
  refine mJ_bipush (v := nI 104) hK dX6_takesPattern_3 (by decide) ?_
  refine mJ_cSi hK dX6_takesPattern_5 lX6_120 (by unfold mFit; decide) (by decide) (k_X6_withinN (by omega) (by omega) (by omega)) rfl rfl (Nat.le_of_ble_eq_true rfl) (fun h e9 => ?_)
  subst e9
  refine mJ_ifb_eq (tgt := 65) hK dX6_takesPattern_8 (by decide) (fun c_8 => ?_) (fun c_8 => ?_)
  · refine mJ_aload_n hK dX6_takesPattern_65 rfl ?_
    refine mJ_iload_n hK dX6_takesPattern_66 rfl ?_
    refine mJ_bipush (v := nI 63) hK dX6_takesPattern_67 (by decide) ?_
    refine mJ_nne (tgt := 76) hK dX6_takesPattern_69 (by decide) (by omega) (by omega) (fun c_69 => ?_) (fun c_69 => ?_)
    · refine mJ_iconst (v := nI 5) hK dX6_takesPattern_76 (by decide) ?_
      refine xJ_puti hR hK dX6_takesPattern_77 fX6_140 sX6_24 rfl rfl (by unfold yV; omega) (fun _ _ => rfl) (by decide) rfl (fun h hR => ?_)
      refine mJ_aload_n hK dX6_takesPattern_80 rfl ?_
      refine xJ_getx (nI n) hR hK dX6_takesPattern_81 fX6_137 (by unfold yV; omega) (fun _ _ => rfl) (by decide) rfl (by first | exact hn | (simp [fr, upd]; exact hn) | (simp [fr, upd, tS]; exact hn)) ?_
      refine mJ_nif_le (tgt := 103) hK dX6_takesPattern_84 (by decide) (by omega) (fun c_84 => ?_) (fun c_84 => ?_)
      · refine mJ_iconst (v := nI 0) hK dX6_takesPattern_103 (by decide) ?_
        refine mJ_zret hK dX6_takesPattern_104 rfl (by decide) hZ (by decide) (by decide) ?_
        have e0 : ¬ ((97 ≤ cd ∧ cd ≤ 104) ∧ ¬ nI (cd - 97) ≤ F 30 0 0 27 ∧ n < 4) := by first | exact fun z => c_8 z.1 | exact fun z => z.2.1 c_19 | exact fun z => absurd z.2.2 (by omega)
        first | (exfalso; omega) | (have e9 : mtP F n cd = some (sS F 24 (nI (if cd = 63 then 1 else 5))) := by (rw [mtP, if_neg e0, if_pos ⟨by omega, by omega⟩])) ; (first | rw [if_pos (by omega)] at e9 | rw [if_neg (by omega)] at e9) ; exact ⟨congrArg (fun z => some (Value.int z)) (b1 (by rw [e9]; rfl)), _, hR, pO_s (by omega), fun G' z => by rw [e9] at z; cases z; rfl⟩ | (have e9 : mtP F n cd = none := by (rw [mtP, if_neg e0, if_neg (by omega)])) ; exact ⟨congrArg (fun z => some (Value.int z)) (b0 (by rw [e9]; exact fun z => by cases z)), _, hR, pO_s (by omega), fun G' z => by rw [e9] at z; cases z⟩
      · refine mJ_iload_n hK dX6_takesPattern_87 rfl ?_
        refine mJ_bipush (v := nI 63) hK dX6_takesPattern_88 (by decide) ?_
        refine mJ_neq (tgt := 99) hK dX6_takesPattern_90 (by decide) (by omega) (by omega) (fun c_90 => ?_) (fun c_90 => ?_)
        · refine mJ_iconst (v := nI 1) hK dX6_takesPattern_99 (by decide) ?_
          refine mJ_goto (tgt := 104) hK dX6_takesPattern_100 (by decide) ?_
          refine mJ_zret hK dX6_takesPattern_104 rfl (by decide) hZ (by decide) (by decide) ?_
          have e0 : ¬ ((97 ≤ cd ∧ cd ≤ 104) ∧ ¬ nI (cd - 97) ≤ F 30 0 0 27 ∧ n < 4) := by first | exact fun z => c_8 z.1 | exact fun z => z.2.1 c_19 | exact fun z => absurd z.2.2 (by omega)
          first | (exfalso; omega) | (have e9 : mtP F n cd = some (sS F 24 (nI (if cd = 63 then 1 else 5))) := by (rw [mtP, if_neg e0, if_pos ⟨by omega, by omega⟩])) ; (first | rw [if_pos (by omega)] at e9 | rw [if_neg (by omega)] at e9) ; exact ⟨congrArg (fun z => some (Value.int z)) (b1 (by rw [e9]; rfl)), _, hR, pO_s (by omega), fun G' z => by rw [e9] at z; cases z; rfl⟩ | (have e9 : mtP F n cd = none := by (rw [mtP, if_neg e0, if_neg (by omega)])) ; exact ⟨congrArg (fun z => some (Value.int z)) (b0 (by rw [e9]; exact fun z => by cases z)), _, hR, pO_s (by omega), fun G' z => by rw [e9] at z; cases z⟩
        · refine mJ_iload_n hK dX6_takesPattern_93 rfl ?_
          refine mJ_bipush (v := nI 58) hK dX6_takesPattern_94 (by decide) ?_
          refine mJ_nne (tgt := 103) hK dX6_takesPattern_96 (by decide) (by omega) (by omega) (fun c_96 => ?_) (fun c_96 => ?_)
          · refine mJ_iconst (v := nI 0) hK dX6_takesPattern_103 (by decide) ?_
            refine mJ_zret hK dX6_takesPattern_104 rfl (by decide) hZ (by decide) (by decide) ?_
            have e0 : ¬ ((97 ≤ cd ∧ cd ≤ 104) ∧ ¬ nI (cd - 97) ≤ F 30 0 0 27 ∧ n < 4) := by first | exact fun z => c_8 z.1 | exact fun z => z.2.1 c_19 | exact fun z => absurd z.2.2 (by omega)
            first | (exfalso; omega) | (have e9 : mtP F n cd = some (sS F 24 (nI (if cd = 63 then 1 else 5))) := by (rw [mtP, if_neg e0, if_pos ⟨by omega, by omega⟩])) ; (first | rw [if_pos (by omega)] at e9 | rw [if_neg (by omega)] at e9) ; exact ⟨congrArg (fun z => some (Value.int z)) (b1 (by rw [e9]; rfl)), _, hR, pO_s (by omega), fun G' z => by rw [e9] at z; cases z; rfl⟩ | (have e9 : mtP F n cd = none := by (rw [mtP, if_neg e0, if_neg (by omega)])) ; exact ⟨congrArg (fun z => some (Value.int z)) (b0 (by rw [e9]; exact fun z => by cases z)), _, hR, pO_s (by omega), fun G' z => by rw [e9] at z; cases z⟩
          · refine mJ_iconst (v := nI 1) hK dX6_takesPattern_99 (by decide) ?_
            refine mJ_goto (tgt := 104) hK dX6_takesPattern_100 (by decide) ?_
            refine mJ_zret hK dX6_takesPattern_104 rfl (by decide) hZ (by decide) (by decide) ?_
            have e0 : ¬ ((97 ≤ cd ∧ cd ≤ 104) ∧ ¬ nI (cd - 97) ≤ F 30 0 0 27 ∧ n < 4) := by first | exact fun z => c_8 z.1 | exact fun z => z.2.1 c_19 | exact fun z => absurd z.2.2 (by omega)
            first | (exfalso; omega) | (have e9 : mtP F n cd = some (sS F 24 (nI (if cd = 63 then 1 else 5))) := by (rw [mtP, if_neg e0, if_pos ⟨by omega, by omega⟩])) ; (first | rw [if_pos (by omega)] at e9 | rw [if_neg (by omega)] at e9) ; exact ⟨congrArg (fun z => some (Value.int z)) (b1 (by rw [e9]; rfl)), _, hR, pO_s (by omega), fun G' z => by rw [e9] at z; cases z; rfl⟩ | (have e9 : mtP F n cd = none := by (rw [mtP, if_neg e0, if_neg (by omega)])) ; exact ⟨congrArg (fun z => some (Value.int z)) (b0 (by rw [e9]; exact fun z => by cases z)), _, hR, pO_s (by omega), fun G' z => by rw [e9] at z; cases z⟩
    · refine mJ_iconst (v := nI 1) hK dX6_takesPattern_72 (by decide) ?_
      refine mJ_goto (tgt := 77) hK dX6_takesPattern_73 (by decide) ?_
      refine xJ_puti hR hK dX6_takesPattern_77 fX6_140 sX6_24 rfl rfl (by unfold yV; omega) (fun _ _ => rfl) (by decide) rfl (fun h hR => ?_)
      refine mJ_aload_n hK dX6_takesPattern_80 rfl ?_
      refine xJ_getx (nI n) hR hK dX6_takesPattern_81 fX6_137 (by unfold yV; omega) (fun _ _ => rfl) (by decide) rfl (by first | exact hn | (simp [fr, upd]; exact hn) | (simp [fr, upd, tS]; exact hn)) ?_
      refine mJ_nif_le (tgt := 103) hK dX6_takesPattern_84 (by decide) (by omega) (fun c_84 => ?_) (fun c_84 => ?_)
      · refine mJ_iconst (v := nI 0) hK dX6_takesPattern_103 (by decide) ?_
        refine mJ_zret hK dX6_takesPattern_104 rfl (by decide) hZ (by decide) (by decide) ?_
        have e0 : ¬ ((97 ≤ cd ∧ cd ≤ 104) ∧ ¬ nI (cd - 97) ≤ F 30 0 0 27 ∧ n < 4) := by first | exact fun z => c_8 z.1 | exact fun z => z.2.1 c_19 | exact fun z => absurd z.2.2 (by omega)
        first | (exfalso; omega) | (have e9 : mtP F n cd = some (sS F 24 (nI (if cd = 63 then 1 else 5))) := by (rw [mtP, if_neg e0, if_pos ⟨by omega, by omega⟩])) ; (first | rw [if_pos (by omega)] at e9 | rw [if_neg (by omega)] at e9) ; exact ⟨congrArg (fun z => some (Value.int z)) (b1 (by rw [e9]; rfl)), _, hR, pO_s (by omega), fun G' z => by rw [e9] at z; cases z; rfl⟩ | (have e9 : mtP F n cd = none := by (rw [mtP, if_neg e0, if_neg (by omega)])) ; exact ⟨congrArg (fun z => some (Value.int z)) (b0 (by rw [e9]; exact fun z => by cases z)), _, hR, pO_s (by omega), fun G' z => by rw [e9] at z; cases z⟩
      · refine mJ_iload_n hK dX6_takesPattern_87 rfl ?_
        refine mJ_bipush (v := nI 63) hK dX6_takesPattern_88 (by decide) ?_
        refine mJ_neq (tgt := 99) hK dX6_takesPattern_90 (by decide) (by omega) (by omega) (fun c_90 => ?_) (fun c_90 => ?_)
        · refine mJ_iconst (v := nI 1) hK dX6_takesPattern_99 (by decide) ?_
          refine mJ_goto (tgt := 104) hK dX6_takesPattern_100 (by decide) ?_
          refine mJ_zret hK dX6_takesPattern_104 rfl (by decide) hZ (by decide) (by decide) ?_
          have e0 : ¬ ((97 ≤ cd ∧ cd ≤ 104) ∧ ¬ nI (cd - 97) ≤ F 30 0 0 27 ∧ n < 4) := by first | exact fun z => c_8 z.1 | exact fun z => z.2.1 c_19 | exact fun z => absurd z.2.2 (by omega)
          first | (exfalso; omega) | (have e9 : mtP F n cd = some (sS F 24 (nI (if cd = 63 then 1 else 5))) := by (rw [mtP, if_neg e0, if_pos ⟨by omega, by omega⟩])) ; (first | rw [if_pos (by omega)] at e9 | rw [if_neg (by omega)] at e9) ; exact ⟨congrArg (fun z => some (Value.int z)) (b1 (by rw [e9]; rfl)), _, hR, pO_s (by omega), fun G' z => by rw [e9] at z; cases z; rfl⟩ | (have e9 : mtP F n cd = none := by (rw [mtP, if_neg e0, if_neg (by omega)])) ; exact ⟨congrArg (fun z => some (Value.int z)) (b0 (by rw [e9]; exact fun z => by cases z)), _, hR, pO_s (by omega), fun G' z => by rw [e9] at z; cases z⟩
        · refine mJ_iload_n hK dX6_takesPattern_93 rfl ?_
          refine mJ_bipush (v := nI 58) hK dX6_takesPattern_94 (by decide) ?_
          refine mJ_nne (tgt := 103) hK dX6_takesPattern_96 (by decide) (by omega) (by omega) (fun c_96 => ?_) (fun c_96 => ?_)
          · refine mJ_iconst (v := nI 0) hK dX6_takesPattern_103 (by decide) ?_
            refine mJ_zret hK dX6_takesPattern_104 rfl (by decide) hZ (by decide) (by decide) ?_
            have e0 : ¬ ((97 ≤ cd ∧ cd ≤ 104) ∧ ¬ nI (cd - 97) ≤ F 30 0 0 27 ∧ n < 4) := by first | exact fun z => c_8 z.1 | exact fun z => z.2.1 c_19 | exact fun z => absurd z.2.2 (by omega)
            first | (exfalso; omega) | (have e9 : mtP F n cd = some (sS F 24 (nI (if cd = 63 then 1 else 5))) := by (rw [mtP, if_neg e0, if_pos ⟨by omega, by omega⟩])) ; (first | rw [if_pos (by omega)] at e9 | rw [if_neg (by omega)] at e9) ; exact ⟨congrArg (fun z => some (Value.int z)) (b1 (by rw [e9]; rfl)), _, hR, pO_s (by omega), fun G' z => by rw [e9] at z; cases z; rfl⟩ | (have e9 : mtP F n cd = none := by (rw [mtP, if_neg e0, if_neg (by omega)])) ; exact ⟨congrArg (fun z => some (Value.int z)) (b0 (by rw [e9]; exact fun z => by cases z)), _, hR, pO_s (by omega), fun G' z => by rw [e9] at z; cases z⟩
          · refine mJ_iconst (v := nI 1) hK dX6_takesPattern_99 (by decide) ?_
            refine mJ_goto (tgt := 104) hK dX6_takesPattern_100 (by decide) ?_
            refine mJ_zret hK dX6_takesPattern_104 rfl (by decide) hZ (by decide) (by decide) ?_
            have e0 : ¬ ((97 ≤ cd ∧ cd ≤ 104) ∧ ¬ nI (cd - 97) ≤ F 30 0 0 27 ∧ n < 4) := by first | exact fun z => c_8 z.1 | exact fun z => z.2.1 c_19 | exact fun z => absurd z.2.2 (by omega)
            first | (exfalso; omega) | (have e9 : mtP F n cd = some (sS F 24 (nI (if cd = 63 then 1 else 5))) := by (rw [mtP, if_neg e0, if_pos ⟨by omega, by omega⟩])) ; (first | rw [if_pos (by omega)] at e9 | rw [if_neg (by omega)] at e9) ; exact ⟨congrArg (fun z => some (Value.int z)) (b1 (by rw [e9]; rfl)), _, hR, pO_s (by omega), fun G' z => by rw [e9] at z; cases z; rfl⟩ | (have e9 : mtP F n cd = none := by (rw [mtP, if_neg e0, if_neg (by omega)])) ; exact ⟨congrArg (fun z => some (Value.int z)) (b0 (by rw [e9]; exact fun z => by cases z)), _, hR, pO_s (by omega), fun G' z => by rw [e9] at z; cases z⟩
  · refine mJ_iload_n hK dX6_takesPattern_11 rfl ?_
    refine mJ_bipush (v := nI 97) hK dX6_takesPattern_12 (by decide) ?_
    refine mJ_isubN hK dX6_takesPattern_14 (by omega) ?_
    refine mJ_aload_n hK dX6_takesPattern_15 rfl ?_
    refine xJ_geti hR hK dX6_takesPattern_16 fX6_134 (by unfold yV; omega) (fun _ _ => rfl) (by decide) rfl ?_
    refine mJ_icmp_le (tgt := 65) hK dX6_takesPattern_19 (by decide) (fun c_19 => ?_) (fun c_19 => ?_)
    · refine mJ_aload_n hK dX6_takesPattern_65 rfl ?_
      refine mJ_iload_n hK dX6_takesPattern_66 rfl ?_
      refine mJ_bipush (v := nI 63) hK dX6_takesPattern_67 (by decide) ?_
      refine mJ_nne (tgt := 76) hK dX6_takesPattern_69 (by decide) (by omega) (by omega) (fun c_69 => ?_) (fun c_69 => ?_)
      · refine mJ_iconst (v := nI 5) hK dX6_takesPattern_76 (by decide) ?_
        refine xJ_puti hR hK dX6_takesPattern_77 fX6_140 sX6_24 rfl rfl (by unfold yV; omega) (fun _ _ => rfl) (by decide) rfl (fun h hR => ?_)
        refine mJ_aload_n hK dX6_takesPattern_80 rfl ?_
        refine xJ_getx (nI n) hR hK dX6_takesPattern_81 fX6_137 (by unfold yV; omega) (fun _ _ => rfl) (by decide) rfl (by first | exact hn | (simp [fr, upd]; exact hn) | (simp [fr, upd, tS]; exact hn)) ?_
        refine mJ_nif_le (tgt := 103) hK dX6_takesPattern_84 (by decide) (by omega) (fun c_84 => ?_) (fun c_84 => ?_)
        · refine mJ_iconst (v := nI 0) hK dX6_takesPattern_103 (by decide) ?_
          refine mJ_zret hK dX6_takesPattern_104 rfl (by decide) hZ (by decide) (by decide) ?_
          have e0 : ¬ ((97 ≤ cd ∧ cd ≤ 104) ∧ ¬ nI (cd - 97) ≤ F 30 0 0 27 ∧ n < 4) := by first | exact fun z => c_8 z.1 | exact fun z => z.2.1 c_19 | exact fun z => absurd z.2.2 (by omega)
          first | (exfalso; omega) | (have e9 : mtP F n cd = some (sS F 24 (nI (if cd = 63 then 1 else 5))) := by (rw [mtP, if_neg e0, if_pos ⟨by omega, by omega⟩])) ; (first | rw [if_pos (by omega)] at e9 | rw [if_neg (by omega)] at e9) ; exact ⟨congrArg (fun z => some (Value.int z)) (b1 (by rw [e9]; rfl)), _, hR, pO_s (by omega), fun G' z => by rw [e9] at z; cases z; rfl⟩ | (have e9 : mtP F n cd = none := by (rw [mtP, if_neg e0, if_neg (by omega)])) ; exact ⟨congrArg (fun z => some (Value.int z)) (b0 (by rw [e9]; exact fun z => by cases z)), _, hR, pO_s (by omega), fun G' z => by rw [e9] at z; cases z⟩
        · refine mJ_iload_n hK dX6_takesPattern_87 rfl ?_
          refine mJ_bipush (v := nI 63) hK dX6_takesPattern_88 (by decide) ?_
          refine mJ_neq (tgt := 99) hK dX6_takesPattern_90 (by decide) (by omega) (by omega) (fun c_90 => ?_) (fun c_90 => ?_)
          · refine mJ_iconst (v := nI 1) hK dX6_takesPattern_99 (by decide) ?_
            refine mJ_goto (tgt := 104) hK dX6_takesPattern_100 (by decide) ?_
            refine mJ_zret hK dX6_takesPattern_104 rfl (by decide) hZ (by decide) (by decide) ?_
            have e0 : ¬ ((97 ≤ cd ∧ cd ≤ 104) ∧ ¬ nI (cd - 97) ≤ F 30 0 0 27 ∧ n < 4) := by first | exact fun z => c_8 z.1 | exact fun z => z.2.1 c_19 | exact fun z => absurd z.2.2 (by omega)
            first | (exfalso; omega) | (have e9 : mtP F n cd = some (sS F 24 (nI (if cd = 63 then 1 else 5))) := by (rw [mtP, if_neg e0, if_pos ⟨by omega, by omega⟩])) ; (first | rw [if_pos (by omega)] at e9 | rw [if_neg (by omega)] at e9) ; exact ⟨congrArg (fun z => some (Value.int z)) (b1 (by rw [e9]; rfl)), _, hR, pO_s (by omega), fun G' z => by rw [e9] at z; cases z; rfl⟩ | (have e9 : mtP F n cd = none := by (rw [mtP, if_neg e0, if_neg (by omega)])) ; exact ⟨congrArg (fun z => some (Value.int z)) (b0 (by rw [e9]; exact fun z => by cases z)), _, hR, pO_s (by omega), fun G' z => by rw [e9] at z; cases z⟩
          · refine mJ_iload_n hK dX6_takesPattern_93 rfl ?_
            refine mJ_bipush (v := nI 58) hK dX6_takesPattern_94 (by decide) ?_
            refine mJ_nne (tgt := 103) hK dX6_takesPattern_96 (by decide) (by omega) (by omega) (fun c_96 => ?_) (fun c_96 => ?_)
            · refine mJ_iconst (v := nI 0) hK dX6_takesPattern_103 (by decide) ?_
              refine mJ_zret hK dX6_takesPattern_104 rfl (by decide) hZ (by decide) (by decide) ?_
              have e0 : ¬ ((97 ≤ cd ∧ cd ≤ 104) ∧ ¬ nI (cd - 97) ≤ F 30 0 0 27 ∧ n < 4) := by first | exact fun z => c_8 z.1 | exact fun z => z.2.1 c_19 | exact fun z => absurd z.2.2 (by omega)
              first | (exfalso; omega) | (have e9 : mtP F n cd = some (sS F 24 (nI (if cd = 63 then 1 else 5))) := by (rw [mtP, if_neg e0, if_pos ⟨by omega, by omega⟩])) ; (first | rw [if_pos (by omega)] at e9 | rw [if_neg (by omega)] at e9) ; exact ⟨congrArg (fun z => some (Value.int z)) (b1 (by rw [e9]; rfl)), _, hR, pO_s (by omega), fun G' z => by rw [e9] at z; cases z; rfl⟩ | (have e9 : mtP F n cd = none := by (rw [mtP, if_neg e0, if_neg (by omega)])) ; exact ⟨congrArg (fun z => some (Value.int z)) (b0 (by rw [e9]; exact fun z => by cases z)), _, hR, pO_s (by omega), fun G' z => by rw [e9] at z; cases z⟩
            · refine mJ_iconst (v := nI 1) hK dX6_takesPattern_99 (by decide) ?_
              refine mJ_goto (tgt := 104) hK dX6_takesPattern_100 (by decide) ?_
              refine mJ_zret hK dX6_takesPattern_104 rfl (by decide) hZ (by decide) (by decide) ?_
              have e0 : ¬ ((97 ≤ cd ∧ cd ≤ 104) ∧ ¬ nI (cd - 97) ≤ F 30 0 0 27 ∧ n < 4) := by first | exact fun z => c_8 z.1 | exact fun z => z.2.1 c_19 | exact fun z => absurd z.2.2 (by omega)
              first | (exfalso; omega) | (have e9 : mtP F n cd = some (sS F 24 (nI (if cd = 63 then 1 else 5))) := by (rw [mtP, if_neg e0, if_pos ⟨by omega, by omega⟩])) ; (first | rw [if_pos (by omega)] at e9 | rw [if_neg (by omega)] at e9) ; exact ⟨congrArg (fun z => some (Value.int z)) (b1 (by rw [e9]; rfl)), _, hR, pO_s (by omega), fun G' z => by rw [e9] at z; cases z; rfl⟩ | (have e9 : mtP F n cd = none := by (rw [mtP, if_neg e0, if_neg (by omega)])) ; exact ⟨congrArg (fun z => some (Value.int z)) (b0 (by rw [e9]; exact fun z => by cases z)), _, hR, pO_s (by omega), fun G' z => by rw [e9] at z; cases z⟩
      · refine mJ_iconst (v := nI 1) hK dX6_takesPattern_72 (by decide) ?_
        refine mJ_goto (tgt := 77) hK dX6_takesPattern_73 (by decide) ?_
        refine xJ_puti hR hK dX6_takesPattern_77 fX6_140 sX6_24 rfl rfl (by unfold yV; omega) (fun _ _ => rfl) (by decide) rfl (fun h hR => ?_)
        refine mJ_aload_n hK dX6_takesPattern_80 rfl ?_
        refine xJ_getx (nI n) hR hK dX6_takesPattern_81 fX6_137 (by unfold yV; omega) (fun _ _ => rfl) (by decide) rfl (by first | exact hn | (simp [fr, upd]; exact hn) | (simp [fr, upd, tS]; exact hn)) ?_
        refine mJ_nif_le (tgt := 103) hK dX6_takesPattern_84 (by decide) (by omega) (fun c_84 => ?_) (fun c_84 => ?_)
        · refine mJ_iconst (v := nI 0) hK dX6_takesPattern_103 (by decide) ?_
          refine mJ_zret hK dX6_takesPattern_104 rfl (by decide) hZ (by decide) (by decide) ?_
          have e0 : ¬ ((97 ≤ cd ∧ cd ≤ 104) ∧ ¬ nI (cd - 97) ≤ F 30 0 0 27 ∧ n < 4) := by first | exact fun z => c_8 z.1 | exact fun z => z.2.1 c_19 | exact fun z => absurd z.2.2 (by omega)
          first | (exfalso; omega) | (have e9 : mtP F n cd = some (sS F 24 (nI (if cd = 63 then 1 else 5))) := by (rw [mtP, if_neg e0, if_pos ⟨by omega, by omega⟩])) ; (first | rw [if_pos (by omega)] at e9 | rw [if_neg (by omega)] at e9) ; exact ⟨congrArg (fun z => some (Value.int z)) (b1 (by rw [e9]; rfl)), _, hR, pO_s (by omega), fun G' z => by rw [e9] at z; cases z; rfl⟩ | (have e9 : mtP F n cd = none := by (rw [mtP, if_neg e0, if_neg (by omega)])) ; exact ⟨congrArg (fun z => some (Value.int z)) (b0 (by rw [e9]; exact fun z => by cases z)), _, hR, pO_s (by omega), fun G' z => by rw [e9] at z; cases z⟩
        · refine mJ_iload_n hK dX6_takesPattern_87 rfl ?_
          refine mJ_bipush (v := nI 63) hK dX6_takesPattern_88 (by decide) ?_
          refine mJ_neq (tgt := 99) hK dX6_takesPattern_90 (by decide) (by omega) (by omega) (fun c_90 => ?_) (fun c_90 => ?_)
          · refine mJ_iconst (v := nI 1) hK dX6_takesPattern_99 (by decide) ?_
            refine mJ_goto (tgt := 104) hK dX6_takesPattern_100 (by decide) ?_
            refine mJ_zret hK dX6_takesPattern_104 rfl (by decide) hZ (by decide) (by decide) ?_
            have e0 : ¬ ((97 ≤ cd ∧ cd ≤ 104) ∧ ¬ nI (cd - 97) ≤ F 30 0 0 27 ∧ n < 4) := by first | exact fun z => c_8 z.1 | exact fun z => z.2.1 c_19 | exact fun z => absurd z.2.2 (by omega)
            first | (exfalso; omega) | (have e9 : mtP F n cd = some (sS F 24 (nI (if cd = 63 then 1 else 5))) := by (rw [mtP, if_neg e0, if_pos ⟨by omega, by omega⟩])) ; (first | rw [if_pos (by omega)] at e9 | rw [if_neg (by omega)] at e9) ; exact ⟨congrArg (fun z => some (Value.int z)) (b1 (by rw [e9]; rfl)), _, hR, pO_s (by omega), fun G' z => by rw [e9] at z; cases z; rfl⟩ | (have e9 : mtP F n cd = none := by (rw [mtP, if_neg e0, if_neg (by omega)])) ; exact ⟨congrArg (fun z => some (Value.int z)) (b0 (by rw [e9]; exact fun z => by cases z)), _, hR, pO_s (by omega), fun G' z => by rw [e9] at z; cases z⟩
          · refine mJ_iload_n hK dX6_takesPattern_93 rfl ?_
            refine mJ_bipush (v := nI 58) hK dX6_takesPattern_94 (by decide) ?_
            refine mJ_nne (tgt := 103) hK dX6_takesPattern_96 (by decide) (by omega) (by omega) (fun c_96 => ?_) (fun c_96 => ?_)
            · refine mJ_iconst (v := nI 0) hK dX6_takesPattern_103 (by decide) ?_
              refine mJ_zret hK dX6_takesPattern_104 rfl (by decide) hZ (by decide) (by decide) ?_
              have e0 : ¬ ((97 ≤ cd ∧ cd ≤ 104) ∧ ¬ nI (cd - 97) ≤ F 30 0 0 27 ∧ n < 4) := by first | exact fun z => c_8 z.1 | exact fun z => z.2.1 c_19 | exact fun z => absurd z.2.2 (by omega)
              first | (exfalso; omega) | (have e9 : mtP F n cd = some (sS F 24 (nI (if cd = 63 then 1 else 5))) := by (rw [mtP, if_neg e0, if_pos ⟨by omega, by omega⟩])) ; (first | rw [if_pos (by omega)] at e9 | rw [if_neg (by omega)] at e9) ; exact ⟨congrArg (fun z => some (Value.int z)) (b1 (by rw [e9]; rfl)), _, hR, pO_s (by omega), fun G' z => by rw [e9] at z; cases z; rfl⟩ | (have e9 : mtP F n cd = none := by (rw [mtP, if_neg e0, if_neg (by omega)])) ; exact ⟨congrArg (fun z => some (Value.int z)) (b0 (by rw [e9]; exact fun z => by cases z)), _, hR, pO_s (by omega), fun G' z => by rw [e9] at z; cases z⟩
            · refine mJ_iconst (v := nI 1) hK dX6_takesPattern_99 (by decide) ?_
              refine mJ_goto (tgt := 104) hK dX6_takesPattern_100 (by decide) ?_
              refine mJ_zret hK dX6_takesPattern_104 rfl (by decide) hZ (by decide) (by decide) ?_
              have e0 : ¬ ((97 ≤ cd ∧ cd ≤ 104) ∧ ¬ nI (cd - 97) ≤ F 30 0 0 27 ∧ n < 4) := by first | exact fun z => c_8 z.1 | exact fun z => z.2.1 c_19 | exact fun z => absurd z.2.2 (by omega)
              first | (exfalso; omega) | (have e9 : mtP F n cd = some (sS F 24 (nI (if cd = 63 then 1 else 5))) := by (rw [mtP, if_neg e0, if_pos ⟨by omega, by omega⟩])) ; (first | rw [if_pos (by omega)] at e9 | rw [if_neg (by omega)] at e9) ; exact ⟨congrArg (fun z => some (Value.int z)) (b1 (by rw [e9]; rfl)), _, hR, pO_s (by omega), fun G' z => by rw [e9] at z; cases z; rfl⟩ | (have e9 : mtP F n cd = none := by (rw [mtP, if_neg e0, if_neg (by omega)])) ; exact ⟨congrArg (fun z => some (Value.int z)) (b0 (by rw [e9]; exact fun z => by cases z)), _, hR, pO_s (by omega), fun G' z => by rw [e9] at z; cases z⟩
    · refine mJ_aload_n hK dX6_takesPattern_22 rfl ?_
      refine xJ_getx (nI n) hR hK dX6_takesPattern_23 fX6_137 (by unfold yV; omega) (fun _ _ => rfl) (by decide) rfl (by first | exact hn | (simp [fr, upd]; exact hn) | (simp [fr, upd, tS]; exact hn)) ?_
      refine mJ_iconst (v := nI 4) hK dX6_takesPattern_26 (by decide) ?_
      refine mJ_nge (tgt := 65) hK dX6_takesPattern_27 (by decide) (by omega) (by omega) (fun c_27 => ?_) (fun c_27 => ?_)
      · refine mJ_aload_n hK dX6_takesPattern_65 rfl ?_
        refine mJ_iload_n hK dX6_takesPattern_66 rfl ?_
        refine mJ_bipush (v := nI 63) hK dX6_takesPattern_67 (by decide) ?_
        refine mJ_nne (tgt := 76) hK dX6_takesPattern_69 (by decide) (by omega) (by omega) (fun c_69 => ?_) (fun c_69 => ?_)
        · refine mJ_iconst (v := nI 5) hK dX6_takesPattern_76 (by decide) ?_
          refine xJ_puti hR hK dX6_takesPattern_77 fX6_140 sX6_24 rfl rfl (by unfold yV; omega) (fun _ _ => rfl) (by decide) rfl (fun h hR => ?_)
          refine mJ_aload_n hK dX6_takesPattern_80 rfl ?_
          refine xJ_getx (nI n) hR hK dX6_takesPattern_81 fX6_137 (by unfold yV; omega) (fun _ _ => rfl) (by decide) rfl (by first | exact hn | (simp [fr, upd]; exact hn) | (simp [fr, upd, tS]; exact hn)) ?_
          refine mJ_nif_le (tgt := 103) hK dX6_takesPattern_84 (by decide) (by omega) (fun c_84 => ?_) (fun c_84 => ?_)
          · refine mJ_iconst (v := nI 0) hK dX6_takesPattern_103 (by decide) ?_
            refine mJ_zret hK dX6_takesPattern_104 rfl (by decide) hZ (by decide) (by decide) ?_
            have e0 : ¬ ((97 ≤ cd ∧ cd ≤ 104) ∧ ¬ nI (cd - 97) ≤ F 30 0 0 27 ∧ n < 4) := by first | exact fun z => c_8 z.1 | exact fun z => z.2.1 c_19 | exact fun z => absurd z.2.2 (by omega)
            first | (exfalso; omega) | (have e9 : mtP F n cd = some (sS F 24 (nI (if cd = 63 then 1 else 5))) := by (rw [mtP, if_neg e0, if_pos ⟨by omega, by omega⟩])) ; (first | rw [if_pos (by omega)] at e9 | rw [if_neg (by omega)] at e9) ; exact ⟨congrArg (fun z => some (Value.int z)) (b1 (by rw [e9]; rfl)), _, hR, pO_s (by omega), fun G' z => by rw [e9] at z; cases z; rfl⟩ | (have e9 : mtP F n cd = none := by (rw [mtP, if_neg e0, if_neg (by omega)])) ; exact ⟨congrArg (fun z => some (Value.int z)) (b0 (by rw [e9]; exact fun z => by cases z)), _, hR, pO_s (by omega), fun G' z => by rw [e9] at z; cases z⟩
          · refine mJ_iload_n hK dX6_takesPattern_87 rfl ?_
            refine mJ_bipush (v := nI 63) hK dX6_takesPattern_88 (by decide) ?_
            refine mJ_neq (tgt := 99) hK dX6_takesPattern_90 (by decide) (by omega) (by omega) (fun c_90 => ?_) (fun c_90 => ?_)
            · refine mJ_iconst (v := nI 1) hK dX6_takesPattern_99 (by decide) ?_
              refine mJ_goto (tgt := 104) hK dX6_takesPattern_100 (by decide) ?_
              refine mJ_zret hK dX6_takesPattern_104 rfl (by decide) hZ (by decide) (by decide) ?_
              have e0 : ¬ ((97 ≤ cd ∧ cd ≤ 104) ∧ ¬ nI (cd - 97) ≤ F 30 0 0 27 ∧ n < 4) := by first | exact fun z => c_8 z.1 | exact fun z => z.2.1 c_19 | exact fun z => absurd z.2.2 (by omega)
              first | (exfalso; omega) | (have e9 : mtP F n cd = some (sS F 24 (nI (if cd = 63 then 1 else 5))) := by (rw [mtP, if_neg e0, if_pos ⟨by omega, by omega⟩])) ; (first | rw [if_pos (by omega)] at e9 | rw [if_neg (by omega)] at e9) ; exact ⟨congrArg (fun z => some (Value.int z)) (b1 (by rw [e9]; rfl)), _, hR, pO_s (by omega), fun G' z => by rw [e9] at z; cases z; rfl⟩ | (have e9 : mtP F n cd = none := by (rw [mtP, if_neg e0, if_neg (by omega)])) ; exact ⟨congrArg (fun z => some (Value.int z)) (b0 (by rw [e9]; exact fun z => by cases z)), _, hR, pO_s (by omega), fun G' z => by rw [e9] at z; cases z⟩
            · refine mJ_iload_n hK dX6_takesPattern_93 rfl ?_
              refine mJ_bipush (v := nI 58) hK dX6_takesPattern_94 (by decide) ?_
              refine mJ_nne (tgt := 103) hK dX6_takesPattern_96 (by decide) (by omega) (by omega) (fun c_96 => ?_) (fun c_96 => ?_)
              · refine mJ_iconst (v := nI 0) hK dX6_takesPattern_103 (by decide) ?_
                refine mJ_zret hK dX6_takesPattern_104 rfl (by decide) hZ (by decide) (by decide) ?_
                have e0 : ¬ ((97 ≤ cd ∧ cd ≤ 104) ∧ ¬ nI (cd - 97) ≤ F 30 0 0 27 ∧ n < 4) := by first | exact fun z => c_8 z.1 | exact fun z => z.2.1 c_19 | exact fun z => absurd z.2.2 (by omega)
                first | (exfalso; omega) | (have e9 : mtP F n cd = some (sS F 24 (nI (if cd = 63 then 1 else 5))) := by (rw [mtP, if_neg e0, if_pos ⟨by omega, by omega⟩])) ; (first | rw [if_pos (by omega)] at e9 | rw [if_neg (by omega)] at e9) ; exact ⟨congrArg (fun z => some (Value.int z)) (b1 (by rw [e9]; rfl)), _, hR, pO_s (by omega), fun G' z => by rw [e9] at z; cases z; rfl⟩ | (have e9 : mtP F n cd = none := by (rw [mtP, if_neg e0, if_neg (by omega)])) ; exact ⟨congrArg (fun z => some (Value.int z)) (b0 (by rw [e9]; exact fun z => by cases z)), _, hR, pO_s (by omega), fun G' z => by rw [e9] at z; cases z⟩
              · refine mJ_iconst (v := nI 1) hK dX6_takesPattern_99 (by decide) ?_
                refine mJ_goto (tgt := 104) hK dX6_takesPattern_100 (by decide) ?_
                refine mJ_zret hK dX6_takesPattern_104 rfl (by decide) hZ (by decide) (by decide) ?_
                have e0 : ¬ ((97 ≤ cd ∧ cd ≤ 104) ∧ ¬ nI (cd - 97) ≤ F 30 0 0 27 ∧ n < 4) := by first | exact fun z => c_8 z.1 | exact fun z => z.2.1 c_19 | exact fun z => absurd z.2.2 (by omega)
                first | (exfalso; omega) | (have e9 : mtP F n cd = some (sS F 24 (nI (if cd = 63 then 1 else 5))) := by (rw [mtP, if_neg e0, if_pos ⟨by omega, by omega⟩])) ; (first | rw [if_pos (by omega)] at e9 | rw [if_neg (by omega)] at e9) ; exact ⟨congrArg (fun z => some (Value.int z)) (b1 (by rw [e9]; rfl)), _, hR, pO_s (by omega), fun G' z => by rw [e9] at z; cases z; rfl⟩ | (have e9 : mtP F n cd = none := by (rw [mtP, if_neg e0, if_neg (by omega)])) ; exact ⟨congrArg (fun z => some (Value.int z)) (b0 (by rw [e9]; exact fun z => by cases z)), _, hR, pO_s (by omega), fun G' z => by rw [e9] at z; cases z⟩
        · refine mJ_iconst (v := nI 1) hK dX6_takesPattern_72 (by decide) ?_
          refine mJ_goto (tgt := 77) hK dX6_takesPattern_73 (by decide) ?_
          refine xJ_puti hR hK dX6_takesPattern_77 fX6_140 sX6_24 rfl rfl (by unfold yV; omega) (fun _ _ => rfl) (by decide) rfl (fun h hR => ?_)
          refine mJ_aload_n hK dX6_takesPattern_80 rfl ?_
          refine xJ_getx (nI n) hR hK dX6_takesPattern_81 fX6_137 (by unfold yV; omega) (fun _ _ => rfl) (by decide) rfl (by first | exact hn | (simp [fr, upd]; exact hn) | (simp [fr, upd, tS]; exact hn)) ?_
          refine mJ_nif_le (tgt := 103) hK dX6_takesPattern_84 (by decide) (by omega) (fun c_84 => ?_) (fun c_84 => ?_)
          · refine mJ_iconst (v := nI 0) hK dX6_takesPattern_103 (by decide) ?_
            refine mJ_zret hK dX6_takesPattern_104 rfl (by decide) hZ (by decide) (by decide) ?_
            have e0 : ¬ ((97 ≤ cd ∧ cd ≤ 104) ∧ ¬ nI (cd - 97) ≤ F 30 0 0 27 ∧ n < 4) := by first | exact fun z => c_8 z.1 | exact fun z => z.2.1 c_19 | exact fun z => absurd z.2.2 (by omega)
            first | (exfalso; omega) | (have e9 : mtP F n cd = some (sS F 24 (nI (if cd = 63 then 1 else 5))) := by (rw [mtP, if_neg e0, if_pos ⟨by omega, by omega⟩])) ; (first | rw [if_pos (by omega)] at e9 | rw [if_neg (by omega)] at e9) ; exact ⟨congrArg (fun z => some (Value.int z)) (b1 (by rw [e9]; rfl)), _, hR, pO_s (by omega), fun G' z => by rw [e9] at z; cases z; rfl⟩ | (have e9 : mtP F n cd = none := by (rw [mtP, if_neg e0, if_neg (by omega)])) ; exact ⟨congrArg (fun z => some (Value.int z)) (b0 (by rw [e9]; exact fun z => by cases z)), _, hR, pO_s (by omega), fun G' z => by rw [e9] at z; cases z⟩
          · refine mJ_iload_n hK dX6_takesPattern_87 rfl ?_
            refine mJ_bipush (v := nI 63) hK dX6_takesPattern_88 (by decide) ?_
            refine mJ_neq (tgt := 99) hK dX6_takesPattern_90 (by decide) (by omega) (by omega) (fun c_90 => ?_) (fun c_90 => ?_)
            · refine mJ_iconst (v := nI 1) hK dX6_takesPattern_99 (by decide) ?_
              refine mJ_goto (tgt := 104) hK dX6_takesPattern_100 (by decide) ?_
              refine mJ_zret hK dX6_takesPattern_104 rfl (by decide) hZ (by decide) (by decide) ?_
              have e0 : ¬ ((97 ≤ cd ∧ cd ≤ 104) ∧ ¬ nI (cd - 97) ≤ F 30 0 0 27 ∧ n < 4) := by first | exact fun z => c_8 z.1 | exact fun z => z.2.1 c_19 | exact fun z => absurd z.2.2 (by omega)
              first | (exfalso; omega) | (have e9 : mtP F n cd = some (sS F 24 (nI (if cd = 63 then 1 else 5))) := by (rw [mtP, if_neg e0, if_pos ⟨by omega, by omega⟩])) ; (first | rw [if_pos (by omega)] at e9 | rw [if_neg (by omega)] at e9) ; exact ⟨congrArg (fun z => some (Value.int z)) (b1 (by rw [e9]; rfl)), _, hR, pO_s (by omega), fun G' z => by rw [e9] at z; cases z; rfl⟩ | (have e9 : mtP F n cd = none := by (rw [mtP, if_neg e0, if_neg (by omega)])) ; exact ⟨congrArg (fun z => some (Value.int z)) (b0 (by rw [e9]; exact fun z => by cases z)), _, hR, pO_s (by omega), fun G' z => by rw [e9] at z; cases z⟩
            · refine mJ_iload_n hK dX6_takesPattern_93 rfl ?_
              refine mJ_bipush (v := nI 58) hK dX6_takesPattern_94 (by decide) ?_
              refine mJ_nne (tgt := 103) hK dX6_takesPattern_96 (by decide) (by omega) (by omega) (fun c_96 => ?_) (fun c_96 => ?_)
              · refine mJ_iconst (v := nI 0) hK dX6_takesPattern_103 (by decide) ?_
                refine mJ_zret hK dX6_takesPattern_104 rfl (by decide) hZ (by decide) (by decide) ?_
                have e0 : ¬ ((97 ≤ cd ∧ cd ≤ 104) ∧ ¬ nI (cd - 97) ≤ F 30 0 0 27 ∧ n < 4) := by first | exact fun z => c_8 z.1 | exact fun z => z.2.1 c_19 | exact fun z => absurd z.2.2 (by omega)
                first | (exfalso; omega) | (have e9 : mtP F n cd = some (sS F 24 (nI (if cd = 63 then 1 else 5))) := by (rw [mtP, if_neg e0, if_pos ⟨by omega, by omega⟩])) ; (first | rw [if_pos (by omega)] at e9 | rw [if_neg (by omega)] at e9) ; exact ⟨congrArg (fun z => some (Value.int z)) (b1 (by rw [e9]; rfl)), _, hR, pO_s (by omega), fun G' z => by rw [e9] at z; cases z; rfl⟩ | (have e9 : mtP F n cd = none := by (rw [mtP, if_neg e0, if_neg (by omega)])) ; exact ⟨congrArg (fun z => some (Value.int z)) (b0 (by rw [e9]; exact fun z => by cases z)), _, hR, pO_s (by omega), fun G' z => by rw [e9] at z; cases z⟩
              · refine mJ_iconst (v := nI 1) hK dX6_takesPattern_99 (by decide) ?_
                refine mJ_goto (tgt := 104) hK dX6_takesPattern_100 (by decide) ?_
                refine mJ_zret hK dX6_takesPattern_104 rfl (by decide) hZ (by decide) (by decide) ?_
                have e0 : ¬ ((97 ≤ cd ∧ cd ≤ 104) ∧ ¬ nI (cd - 97) ≤ F 30 0 0 27 ∧ n < 4) := by first | exact fun z => c_8 z.1 | exact fun z => z.2.1 c_19 | exact fun z => absurd z.2.2 (by omega)
                first | (exfalso; omega) | (have e9 : mtP F n cd = some (sS F 24 (nI (if cd = 63 then 1 else 5))) := by (rw [mtP, if_neg e0, if_pos ⟨by omega, by omega⟩])) ; (first | rw [if_pos (by omega)] at e9 | rw [if_neg (by omega)] at e9) ; exact ⟨congrArg (fun z => some (Value.int z)) (b1 (by rw [e9]; rfl)), _, hR, pO_s (by omega), fun G' z => by rw [e9] at z; cases z; rfl⟩ | (have e9 : mtP F n cd = none := by (rw [mtP, if_neg e0, if_neg (by omega)])) ; exact ⟨congrArg (fun z => some (Value.int z)) (b0 (by rw [e9]; exact fun z => by cases z)), _, hR, pO_s (by omega), fun G' z => by rw [e9] at z; cases z⟩
      · refine mJ_aload_n hK dX6_takesPattern_30 rfl ?_
        refine mJ_dup hK dX6_takesPattern_31 rfl ?_
        refine xJ_geti hR hK dX6_takesPattern_32 fX6_127 (by unfold yV; omega) (fun _ _ => rfl) (by decide) rfl ?_
        refine mJ_iconst (v := nI 1) hK dX6_takesPattern_35 (by decide) ?_
        refine mJ_iload_n hK dX6_takesPattern_36 rfl ?_
        refine mJ_bipush (v := nI 97) hK dX6_takesPattern_37 (by decide) ?_
        refine mJ_isubN hK dX6_takesPattern_39 (by omega) ?_
        refine mJ_ishl hK dX6_takesPattern_40 ?_
        refine mJ_ior hK dX6_takesPattern_41 ?_
        refine xJ_puti hR hK dX6_takesPattern_42 fX6_127 sX6_25 rfl rfl (by unfold yV; omega) (fun _ _ => rfl) (by decide) rfl (fun h hR => ?_)
        refine mJ_aload_n hK dX6_takesPattern_45 rfl ?_
        refine mJ_iload_n hK dX6_takesPattern_46 rfl ?_
        refine mJ_bipush (v := nI 97) hK dX6_takesPattern_47 (by decide) ?_
        refine mJ_isubN hK dX6_takesPattern_49 (by omega) ?_
        refine xJ_puti hR hK dX6_takesPattern_50 fX6_134 sX6_27 rfl rfl (by unfold yV; omega) (fun _ _ => rfl) (by decide) rfl (fun h hR => ?_)
        refine mJ_aload_n hK dX6_takesPattern_53 rfl ?_
        refine mJ_dup hK dX6_takesPattern_54 rfl ?_
        refine xJ_getx (nI n) hR hK dX6_takesPattern_55 fX6_137 (by unfold yV; omega) (fun _ _ => rfl) (by decide) rfl (by first | exact hn | (simp [fr, upd]; exact hn) | (simp [fr, upd, tS]; exact hn)) ?_
        refine mJ_iconst (v := nI 1) hK dX6_takesPattern_58 (by decide) ?_
        refine mJ_iaddN hK dX6_takesPattern_59 ?_
        refine xJ_puti hR hK dX6_takesPattern_60 fX6_137 sX6_26 rfl rfl (by unfold yV; omega) (fun _ _ => rfl) (by decide) rfl (fun h hR => ?_)
        refine mJ_iconst (v := nI 1) hK dX6_takesPattern_63 (by decide) ?_
        refine mJ_zret hK dX6_takesPattern_64 rfl (by decide) hZ (by decide) (by decide) ?_
        have e9 : mtP F n cd = some _ := if_pos ⟨c_8, c_19, c_27⟩
        refine ⟨congrArg (fun z => some (Value.int z)) (b1 (by rw [e9]; rfl)), _, hR, ?_, fun G' z => by rw [e9] at z; cases z; rfl⟩
        exact pO_tr (pO_tr (pO_s (by omega)) (pO_s (by omega))) (pO_s (by omega))
