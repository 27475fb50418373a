theorem mMet_mono {l : Launch} {D : va_G} {aC : Nat → ClassId} {μ : mM} {Pc : Array Value → State → Prop} {Q Q' : Option Value → mH → Prop} {A free : Nat → Prop} {mc ms : Nat} (h : Met l μ.1 (mWs μ) (mRm μ) Pc (mQc D aC Q A) mc ms free) (hq : ∀ r h', Q r h' → Q' r h') : Met l μ.1 (mWs μ) (mRm μ) Pc (mQc D aC Q' A) mc ms free := by
  intro p e ha hc hk s m args below hf hp hP h9
  obtain ⟨t, o, s1, s2, s3, s4, s5⟩ := h p e ha hc hk s m args below hf hp hP h9
  obtain ⟨r, h', e1, e2, e3⟩ := s4
  exact ⟨t, o, s1, s2, s3, ⟨r, h', e1, hq r h' e2, e3⟩, s5⟩
def xGo (F : xFm) (x : Int32) : xFm := fr F 2 0 0 (upd (F 2 0 0) 1 x)
theorem let_iff {cd : Nat} (h : cd < 1000) : (0 ≤ nI cd - nI 97 ∧ nI cd - nI 97 < nI 8) ↔ (97 ≤ cd ∧ cd < 105) := by
  simp only [Int32.le_iff_toInt_le, Int32.lt_iff_toInt_lt, bi8, bi0, pk_sub_toInt (a := cd) (b := 97) (by omega) (by omega)]
  omega
def opN (p : Int32) (cd : Nat) : Option Nat := if 48 ≤ cd ∧ cd ≤ 57 then some (8 + cd - 48) else if (97 ≤ cd ∧ cd < 105) ∧ usP p (nI (cd - 97)) then some (cd - 97) else none
def opI : Option Nat → Int32
  | some a => nI a
  | none => -1
theorem opN_lt {p : Int32} {cd a : Nat} (h : opN p cd = some a) : a < 18 := by
  unfold opN at h
  split at h
  · cases h; omega
  · split at h
    · cases h; omega
    · cases h
def apP (F : xFm) (r cd : Nat) : Option xFm :=
  if 97 ≤ cd ∧ cd < 105 then (if F 17 r 0 0 >>> (nI (cd - 97) &&& 31) = 0 then (if bcI (F 17 r 0 0) < nI 4 then some (fr F 17 r 0 (upd (F 17 r 0) 0 (F 17 r 0 0 ||| nI 1 <<< (nI (cd - 97) &&& 31)))) else none) else none)
  else if F 17 r 0 0 = 0 then none else if cd = 63 then some (xGo F (nI 1)) else if cd = 58 then some (xGo F (nI 5)) else none
def agP (F : xFm) (cd : Nat) : Option xFm := if cd = 60 ∨ cd = 61 ∨ cd = 62 then some (xGo (fr F 2 0 0 (upd (F 2 0 0) 3 (nI cd))) (nI 3)) else none
def atP (F : xFm) (r m cd : Nat) : Option xFm := if cd = 33 then some (xGo F (nI 7)) else if 97 ≤ cd ∧ cd < 105 then some (xGo (xAo F r m (nI (cd - 97)) (nI 0)) (nI 8)) else none
def arP (F : xFm) (r m cd : Nat) : Option xFm := if (97 ≤ cd ∧ cd < 105) ∧ cd - 97 < 4 ∧ usP (F 17 r 0 0) (nI (cd - 97)) ∧ ¬ usP (F 17 r 0 4) (nI (cd - 97)) then some (xGo (xAr F r m (nI (cd - 97)) (nI 1)) (nI 8)) else none
def abP (F : xFm) (m k cd : Nat) : Option xFm := if cd = 44 then (if m < 4 then some (xGo F (nI 6)) else none) else if (cd = 43 ∨ cd = 45 ∨ cd = 42) ∧ k < 3 then some (xGo (fr F 2 0 0 (upd (F 2 0 0) 3 (nI cd))) (nI 9)) else none
def acP (F : xFm) (cd : Nat) : Option xFm := if cd = 58 then some (xGo F (nI 5)) else none
def aeP (F : xFm) (cd : Nat) : Option xFm := if cd = 61 then some (xGo (fr F 2 0 0 (upd (F 2 0 0) 3 (nI 43))) (nI 9)) else none
def ao1 (F : xFm) (a : Nat) : xFm := xGo (fr F 2 0 0 (upd (F 2 0 0) 2 (nI a))) (nI 2)
def ao3 (F : xFm) (r a : Nat) : xFm := xGo (xSg F r (F 2 0 0 2) (F 2 0 0 3) (nI a)) (nI 4)
def ao9 (F : xFm) (r m k a : Nat) : xFm := xGo (xAp F r m k (F 2 0 0 3) (nI a)) (nI 10)
set_option maxRecDepth 100000 in
set_option maxHeartbeats 4000000 in
theorem k_X2_isLetter {l : Launch} {D : va_G} {aC : Nat → ClassId} {h : mH} {cd : Nat} (hcd : cd < 1000) : mCon l D aC mX2_isLetter [.int (nI cd)] h (mRi (bI (97 ≤ cd ∧ cd < 105)) (fun h' => h' = h)) := by
  refine mCon.of [some (.int (nI cd))] (by decide +kernel) rfl (Nat.le_of_ble_eq_true rfl) ?_
  intro K el eD eC hK hZ
  subst el eD eC
  refine mJ_iload_n hK dX2_isLetter_0 rfl ?_
  refine mJ_bipush (v := nI 97) hK dX2_isLetter_1 (by decide) ?_
  refine mJ_isub hK dX2_isLetter_3 ?_
  refine mJ_cNi hK dX2_isLetter_4 lX2_100 (by unfold mFit; decide) (by decide) (k_X5_isChannel _) rfl rfl (Nat.le_of_ble_eq_true rfl) (fun h e9 => ?_)
  subst e9
  refine mJ_zret hK dX2_isLetter_7 rfl bI_nar hZ (by decide) (by decide) ?_
  exact ⟨congrArg (fun z => some (Value.int z)) (bI_iff (let_iff hcd)), rfl⟩

set_option maxRecDepth 100000 in
set_option maxHeartbeats 4000000 in
theorem k_X2_goTo {l : Launch} {D : va_G} {aC : Nat → ClassId} {ad : xAd} {h0 h : mH} {F : xFm} {W : xWm} {pm : Nat → Nat} (hR : xR xV ad h0 F W pm h) (x : Int32) : mCon l D aC mX2_goTo [.ref (ad 2 0 0), .int x] h (mRi (nI 1) (fun h' => xR xV ad h0 (xGo F x) W pm h')) := by
  refine mCon.of [some (.ref (ad 2 0 0)), some (.int x)] (by decide +kernel) rfl (Nat.le_of_ble_eq_true rfl) ?_
  intro K el eD eC hK hZ
  subst el eD eC
  refine mJ_aload_n hK dX2_goTo_0 rfl ?_
  refine mJ_iload_n hK dX2_goTo_1 rfl ?_
  refine xJ_puti hR hK dX2_goTo_2 fX2_21 sX2_1 rfl rfl (by unfold xV; omega) (fun _ _ => rfl) (by decide) rfl (fun h hR => ?_)
  refine mJ_iconst (v := nI 1) hK dX2_goTo_5 (by decide) ?_
  refine mJ_zret hK dX2_goTo_6 rfl (by decide) hZ (by decide) (by decide) ?_
  exact ⟨rfl, hR⟩

set_option maxRecDepth 100000 in
set_option maxHeartbeats 4000000 in
theorem k_X2_goToOperand {l : Launch} {D : va_G} {aC : Nat → ClassId} {ad : xAd} {h0 h : mH} {F : xFm} {W : xWm} {pm : Nat → Nat} (hR : xR xV ad h0 F W pm h) (x : Int32) : mCon l D aC mX2_goToOperand [.ref (ad 2 0 0), .int x] h (mRi (nI 1) (fun h' => xR xV ad h0 (xGo (fr F 2 0 0 (upd (F 2 0 0) 3 x)) (nI 9)) W pm h')) := by
  refine mCon.of [some (.ref (ad 2 0 0)), some (.int x)] (by decide +kernel) rfl (Nat.le_of_ble_eq_true rfl) ?_
  intro K el eD eC hK hZ
  subst el eD eC
  refine mJ_aload_n hK dX2_goToOperand_0 rfl ?_
  refine mJ_iload_n hK dX2_goToOperand_1 rfl ?_
  refine xJ_puti hR hK dX2_goToOperand_2 fX2_54 sX2_3 rfl rfl (by unfold xV; omega) (fun _ _ => rfl) (by decide) rfl (fun h hR => ?_)
  refine mJ_aload_n hK dX2_goToOperand_5 rfl ?_
  refine mJ_bipush (v := nI 9) hK dX2_goToOperand_6 (by decide) ?_
  refine mJ_cVi hK dX2_goToOperand_8 lX2_39 (by unfold mFit; decide) (by decide) (k_X2_goTo hR _) rfl rfl (Nat.le_of_ble_eq_true rfl) (hR.1 _ _ _ (by unfold xV; omega)) ⟨_, _, rfl⟩ (fun h hR => ?_)
  refine mJ_zret hK dX2_goToOperand_11 rfl (by decide) hZ (by decide) (by decide) ?_
  exact ⟨rfl, hR⟩

set_option maxRecDepth 100000 in
set_option maxHeartbeats 4000000 in
theorem k_X2_operandOf {l : Launch} {D : va_G} {aC : Nat → ClassId} {ad : xAd} {h0 h : mH} {F : xFm} {W : xWm} {pm : Nat → Nat} (hR : xR xV ad h0 F W pm h) (hr : pm 8 < 9) {cd : Nat} (hcd : cd < 1000) : mCon l D aC mX2_operandOf [.ref (ad 2 0 0), .int (nI cd)] h (mRi (opI (opN (F 17 (pm 8) 0 0) cd)) (fun h' => h' = h)) := by
  refine mCon.of [some (.ref (ad 2 0 0)), some (.int (nI cd))] (by decide +kernel) rfl (Nat.le_of_ble_eq_true rfl) ?_
  intro K el eD eC hK hZ
  subst el eD eC
  refine mJ_iload_n hK dX2_operandOf_0 rfl ?_
  refine mJ_bipush (v := nI 48) hK dX2_operandOf_1 (by decide) ?_
  refine mJ_nlt (tgt := 20) hK dX2_operandOf_3 (by decide) (by omega) (by omega) (fun c_3 => ?_) (fun c_3 => ?_)
  · refine mJ_iload_n hK dX2_operandOf_20 rfl ?_
    refine mJ_cSi hK dX2_operandOf_21 lX2_57 (by unfold mFit; decide) (by decide) (k_X2_isLetter hcd) rfl rfl (Nat.le_of_ble_eq_true rfl) (fun h e9 => ?_)
    subst e9
    refine mJ_ifb_eq (tgt := 48) hK dX2_operandOf_24 (by decide) (fun c_24 => ?_) (fun c_24 => ?_)
    · refine mJ_iconst (v := -1) hK dX2_operandOf_48 (by decide) ?_
      refine mJ_iret hK dX2_operandOf_49 rfl hZ (by decide) (by decide) ?_
      refine ⟨congrArg (fun z => some (Value.int z)) ?_, rfl⟩
      unfold opN
      first | (rw [if_pos (by omega)]; rfl) | (rw [if_neg (by omega), if_pos ⟨by omega, by assumption⟩]; rfl) | (rw [if_neg (by omega), if_neg (by rintro ⟨h1, h2⟩; first | omega | contradiction)]; rfl)
    · refine mJ_aload_n hK dX2_operandOf_27 rfl ?_
      refine xJ_getr hR hK dX2_operandOf_28 fX2_12 (by unfold xV; omega) (fun _ _ => rfl) (by decide) (fun _ _ => rfl) ?_
      refine mJ_iload_n hK dX2_operandOf_31 rfl ?_
      refine mJ_bipush (v := nI 97) hK dX2_operandOf_32 (by decide) ?_
      refine mJ_isubN hK dX2_operandOf_34 (by omega) ?_
      refine mJ_cVi hK dX2_operandOf_35 lX2_87 (by unfold mFit; decide) (by decide) (k_X1_uses hR hr _) rfl rfl (Nat.le_of_ble_eq_true rfl) (hR.1 _ _ _ (by unfold xV; omega)) ⟨_, _, rfl⟩ (fun h e9 => ?_)
      subst e9
      refine mJ_ifb_eq (tgt := 48) hK dX2_operandOf_38 (by decide) (fun c_38 => ?_) (fun c_38 => ?_)
      · refine mJ_iconst (v := -1) hK dX2_operandOf_48 (by decide) ?_
        refine mJ_iret hK dX2_operandOf_49 rfl hZ (by decide) (by decide) ?_
        refine ⟨congrArg (fun z => some (Value.int z)) ?_, rfl⟩
        unfold opN
        first | (rw [if_pos (by omega)]; rfl) | (rw [if_neg (by omega), if_pos ⟨by omega, by assumption⟩]; rfl) | (rw [if_neg (by omega), if_neg (by rintro ⟨h1, h2⟩; first | omega | contradiction)]; rfl)
      · refine mJ_iload_n hK dX2_operandOf_41 rfl ?_
        refine mJ_bipush (v := nI 97) hK dX2_operandOf_42 (by decide) ?_
        refine mJ_isubN hK dX2_operandOf_44 (by omega) ?_
        refine mJ_goto (tgt := 49) hK dX2_operandOf_45 (by decide) ?_
        refine mJ_iret hK dX2_operandOf_49 rfl hZ (by decide) (by decide) ?_
        refine ⟨congrArg (fun z => some (Value.int z)) ?_, rfl⟩
        unfold opN
        first | (rw [if_pos (by omega)]; rfl) | (rw [if_neg (by omega), if_pos ⟨by omega, by assumption⟩]; rfl) | (rw [if_neg (by omega), if_neg (by rintro ⟨h1, h2⟩; first | omega | contradiction)]; rfl)
  · refine mJ_iload_n hK dX2_operandOf_6 rfl ?_
    refine mJ_bipush (v := nI 57) hK dX2_operandOf_7 (by decide) ?_
    refine mJ_ngt (tgt := 20) hK dX2_operandOf_9 (by decide) (by omega) (by omega) (fun c_9 => ?_) (fun c_9 => ?_)
    · refine mJ_iload_n hK dX2_operandOf_20 rfl ?_
      refine mJ_cSi hK dX2_operandOf_21 lX2_57 (by unfold mFit; decide) (by decide) (k_X2_isLetter hcd) rfl rfl (Nat.le_of_ble_eq_true rfl) (fun h e9 => ?_)
      subst e9
      refine mJ_ifb_eq (tgt := 48) hK dX2_operandOf_24 (by decide) (fun c_24 => ?_) (fun c_24 => ?_)
      · refine mJ_iconst (v := -1) hK dX2_operandOf_48 (by decide) ?_
        refine mJ_iret hK dX2_operandOf_49 rfl hZ (by decide) (by decide) ?_
        refine ⟨congrArg (fun z => some (Value.int z)) ?_, rfl⟩
        unfold opN
        first | (rw [if_pos (by omega)]; rfl) | (rw [if_neg (by omega), if_pos ⟨by omega, by assumption⟩]; rfl) | (rw [if_neg (by omega), if_neg (by rintro ⟨h1, h2⟩; first | omega | contradiction)]; rfl)
      · refine mJ_aload_n hK dX2_operandOf_27 rfl ?_
        refine xJ_getr hR hK dX2_operandOf_28 fX2_12 (by unfold xV; omega) (fun _ _ => rfl) (by decide) (fun _ _ => rfl) ?_
        refine mJ_iload_n hK dX2_operandOf_31 rfl ?_
        refine mJ_bipush (v := nI 97) hK dX2_operandOf_32 (by decide) ?_
        refine mJ_isubN hK dX2_operandOf_34 (by omega) ?_
        refine mJ_cVi hK dX2_operandOf_35 lX2_87 (by unfold mFit; decide) (by decide) (k_X1_uses hR hr _) rfl rfl (Nat.le_of_ble_eq_true rfl) (hR.1 _ _ _ (by unfold xV; omega)) ⟨_, _, rfl⟩ (fun h e9 => ?_)
        subst e9
        refine mJ_ifb_eq (tgt := 48) hK dX2_operandOf_38 (by decide) (fun c_38 => ?_) (fun c_38 => ?_)
        · refine mJ_iconst (v := -1) hK dX2_operandOf_48 (by decide) ?_
          refine mJ_iret hK dX2_operandOf_49 rfl hZ (by decide) (by decide) ?_
          refine ⟨congrArg (fun z => some (Value.int z)) ?_, rfl⟩
          unfold opN
          first | (rw [if_pos (by omega)]; rfl) | (rw [if_neg (by omega), if_pos ⟨by omega, by assumption⟩]; rfl) | (rw [if_neg (by omega), if_neg (by rintro ⟨h1, h2⟩; first | omega | contradiction)]; rfl)
        · refine mJ_iload_n hK dX2_operandOf_41 rfl ?_
          refine mJ_bipush (v := nI 97) hK dX2_operandOf_42 (by decide) ?_
          refine mJ_isubN hK dX2_operandOf_44 (by omega) ?_
          refine mJ_goto (tgt := 49) hK dX2_operandOf_45 (by decide) ?_
          refine mJ_iret hK dX2_operandOf_49 rfl hZ (by decide) (by decide) ?_
          refine ⟨congrArg (fun z => some (Value.int z)) ?_, rfl⟩
          unfold opN
          first | (rw [if_pos (by omega)]; rfl) | (rw [if_neg (by omega), if_pos ⟨by omega, by assumption⟩]; rfl) | (rw [if_neg (by omega), if_neg (by rintro ⟨h1, h2⟩; first | omega | contradiction)]; rfl)
    · refine mJ_bipush (v := nI 8) hK dX2_operandOf_12 (by decide) ?_
      refine mJ_iload_n hK dX2_operandOf_14 rfl ?_
      refine mJ_iaddN hK dX2_operandOf_15 ?_
      refine mJ_bipush (v := nI 48) hK dX2_operandOf_16 (by decide) ?_
      refine mJ_isubN hK dX2_operandOf_18 (by omega) ?_
      refine mJ_iret hK dX2_operandOf_19 rfl hZ (by decide) (by decide) ?_
      refine ⟨congrArg (fun z => some (Value.int z)) ?_, rfl⟩
      unfold opN
      first | (rw [if_pos (by omega)]; rfl) | (rw [if_neg (by omega), if_pos ⟨by omega, by assumption⟩]; rfl) | (rw [if_neg (by omega), if_neg (by rintro ⟨h1, h2⟩; first | omega | contradiction)]; rfl)

set_option maxRecDepth 100000 in
set_option maxHeartbeats 4000000 in
theorem k_X2_acceptInPattern {l : Launch} {D : va_G} {aC : Nat → ClassId} {ad : xAd} {h0 h : mH} {F : xFm} {W : xWm} {pm : Nat → Nat} (hR : xR xV ad h0 F W pm h) (hr : pm 8 < 9) {cd : Nat} (hcd : cd < 1000) : mCon l D aC mX2_acceptInPattern [.ref (ad 2 0 0), .int (nI cd)] h (mRi (bI ((apP F (pm 8) cd).isSome = true)) (fun h' => xR xV ad h0 ((apP F (pm 8) cd).getD F) W pm h')) := by
  refine mCon.of [some (.ref (ad 2 0 0)), some (.int (nI cd)), none] (by decide +kernel) rfl (Nat.le_of_ble_eq_true rfl) ?_
  intro K el eD eC hK hZ
  subst el eD eC
  refine mJ_iload_n hK dX2_acceptInPattern_0 rfl ?_
  refine mJ_cSi hK dX2_acceptInPattern_1 lX2_57 (by unfold mFit; decide) (by decide) (k_X2_isLetter hcd) rfl rfl (Nat.le_of_ble_eq_true rfl) (fun h e9 => ?_)
  subst e9
  refine mJ_ifb_eq (tgt := 50) hK dX2_acceptInPattern_4 (by decide) (fun c_4 => ?_) (fun c_4 => ?_)
  · refine mJ_aload_n hK dX2_acceptInPattern_50 rfl ?_
    refine xJ_getr hR hK dX2_acceptInPattern_51 fX2_12 (by unfold xV; omega) (fun _ _ => rfl) (by decide) (fun _ _ => rfl) ?_
    refine xJ_geti hR hK dX2_acceptInPattern_54 fX2_60 (by unfold xV; omega) (fun _ _ => rfl) (by decide) rfl ?_
    refine mJ_if_ne (tgt := 62) hK dX2_acceptInPattern_57 (by decide) (fun c_57 => ?_) (fun c_57 => ?_)
    · refine mJ_iload_n hK dX2_acceptInPattern_62 rfl ?_
      refine mJ_bipush (v := nI 63) hK dX2_acceptInPattern_63 (by decide) ?_
      refine mJ_nne (tgt := 74) hK dX2_acceptInPattern_65 (by decide) (by omega) (by omega) (fun c_65 => ?_) (fun c_65 => ?_)
      · refine mJ_iload_n hK dX2_acceptInPattern_74 rfl ?_
        refine mJ_bipush (v := nI 58) hK dX2_acceptInPattern_75 (by decide) ?_
        refine mJ_nne (tgt := 92) hK dX2_acceptInPattern_77 (by decide) (by omega) (by omega) (fun c_77 => ?_) (fun c_77 => ?_)
        · refine mJ_iconst (v := nI 0) hK dX2_acceptInPattern_92 (by decide) ?_
          refine mJ_zret hK dX2_acceptInPattern_93 rfl (by decide) hZ (by decide) (by decide) ?_
          refine ⟨congrArg (fun z => some (Value.int z)) ?_, xR_ext hR ?_⟩
          · simp only [apP, c_4, c_57, c_65, c_77, ↓reduceIte, or_true, true_or, or_self, and_self, and_true, true_and, and_false, false_and, not_true_eq_false, not_false_eq_true, or_false, false_or]
            first | exact (bI_t rfl).symm | exact (bI_f (fun z => by cases z)).symm
          · simp only [apP, c_4, c_57, c_65, c_77, ↓reduceIte, or_true, true_or, or_self, and_self, and_true, true_and, and_false, false_and, not_true_eq_false, not_false_eq_true, or_false, false_or]
            rfl
        · refine mJ_aload_n hK dX2_acceptInPattern_80 rfl ?_
          refine mJ_iconst (v := nI 5) hK dX2_acceptInPattern_81 (by decide) ?_
          refine mJ_cVi hK dX2_acceptInPattern_82 lX2_39 (by unfold mFit; decide) (by decide) (k_X2_goTo hR _) rfl rfl (Nat.le_of_ble_eq_true rfl) (hR.1 _ _ _ (by unfold xV; omega)) ⟨_, _, rfl⟩ (fun h hR => ?_)
          refine mJ_nif_eq (tgt := 92) hK dX2_acceptInPattern_85 (by decide) (by omega) (fun c_85 => ?_) (fun c_85 => ?_)
          · exact absurd c_85 (by omega)
          · refine mJ_iconst (v := nI 1) hK dX2_acceptInPattern_88 (by decide) ?_
            refine mJ_goto (tgt := 93) hK dX2_acceptInPattern_89 (by decide) ?_
            refine mJ_zret hK dX2_acceptInPattern_93 rfl (by decide) hZ (by decide) (by decide) ?_
            refine ⟨congrArg (fun z => some (Value.int z)) ?_, xR_ext hR ?_⟩
            · simp only [apP, c_4, c_57, c_65, c_77, c_85, ↓reduceIte, or_true, true_or, or_self, and_self, and_true, true_and, and_false, false_and, not_true_eq_false, not_false_eq_true, or_false, false_or]
              first | exact (bI_t rfl).symm | exact (bI_f (fun z => by cases z)).symm
            · simp only [apP, c_4, c_57, c_65, c_77, c_85, ↓reduceIte, or_true, true_or, or_self, and_self, and_true, true_and, and_false, false_and, not_true_eq_false, not_false_eq_true, or_false, false_or]
              rfl
      · refine mJ_aload_n hK dX2_acceptInPattern_68 rfl ?_
        refine mJ_iconst (v := nI 1) hK dX2_acceptInPattern_69 (by decide) ?_
        refine mJ_cVi hK dX2_acceptInPattern_70 lX2_39 (by unfold mFit; decide) (by decide) (k_X2_goTo hR _) rfl rfl (Nat.le_of_ble_eq_true rfl) (hR.1 _ _ _ (by unfold xV; omega)) ⟨_, _, rfl⟩ (fun h hR => ?_)
        refine mJ_zret hK dX2_acceptInPattern_73 rfl (by decide) hZ (by decide) (by decide) ?_
        refine ⟨congrArg (fun z => some (Value.int z)) ?_, xR_ext hR ?_⟩
        · simp only [apP, c_4, c_57, c_65, ↓reduceIte, or_true, true_or, or_self, and_self, and_true, true_and, and_false, false_and, not_true_eq_false, not_false_eq_true, or_false, false_or]
          first | exact (bI_t rfl).symm | exact (bI_f (fun z => by cases z)).symm
        · simp only [apP, c_4, c_57, c_65, ↓reduceIte, or_true, true_or, or_self, and_self, and_true, true_and, and_false, false_and, not_true_eq_false, not_false_eq_true, or_false, false_or]
          rfl
    · refine mJ_iconst (v := nI 0) hK dX2_acceptInPattern_60 (by decide) ?_
      refine mJ_zret hK dX2_acceptInPattern_61 rfl (by decide) hZ (by decide) (by decide) ?_
      refine ⟨congrArg (fun z => some (Value.int z)) ?_, xR_ext hR ?_⟩
      · simp only [apP, c_4, c_57, ↓reduceIte, or_true, true_or, or_self, and_self, and_true, true_and, and_false, false_and, not_true_eq_false, not_false_eq_true, or_false, false_or]
        first | exact (bI_t rfl).symm | exact (bI_f (fun z => by cases z)).symm
      · simp only [apP, c_4, c_57, ↓reduceIte, or_true, true_or, or_self, and_self, and_true, true_and, and_false, false_and, not_true_eq_false, not_false_eq_true, or_false, false_or]
        rfl
  · refine mJ_iload_n hK dX2_acceptInPattern_7 rfl ?_
    refine mJ_bipush (v := nI 97) hK dX2_acceptInPattern_8 (by decide) ?_
    refine mJ_isubN hK dX2_acceptInPattern_10 (by omega) ?_
    refine mJ_istore_n hK dX2_acceptInPattern_11 (by decide) rfl ?_
    refine mJ_aload_n hK dX2_acceptInPattern_12 rfl ?_
    refine xJ_getr hR hK dX2_acceptInPattern_13 fX2_12 (by unfold xV; omega) (fun _ _ => rfl) (by decide) (fun _ _ => rfl) ?_
    refine xJ_geti hR hK dX2_acceptInPattern_16 fX2_60 (by unfold xV; omega) (fun _ _ => rfl) (by decide) rfl ?_
    refine mJ_iload_n hK dX2_acceptInPattern_19 rfl ?_
    refine mJ_ishr hK dX2_acceptInPattern_20 ?_
    refine mJ_if_ne (tgt := 38) hK dX2_acceptInPattern_21 (by decide) (fun c_21 => ?_) (fun c_21 => ?_)
    · refine mJ_iconst (v := nI 0) hK dX2_acceptInPattern_38 (by decide) ?_
      refine mJ_zret hK dX2_acceptInPattern_39 rfl (by decide) hZ (by decide) (by decide) ?_
      refine ⟨congrArg (fun z => some (Value.int z)) ?_, xR_ext hR ?_⟩
      · simp only [apP, c_4, c_21, ↓reduceIte, or_true, true_or, or_self, and_self, and_true, true_and, and_false, false_and, not_true_eq_false, not_false_eq_true, or_false, false_or]
        first | exact (bI_t rfl).symm | exact (bI_f (fun z => by cases z)).symm
      · simp only [apP, c_4, c_21, ↓reduceIte, or_true, true_or, or_self, and_self, and_true, true_and, and_false, false_and, not_true_eq_false, not_false_eq_true, or_false, false_or]
        rfl
    · refine mJ_aload_n hK dX2_acceptInPattern_24 rfl ?_
      refine xJ_getr hR hK dX2_acceptInPattern_25 fX2_12 (by unfold xV; omega) (fun _ _ => rfl) (by decide) (fun _ _ => rfl) ?_
      refine xJ_geti hR hK dX2_acceptInPattern_28 fX2_60 (by unfold xV; omega) (fun _ _ => rfl) (by decide) rfl ?_
      refine mJ_cSi hK dX2_acceptInPattern_31 lX2_63 (by unfold mFit; decide) (by decide) (k_J6_bitCount _) rfl rfl (Nat.le_of_ble_eq_true rfl) (fun h e9 => ?_)
      subst e9
      refine mJ_iconst (v := nI 4) hK dX2_acceptInPattern_34 (by decide) ?_
      refine mJ_icmp_lt (tgt := 40) hK dX2_acceptInPattern_35 (by decide) (fun c_35 => ?_) (fun c_35 => ?_)
      · refine mJ_aload_n hK dX2_acceptInPattern_40 rfl ?_
        refine xJ_getr hR hK dX2_acceptInPattern_41 fX2_12 (by unfold xV; omega) (fun _ _ => rfl) (by decide) (fun _ _ => rfl) ?_
        refine mJ_iload_n hK dX2_acceptInPattern_44 rfl ?_
        refine mJ_cVv hK dX2_acceptInPattern_45 lX2_68 (by unfold mFit; decide) (by decide) (k_X1_addChannel hR hr _) rfl rfl (Nat.le_of_ble_eq_true rfl) (hR.1 _ _ _ (by unfold xV; omega)) ⟨_, _, rfl⟩ (fun h hR => ?_)
        refine mJ_iconst (v := nI 1) hK dX2_acceptInPattern_48 (by decide) ?_
        refine mJ_zret hK dX2_acceptInPattern_49 rfl (by decide) hZ (by decide) (by decide) ?_
        refine ⟨congrArg (fun z => some (Value.int z)) ?_, xR_ext hR ?_⟩
        · simp only [apP, c_4, c_21, c_35, ↓reduceIte, or_true, true_or, or_self, and_self, and_true, true_and, and_false, false_and, not_true_eq_false, not_false_eq_true, or_false, false_or]
          first | exact (bI_t rfl).symm | exact (bI_f (fun z => by cases z)).symm
        · simp only [apP, c_4, c_21, c_35, ↓reduceIte, or_true, true_or, or_self, and_self, and_true, true_and, and_false, false_and, not_true_eq_false, not_false_eq_true, or_false, false_or]
          rfl
      · refine mJ_iconst (v := nI 0) hK dX2_acceptInPattern_38 (by decide) ?_
        refine mJ_zret hK dX2_acceptInPattern_39 rfl (by decide) hZ (by decide) (by decide) ?_
        refine ⟨congrArg (fun z => some (Value.int z)) ?_, xR_ext hR ?_⟩
        · simp only [apP, c_4, c_21, c_35, ↓reduceIte, or_true, true_or, or_self, and_self, and_true, true_and, and_false, false_and, not_true_eq_false, not_false_eq_true, or_false, false_or]
          first | exact (bI_t rfl).symm | exact (bI_f (fun z => by cases z)).symm
        · simp only [apP, c_4, c_21, c_35, ↓reduceIte, or_true, true_or, or_self, and_self, and_true, true_and, and_false, false_and, not_true_eq_false, not_false_eq_true, or_false, false_or]
          rfl

set_option maxRecDepth 100000 in
set_option maxHeartbeats 4000000 in
theorem k_X2_acceptGuardSign {l : Launch} {D : va_G} {aC : Nat → ClassId} {ad : xAd} {h0 h : mH} {F : xFm} {W : xWm} {pm : Nat → Nat} (hR : xR xV ad h0 F W pm h) (hr : pm 8 < 9) {cd : Nat} (hcd : cd < 1000) : mCon l D aC mX2_acceptGuardSign [.ref (ad 2 0 0), .int (nI cd)] h (mRi (bI ((agP F cd).isSome = true)) (fun h' => xR xV ad h0 ((agP F cd).getD F) W pm h')) := by
  refine mCon.of [some (.ref (ad 2 0 0)), some (.int (nI cd))] (by decide +kernel) rfl (Nat.le_of_ble_eq_true rfl) ?_
  intro K el eD eC hK hZ
  subst el eD eC
  refine mJ_iload_n hK dX2_acceptGuardSign_0 rfl ?_
  refine mJ_bipush (v := nI 60) hK dX2_acceptGuardSign_1 (by decide) ?_
  refine mJ_neq (tgt := 20) hK dX2_acceptGuardSign_3 (by decide) (by omega) (by omega) (fun c_3 => ?_) (fun c_3 => ?_)
  · refine mJ_aload_n hK dX2_acceptGuardSign_20 rfl ?_
    refine mJ_iload_n hK dX2_acceptGuardSign_21 rfl ?_
    refine xJ_puti hR hK dX2_acceptGuardSign_22 fX2_54 sX2_3 rfl rfl (by unfold xV; omega) (fun _ _ => rfl) (by decide) rfl (fun h hR => ?_)
    refine mJ_aload_n hK dX2_acceptGuardSign_25 rfl ?_
    refine mJ_iconst (v := nI 3) hK dX2_acceptGuardSign_26 (by decide) ?_
    refine mJ_cVi hK dX2_acceptGuardSign_27 lX2_39 (by unfold mFit; decide) (by decide) (k_X2_goTo hR _) rfl rfl (Nat.le_of_ble_eq_true rfl) (hR.1 _ _ _ (by unfold xV; omega)) ⟨_, _, rfl⟩ (fun h hR => ?_)
    refine mJ_zret hK dX2_acceptGuardSign_30 rfl (by decide) hZ (by decide) (by decide) ?_
    refine ⟨congrArg (fun z => some (Value.int z)) ?_, xR_ext hR ?_⟩
    · simp only [agP, c_3, ↓reduceIte, or_true, true_or, or_self, and_self, and_true, true_and, and_false, false_and, not_true_eq_false, not_false_eq_true, or_false, false_or]
      first | exact (bI_t rfl).symm | exact (bI_f (fun z => by cases z)).symm
    · simp only [agP, c_3, ↓reduceIte, or_true, true_or, or_self, and_self, and_true, true_and, and_false, false_and, not_true_eq_false, not_false_eq_true, or_false, false_or]
      rfl
  · refine mJ_iload_n hK dX2_acceptGuardSign_6 rfl ?_
    refine mJ_bipush (v := nI 61) hK dX2_acceptGuardSign_7 (by decide) ?_
    refine mJ_neq (tgt := 20) hK dX2_acceptGuardSign_9 (by decide) (by omega) (by omega) (fun c_9 => ?_) (fun c_9 => ?_)
    · refine mJ_aload_n hK dX2_acceptGuardSign_20 rfl ?_
      refine mJ_iload_n hK dX2_acceptGuardSign_21 rfl ?_
      refine xJ_puti hR hK dX2_acceptGuardSign_22 fX2_54 sX2_3 rfl rfl (by unfold xV; omega) (fun _ _ => rfl) (by decide) rfl (fun h hR => ?_)
      refine mJ_aload_n hK dX2_acceptGuardSign_25 rfl ?_
      refine mJ_iconst (v := nI 3) hK dX2_acceptGuardSign_26 (by decide) ?_
      refine mJ_cVi hK dX2_acceptGuardSign_27 lX2_39 (by unfold mFit; decide) (by decide) (k_X2_goTo hR _) rfl rfl (Nat.le_of_ble_eq_true rfl) (hR.1 _ _ _ (by unfold xV; omega)) ⟨_, _, rfl⟩ (fun h hR => ?_)
      refine mJ_zret hK dX2_acceptGuardSign_30 rfl (by decide) hZ (by decide) (by decide) ?_
      refine ⟨congrArg (fun z => some (Value.int z)) ?_, xR_ext hR ?_⟩
      · simp only [agP, c_3, c_9, ↓reduceIte, or_true, true_or, or_self, and_self, and_true, true_and, and_false, false_and, not_true_eq_false, not_false_eq_true, or_false, false_or]
        first | exact (bI_t rfl).symm | exact (bI_f (fun z => by cases z)).symm
      · simp only [agP, c_3, c_9, ↓reduceIte, or_true, true_or, or_self, and_self, and_true, true_and, and_false, false_and, not_true_eq_false, not_false_eq_true, or_false, false_or]
        rfl
    · refine mJ_iload_n hK dX2_acceptGuardSign_12 rfl ?_
      refine mJ_bipush (v := nI 62) hK dX2_acceptGuardSign_13 (by decide) ?_
      refine mJ_neq (tgt := 20) hK dX2_acceptGuardSign_15 (by decide) (by omega) (by omega) (fun c_15 => ?_) (fun c_15 => ?_)
      · refine mJ_aload_n hK dX2_acceptGuardSign_20 rfl ?_
        refine mJ_iload_n hK dX2_acceptGuardSign_21 rfl ?_
        refine xJ_puti hR hK dX2_acceptGuardSign_22 fX2_54 sX2_3 rfl rfl (by unfold xV; omega) (fun _ _ => rfl) (by decide) rfl (fun h hR => ?_)
        refine mJ_aload_n hK dX2_acceptGuardSign_25 rfl ?_
        refine mJ_iconst (v := nI 3) hK dX2_acceptGuardSign_26 (by decide) ?_
        refine mJ_cVi hK dX2_acceptGuardSign_27 lX2_39 (by unfold mFit; decide) (by decide) (k_X2_goTo hR _) rfl rfl (Nat.le_of_ble_eq_true rfl) (hR.1 _ _ _ (by unfold xV; omega)) ⟨_, _, rfl⟩ (fun h hR => ?_)
        refine mJ_zret hK dX2_acceptGuardSign_30 rfl (by decide) hZ (by decide) (by decide) ?_
        refine ⟨congrArg (fun z => some (Value.int z)) ?_, xR_ext hR ?_⟩
        · simp only [agP, c_3, c_9, c_15, ↓reduceIte, or_true, true_or, or_self, and_self, and_true, true_and, and_false, false_and, not_true_eq_false, not_false_eq_true, or_false, false_or]
          first | exact (bI_t rfl).symm | exact (bI_f (fun z => by cases z)).symm
        · simp only [agP, c_3, c_9, c_15, ↓reduceIte, or_true, true_or, or_self, and_self, and_true, true_and, and_false, false_and, not_true_eq_false, not_false_eq_true, or_false, false_or]
          rfl
      · refine mJ_iconst (v := nI 0) hK dX2_acceptGuardSign_18 (by decide) ?_
        refine mJ_zret hK dX2_acceptGuardSign_19 rfl (by decide) hZ (by decide) (by decide) ?_
        refine ⟨congrArg (fun z => some (Value.int z)) ?_, xR_ext hR ?_⟩
        · simp only [agP, c_3, c_9, c_15, ↓reduceIte, or_true, true_or, or_self, and_self, and_true, true_and, and_false, false_and, not_true_eq_false, not_false_eq_true, or_false, false_or]
          first | exact (bI_t rfl).symm | exact (bI_f (fun z => by cases z)).symm
        · simp only [agP, c_3, c_9, c_15, ↓reduceIte, or_true, true_or, or_self, and_self, and_true, true_and, and_false, false_and, not_true_eq_false, not_false_eq_true, or_false, false_or]
          rfl

set_option maxRecDepth 100000 in
set_option maxHeartbeats 4000000 in
theorem k_X2_acceptTarget {l : Launch} {D : va_G} {aC : Nat → ClassId} {ad : xAd} {h0 h : mH} {F : xFm} {W : xWm} {pm : Nat → Nat} (hR : xR xV ad h0 F W pm h) (hr : pm 8 < 9) {cd : Nat} (hcd : cd < 1000) {m : Nat} (hm : F 17 (pm 8) 0 5 = nI m) (hm4 : m < 4) : mCon l D aC mX2_acceptTarget [.ref (ad 2 0 0), .int (nI cd)] h (mRi (bI ((atP F (pm 8) m cd).isSome = true)) (fun h' => xR xV ad h0 ((atP F (pm 8) m cd).getD F) W pm h')) := by
  refine mCon.of [some (.ref (ad 2 0 0)), some (.int (nI cd))] (by decide +kernel) rfl (Nat.le_of_ble_eq_true rfl) ?_
  intro K el eD eC hK hZ
  subst el eD eC
  refine mJ_iload_n hK dX2_acceptTarget_0 rfl ?_
  refine mJ_bipush (v := nI 33) hK dX2_acceptTarget_1 (by decide) ?_
  refine mJ_nne (tgt := 13) hK dX2_acceptTarget_3 (by decide) (by omega) (by omega) (fun c_3 => ?_) (fun c_3 => ?_)
  · refine mJ_iload_n hK dX2_acceptTarget_13 rfl ?_
    refine mJ_cSi hK dX2_acceptTarget_14 lX2_57 (by unfold mFit; decide) (by decide) (k_X2_isLetter hcd) rfl rfl (Nat.le_of_ble_eq_true rfl) (fun h e9 => ?_)
    subst e9
    refine mJ_ifb_ne (tgt := 22) hK dX2_acceptTarget_17 (by decide) (fun c_17 => ?_) (fun c_17 => ?_)
    · refine mJ_aload_n hK dX2_acceptTarget_22 rfl ?_
      refine xJ_getr hR hK dX2_acceptTarget_23 fX2_12 (by unfold xV; omega) (fun _ _ => rfl) (by decide) (fun _ _ => rfl) ?_
      refine mJ_iload_n hK dX2_acceptTarget_26 rfl ?_
      refine mJ_bipush (v := nI 97) hK dX2_acceptTarget_27 (by decide) ?_
      refine mJ_isubN hK dX2_acceptTarget_29 (by omega) ?_
      refine mJ_iconst (v := nI 0) hK dX2_acceptTarget_30 (by decide) ?_
      refine mJ_cVv hK dX2_acceptTarget_31 lX2_83 (by unfold mFit; decide) (by decide) (k_X1_addOutput_0 hR hr hm hm4 _) rfl rfl (Nat.le_of_ble_eq_true rfl) (hR.1 _ _ _ (by unfold xV; omega)) ⟨_, _, rfl⟩ (fun h hR => ?_)
      refine mJ_aload_n hK dX2_acceptTarget_34 rfl ?_
      refine mJ_bipush (v := nI 8) hK dX2_acceptTarget_35 (by decide) ?_
      refine mJ_cVi hK dX2_acceptTarget_37 lX2_39 (by unfold mFit; decide) (by decide) (k_X2_goTo hR _) rfl rfl (Nat.le_of_ble_eq_true rfl) (hR.1 _ _ _ (by unfold xV; omega)) ⟨_, _, rfl⟩ (fun h hR => ?_)
      refine mJ_zret hK dX2_acceptTarget_40 rfl (by decide) hZ (by decide) (by decide) ?_
      refine ⟨congrArg (fun z => some (Value.int z)) ?_, xR_ext hR ?_⟩
      · simp only [atP, c_3, c_17, ↓reduceIte, or_true, true_or, or_self, and_self, and_true, true_and, and_false, false_and, not_true_eq_false, not_false_eq_true, or_false, false_or]
        first | exact (bI_t rfl).symm | exact (bI_f (fun z => by cases z)).symm
      · simp only [atP, c_3, c_17, ↓reduceIte, or_true, true_or, or_self, and_self, and_true, true_and, and_false, false_and, not_true_eq_false, not_false_eq_true, or_false, false_or]
        rfl
    · refine mJ_iconst (v := nI 0) hK dX2_acceptTarget_20 (by decide) ?_
      refine mJ_zret hK dX2_acceptTarget_21 rfl (by decide) hZ (by decide) (by decide) ?_
      refine ⟨congrArg (fun z => some (Value.int z)) ?_, xR_ext hR ?_⟩
      · simp only [atP, c_3, c_17, ↓reduceIte, or_true, true_or, or_self, and_self, and_true, true_and, and_false, false_and, not_true_eq_false, not_false_eq_true, or_false, false_or]
        first | exact (bI_t rfl).symm | exact (bI_f (fun z => by cases z)).symm
      · simp only [atP, c_3, c_17, ↓reduceIte, or_true, true_or, or_self, and_self, and_true, true_and, and_false, false_and, not_true_eq_false, not_false_eq_true, or_false, false_or]
        rfl
  · refine mJ_aload_n hK dX2_acceptTarget_6 rfl ?_
    refine mJ_bipush (v := nI 7) hK dX2_acceptTarget_7 (by decide) ?_
    refine mJ_cVi hK dX2_acceptTarget_9 lX2_39 (by unfold mFit; decide) (by decide) (k_X2_goTo hR _) rfl rfl (Nat.le_of_ble_eq_true rfl) (hR.1 _ _ _ (by unfold xV; omega)) ⟨_, _, rfl⟩ (fun h hR => ?_)
    refine mJ_zret hK dX2_acceptTarget_12 rfl (by decide) hZ (by decide) (by decide) ?_
    refine ⟨congrArg (fun z => some (Value.int z)) ?_, xR_ext hR ?_⟩
    · simp only [atP, c_3, ↓reduceIte, or_true, true_or, or_self, and_self, and_true, true_and, and_false, false_and, not_true_eq_false, not_false_eq_true, or_false, false_or]
      first | exact (bI_t rfl).symm | exact (bI_f (fun z => by cases z)).symm
    · simp only [atP, c_3, ↓reduceIte, or_true, true_or, or_self, and_self, and_true, true_and, and_false, false_and, not_true_eq_false, not_false_eq_true, or_false, false_or]
      rfl

set_option maxRecDepth 100000 in
set_option maxHeartbeats 4000000 in
theorem k_X2_acceptReplyChannel_L {l : Launch} {D : va_G} {aC : Nat → ClassId} {ad : xAd} {h0 h : mH} {F : xFm} {W : xWm} {pm : Nat → Nat} (hR : xR xV ad h0 F W pm h) (hr : pm 8 < 9) {cd : Nat} (hcd : cd < 1000) (hL : 97 ≤ cd ∧ cd < 105) {m : Nat} (hm : F 17 (pm 8) 0 5 = nI m) (hm4 : m < 4) : mCon l D aC mX2_acceptReplyChannel [.ref (ad 2 0 0), .int (nI cd)] h (mRi (bI ((arP F (pm 8) m cd).isSome = true)) (fun h' => xR xV ad h0 ((arP F (pm 8) m cd).getD F) W pm h')) := by
  refine mCon.of [some (.ref (ad 2 0 0)), some (.int (nI cd)), none] (by decide +kernel) rfl (Nat.le_of_ble_eq_true rfl) ?_
  intro K el eD eC hK hZ
  subst el eD eC
  refine mJ_iload_n hK dX2_acceptReplyChannel_0 rfl ?_
  refine mJ_bipush (v := nI 97) hK dX2_acceptReplyChannel_1 (by decide) ?_
  refine mJ_isubN hK dX2_acceptReplyChannel_3 (by omega) ?_
  refine mJ_istore_n hK dX2_acceptReplyChannel_4 (by decide) rfl ?_
  refine mJ_iload_n hK dX2_acceptReplyChannel_5 rfl ?_
  refine mJ_cSi hK dX2_acceptReplyChannel_6 lX2_57 (by unfold mFit; decide) (by decide) (k_X2_isLetter hcd) rfl rfl (Nat.le_of_ble_eq_true rfl) (fun h e9 => ?_)
  subst e9
  refine mJ_ifb_eq (tgt := 39) hK dX2_acceptReplyChannel_9 (by decide) (fun c_9 => ?_) (fun c_9 => ?_)
  · exact absurd hL c_9
  · refine mJ_iload_n hK dX2_acceptReplyChannel_12 rfl ?_
    refine mJ_iconst (v := nI 4) hK dX2_acceptReplyChannel_13 (by decide) ?_
    refine mJ_nge (tgt := 39) hK dX2_acceptReplyChannel_14 (by decide) (by omega) (by omega) (fun c_14 => ?_) (fun c_14 => ?_)
    · refine mJ_iconst (v := nI 0) hK dX2_acceptReplyChannel_39 (by decide) ?_
      refine mJ_zret hK dX2_acceptReplyChannel_40 rfl (by decide) hZ (by decide) (by decide) ?_
      refine ⟨congrArg (fun z => some (Value.int z)) ?_, xR_ext hR ?_⟩
      all_goals first | (rw [arP, if_pos ⟨hL, by omega, by assumption, by assumption⟩]; first | exact (bI_t rfl).symm | rfl) | (rw [arP, if_neg (by rintro ⟨_, h2, h3, h4⟩; first | omega | contradiction)]; first | exact (bI_f (fun z => by cases z)).symm | rfl)
    · refine mJ_aload_n hK dX2_acceptReplyChannel_17 rfl ?_
      refine xJ_getr hR hK dX2_acceptReplyChannel_18 fX2_12 (by unfold xV; omega) (fun _ _ => rfl) (by decide) (fun _ _ => rfl) ?_
      refine mJ_iload_n hK dX2_acceptReplyChannel_21 rfl ?_
      refine mJ_cVi hK dX2_acceptReplyChannel_22 lX2_87 (by unfold mFit; decide) (by decide) (k_X1_uses hR hr _) rfl rfl (Nat.le_of_ble_eq_true rfl) (hR.1 _ _ _ (by unfold xV; omega)) ⟨_, _, rfl⟩ (fun h e9 => ?_)
      subst e9
      refine mJ_ifb_eq (tgt := 39) hK dX2_acceptReplyChannel_25 (by decide) (fun c_25 => ?_) (fun c_25 => ?_)
      · refine mJ_iconst (v := nI 0) hK dX2_acceptReplyChannel_39 (by decide) ?_
        refine mJ_zret hK dX2_acceptReplyChannel_40 rfl (by decide) hZ (by decide) (by decide) ?_
        refine ⟨congrArg (fun z => some (Value.int z)) ?_, xR_ext hR ?_⟩
        all_goals first | (rw [arP, if_pos ⟨hL, by omega, by assumption, by assumption⟩]; first | exact (bI_t rfl).symm | rfl) | (rw [arP, if_neg (by rintro ⟨_, h2, h3, h4⟩; first | omega | contradiction)]; first | exact (bI_f (fun z => by cases z)).symm | rfl)
      · refine mJ_aload_n hK dX2_acceptReplyChannel_28 rfl ?_
        refine xJ_getr hR hK dX2_acceptReplyChannel_29 fX2_12 (by unfold xV; omega) (fun _ _ => rfl) (by decide) (fun _ _ => rfl) ?_
        refine mJ_iload_n hK dX2_acceptReplyChannel_32 rfl ?_
        refine mJ_cVi hK dX2_acceptReplyChannel_33 lX2_90 (by unfold mFit; decide) (by decide) (k_X1_repliesTo hR hr _) rfl rfl (Nat.le_of_ble_eq_true rfl) (hR.1 _ _ _ (by unfold xV; omega)) ⟨_, _, rfl⟩ (fun h e9 => ?_)
        subst e9
        refine mJ_ifb_eq (tgt := 41) hK dX2_acceptReplyChannel_36 (by decide) (fun c_36 => ?_) (fun c_36 => ?_)
        · refine mJ_aload_n hK dX2_acceptReplyChannel_41 rfl ?_
          refine xJ_getr hR hK dX2_acceptReplyChannel_42 fX2_12 (by unfold xV; omega) (fun _ _ => rfl) (by decide) (fun _ _ => rfl) ?_
          refine mJ_iload_n hK dX2_acceptReplyChannel_45 rfl ?_
          refine mJ_iconst (v := nI 1) hK dX2_acceptReplyChannel_46 (by decide) ?_
          refine mJ_cVv hK dX2_acceptReplyChannel_47 lX2_83 (by unfold mFit; decide) (by decide) (k_X1_addOutput_1 hR hr hm hm4 _) rfl rfl (Nat.le_of_ble_eq_true rfl) (hR.1 _ _ _ (by unfold xV; omega)) ⟨_, _, rfl⟩ (fun h hR => ?_)
          refine mJ_aload_n hK dX2_acceptReplyChannel_50 rfl ?_
          refine mJ_bipush (v := nI 8) hK dX2_acceptReplyChannel_51 (by decide) ?_
          refine mJ_cVi hK dX2_acceptReplyChannel_53 lX2_39 (by unfold mFit; decide) (by decide) (k_X2_goTo hR _) rfl rfl (Nat.le_of_ble_eq_true rfl) (hR.1 _ _ _ (by unfold xV; omega)) ⟨_, _, rfl⟩ (fun h hR => ?_)
          refine mJ_zret hK dX2_acceptReplyChannel_56 rfl (by decide) hZ (by decide) (by decide) ?_
          refine ⟨congrArg (fun z => some (Value.int z)) ?_, xR_ext hR ?_⟩
          all_goals first | (rw [arP, if_pos ⟨hL, by omega, by assumption, by assumption⟩]; first | exact (bI_t rfl).symm | rfl) | (rw [arP, if_neg (by rintro ⟨_, h2, h3, h4⟩; first | omega | contradiction)]; first | exact (bI_f (fun z => by cases z)).symm | rfl)
        · refine mJ_iconst (v := nI 0) hK dX2_acceptReplyChannel_39 (by decide) ?_
          refine mJ_zret hK dX2_acceptReplyChannel_40 rfl (by decide) hZ (by decide) (by decide) ?_
          refine ⟨congrArg (fun z => some (Value.int z)) ?_, xR_ext hR ?_⟩
          all_goals first | (rw [arP, if_pos ⟨hL, by omega, by assumption, by assumption⟩]; first | exact (bI_t rfl).symm | rfl) | (rw [arP, if_neg (by rintro ⟨_, h2, h3, h4⟩; first | omega | contradiction)]; first | exact (bI_f (fun z => by cases z)).symm | rfl)

set_option maxRecDepth 100000 in
set_option maxHeartbeats 4000000 in
theorem k_X2_acceptReplyChannel_N {l : Launch} {D : va_G} {aC : Nat → ClassId} {ad : xAd} {h0 h : mH} {F : xFm} {W : xWm} {pm : Nat → Nat} (hR : xR xV ad h0 F W pm h) (hr : pm 8 < 9) {cd : Nat} (hcd : cd < 1000) (hL : ¬ (97 ≤ cd ∧ cd < 105)) {m : Nat} (hm : F 17 (pm 8) 0 5 = nI m) (hm4 : m < 4) : mCon l D aC mX2_acceptReplyChannel [.ref (ad 2 0 0), .int (nI cd)] h (mRi (bI ((arP F (pm 8) m cd).isSome = true)) (fun h' => xR xV ad h0 ((arP F (pm 8) m cd).getD F) W pm h')) := by
  refine mCon.of [some (.ref (ad 2 0 0)), some (.int (nI cd)), none] (by decide +kernel) rfl (Nat.le_of_ble_eq_true rfl) ?_
  intro K el eD eC hK hZ
  subst el eD eC
  refine mJ_iload_n hK dX2_acceptReplyChannel_0 rfl ?_
  refine mJ_bipush (v := nI 97) hK dX2_acceptReplyChannel_1 (by decide) ?_
  refine mJ_isub hK dX2_acceptReplyChannel_3 ?_
  refine mJ_istore_n hK dX2_acceptReplyChannel_4 (by decide) rfl ?_
  refine mJ_iload_n hK dX2_acceptReplyChannel_5 rfl ?_
  refine mJ_cSi hK dX2_acceptReplyChannel_6 lX2_57 (by unfold mFit; decide) (by decide) (k_X2_isLetter hcd) rfl rfl (Nat.le_of_ble_eq_true rfl) (fun h e9 => ?_)
  subst e9
  refine mJ_ifb_eq (tgt := 39) hK dX2_acceptReplyChannel_9 (by decide) (fun c_9 => ?_) (fun c_9 => ?_)
  · refine mJ_iconst (v := nI 0) hK dX2_acceptReplyChannel_39 (by decide) ?_
    refine mJ_zret hK dX2_acceptReplyChannel_40 rfl (by decide) hZ (by decide) (by decide) ?_
    refine ⟨congrArg (fun z => some (Value.int z)) ?_, xR_ext hR ?_⟩
    · simp only [arP, c_9, ↓reduceIte, or_true, true_or, or_self, and_self, and_true, true_and, and_false, false_and, not_true_eq_false, not_false_eq_true, or_false, false_or]
      first | exact (bI_t rfl).symm | exact (bI_f (fun z => by cases z)).symm
    · simp only [arP, c_9, ↓reduceIte, or_true, true_or, or_self, and_self, and_true, true_and, and_false, false_and, not_true_eq_false, not_false_eq_true, or_false, false_or]
      rfl
  · exact absurd c_9 hL

theorem k_X2_acceptReplyChannel {l : Launch} {D : va_G} {aC : Nat → ClassId} {ad : xAd} {h0 h : mH} {F : xFm} {W : xWm} {pm : Nat → Nat} (hR : xR xV ad h0 F W pm h) (hr : pm 8 < 9) {cd : Nat} (hcd : cd < 1000) {m : Nat} (hm : F 17 (pm 8) 0 5 = nI m) (hm4 : m < 4) : mCon l D aC mX2_acceptReplyChannel [.ref (ad 2 0 0), .int (nI cd)] h (mRi (bI ((arP F (pm 8) m cd).isSome = true)) (fun h' => xR xV ad h0 ((arP F (pm 8) m cd).getD F) W pm h')) := by
  by_cases hL : 97 ≤ cd ∧ cd < 105
  · exact k_X2_acceptReplyChannel_L hR hr hcd hL hm hm4
  · exact k_X2_acceptReplyChannel_N hR hr hcd hL hm hm4
set_option maxRecDepth 100000 in
set_option maxHeartbeats 4000000 in
theorem k_X2_acceptBehindOperand {l : Launch} {D : va_G} {aC : Nat → ClassId} {ad : xAd} {h0 h : mH} {F : xFm} {W : xWm} {pm : Nat → Nat} (hR : xR xV ad h0 F W pm h) (hr : pm 8 < 9) {cd : Nat} (hcd : cd < 1000) {m : Nat} (hm : F 17 (pm 8) 0 5 = nI m) (hm1 : 0 < m) (hm4 : m ≤ 4) {k : Nat} (hk : F 20 (pm 8) 0 (m - 1) = nI k) (hk3 : k ≤ 3) : mCon l D aC mX2_acceptBehindOperand [.ref (ad 2 0 0), .int (nI cd)] h (mRi (bI ((abP F m k cd).isSome = true)) (fun h' => xR xV ad h0 ((abP F m k cd).getD F) W pm h')) := by
  refine mCon.of [some (.ref (ad 2 0 0)), some (.int (nI cd)), none] (by decide +kernel) rfl (Nat.le_of_ble_eq_true rfl) ?_
  intro K el eD eC hK hZ
  subst el eD eC
  refine mJ_iload_n hK dX2_acceptBehindOperand_0 rfl ?_
  refine mJ_bipush (v := nI 44) hK dX2_acceptBehindOperand_1 (by decide) ?_
  refine mJ_nne (tgt := 32) hK dX2_acceptBehindOperand_3 (by decide) (by omega) (by omega) (fun c_3 => ?_) (fun c_3 => ?_)
  · refine mJ_iload_n hK dX2_acceptBehindOperand_32 rfl ?_
    refine mJ_bipush (v := nI 43) hK dX2_acceptBehindOperand_33 (by decide) ?_
    refine mJ_neq (tgt := 50) hK dX2_acceptBehindOperand_35 (by decide) (by omega) (by omega) (fun c_35 => ?_) (fun c_35 => ?_)
    · refine mJ_iconst (v := nI 1) hK dX2_acceptBehindOperand_50 (by decide) ?_
      refine mJ_goto (tgt := 55) hK dX2_acceptBehindOperand_51 (by decide) ?_
      refine mJ_istore_n hK dX2_acceptBehindOperand_55 (by decide) rfl ?_
      refine mJ_iload_n hK dX2_acceptBehindOperand_56 rfl ?_
      refine mJ_nif_eq (tgt := 83) hK dX2_acceptBehindOperand_57 (by decide) (by omega) (fun c_57 => ?_) (fun c_57 => ?_)
      · exact absurd c_57 (by omega)
      · refine mJ_aload_n hK dX2_acceptBehindOperand_60 rfl ?_
        refine xJ_getr hR hK dX2_acceptBehindOperand_61 fX2_12 (by unfold xV; omega) (fun _ _ => rfl) (by decide) (fun _ _ => rfl) ?_
        refine mJ_cVi hK dX2_acceptBehindOperand_64 lX2_96 (by unfold mFit; decide) (by decide) (k_X1_lastOperandCount hR hr hm hm1 hm4 hk) rfl rfl (Nat.le_of_ble_eq_true rfl) (hR.1 _ _ _ (by unfold xV; omega)) ⟨_, _, rfl⟩ (fun h e9 => ?_)
        subst e9
        refine mJ_iconst (v := nI 3) hK dX2_acceptBehindOperand_67 (by decide) ?_
        refine mJ_nge (tgt := 83) hK dX2_acceptBehindOperand_68 (by decide) (by omega) (by omega) (fun c_68 => ?_) (fun c_68 => ?_)
        · refine mJ_iconst (v := nI 0) hK dX2_acceptBehindOperand_83 (by decide) ?_
          refine mJ_zret hK dX2_acceptBehindOperand_84 rfl (by decide) hZ (by decide) (by decide) ?_
          refine ⟨congrArg (fun z => some (Value.int z)) ?_, xR_ext hR ?_⟩
          all_goals (unfold abP; first | (rw [if_pos (by omega), if_pos (by omega)]; first | exact (bI_t rfl).symm | exact (bI_f (fun z => by cases z)).symm | rfl) | (rw [if_pos (by omega), if_neg (by omega)]; first | exact (bI_t rfl).symm | exact (bI_f (fun z => by cases z)).symm | rfl) | (rw [if_neg (by omega), if_pos (by omega)]; first | exact (bI_t rfl).symm | exact (bI_f (fun z => by cases z)).symm | rfl) | (rw [if_neg (by omega), if_neg (by omega)]; first | exact (bI_t rfl).symm | exact (bI_f (fun z => by cases z)).symm | rfl))
        · refine mJ_aload_n hK dX2_acceptBehindOperand_71 rfl ?_
          refine mJ_iload_n hK dX2_acceptBehindOperand_72 rfl ?_
          refine mJ_cVi hK dX2_acceptBehindOperand_73 lX2_48 (by unfold mFit; decide) (by decide) (k_X2_goToOperand hR _) rfl rfl (Nat.le_of_ble_eq_true rfl) (hR.1 _ _ _ (by unfold xV; omega)) ⟨_, _, rfl⟩ (fun h hR => ?_)
          refine mJ_nif_eq (tgt := 83) hK dX2_acceptBehindOperand_76 (by decide) (by omega) (fun c_76 => ?_) (fun c_76 => ?_)
          · exact absurd c_76 (by omega)
          · refine mJ_iconst (v := nI 1) hK dX2_acceptBehindOperand_79 (by decide) ?_
            refine mJ_goto (tgt := 84) hK dX2_acceptBehindOperand_80 (by decide) ?_
            refine mJ_zret hK dX2_acceptBehindOperand_84 rfl (by decide) hZ (by decide) (by decide) ?_
            refine ⟨congrArg (fun z => some (Value.int z)) ?_, xR_ext hR ?_⟩
            all_goals (unfold abP; first | (rw [if_pos (by omega), if_pos (by omega)]; first | exact (bI_t rfl).symm | exact (bI_f (fun z => by cases z)).symm | rfl) | (rw [if_pos (by omega), if_neg (by omega)]; first | exact (bI_t rfl).symm | exact (bI_f (fun z => by cases z)).symm | rfl) | (rw [if_neg (by omega), if_pos (by omega)]; first | exact (bI_t rfl).symm | exact (bI_f (fun z => by cases z)).symm | rfl) | (rw [if_neg (by omega), if_neg (by omega)]; first | exact (bI_t rfl).symm | exact (bI_f (fun z => by cases z)).symm | rfl))
    · refine mJ_iload_n hK dX2_acceptBehindOperand_38 rfl ?_
      refine mJ_bipush (v := nI 45) hK dX2_acceptBehindOperand_39 (by decide) ?_
      refine mJ_neq (tgt := 50) hK dX2_acceptBehindOperand_41 (by decide) (by omega) (by omega) (fun c_41 => ?_) (fun c_41 => ?_)
      · refine mJ_iconst (v := nI 1) hK dX2_acceptBehindOperand_50 (by decide) ?_
        refine mJ_goto (tgt := 55) hK dX2_acceptBehindOperand_51 (by decide) ?_
        refine mJ_istore_n hK dX2_acceptBehindOperand_55 (by decide) rfl ?_
        refine mJ_iload_n hK dX2_acceptBehindOperand_56 rfl ?_
        refine mJ_nif_eq (tgt := 83) hK dX2_acceptBehindOperand_57 (by decide) (by omega) (fun c_57 => ?_) (fun c_57 => ?_)
        · exact absurd c_57 (by omega)
        · refine mJ_aload_n hK dX2_acceptBehindOperand_60 rfl ?_
          refine xJ_getr hR hK dX2_acceptBehindOperand_61 fX2_12 (by unfold xV; omega) (fun _ _ => rfl) (by decide) (fun _ _ => rfl) ?_
          refine mJ_cVi hK dX2_acceptBehindOperand_64 lX2_96 (by unfold mFit; decide) (by decide) (k_X1_lastOperandCount hR hr hm hm1 hm4 hk) rfl rfl (Nat.le_of_ble_eq_true rfl) (hR.1 _ _ _ (by unfold xV; omega)) ⟨_, _, rfl⟩ (fun h e9 => ?_)
          subst e9
          refine mJ_iconst (v := nI 3) hK dX2_acceptBehindOperand_67 (by decide) ?_
          refine mJ_nge (tgt := 83) hK dX2_acceptBehindOperand_68 (by decide) (by omega) (by omega) (fun c_68 => ?_) (fun c_68 => ?_)
          · refine mJ_iconst (v := nI 0) hK dX2_acceptBehindOperand_83 (by decide) ?_
            refine mJ_zret hK dX2_acceptBehindOperand_84 rfl (by decide) hZ (by decide) (by decide) ?_
            refine ⟨congrArg (fun z => some (Value.int z)) ?_, xR_ext hR ?_⟩
            all_goals (unfold abP; first | (rw [if_pos (by omega), if_pos (by omega)]; first | exact (bI_t rfl).symm | exact (bI_f (fun z => by cases z)).symm | rfl) | (rw [if_pos (by omega), if_neg (by omega)]; first | exact (bI_t rfl).symm | exact (bI_f (fun z => by cases z)).symm | rfl) | (rw [if_neg (by omega), if_pos (by omega)]; first | exact (bI_t rfl).symm | exact (bI_f (fun z => by cases z)).symm | rfl) | (rw [if_neg (by omega), if_neg (by omega)]; first | exact (bI_t rfl).symm | exact (bI_f (fun z => by cases z)).symm | rfl))
          · refine mJ_aload_n hK dX2_acceptBehindOperand_71 rfl ?_
            refine mJ_iload_n hK dX2_acceptBehindOperand_72 rfl ?_
            refine mJ_cVi hK dX2_acceptBehindOperand_73 lX2_48 (by unfold mFit; decide) (by decide) (k_X2_goToOperand hR _) rfl rfl (Nat.le_of_ble_eq_true rfl) (hR.1 _ _ _ (by unfold xV; omega)) ⟨_, _, rfl⟩ (fun h hR => ?_)
            refine mJ_nif_eq (tgt := 83) hK dX2_acceptBehindOperand_76 (by decide) (by omega) (fun c_76 => ?_) (fun c_76 => ?_)
            · exact absurd c_76 (by omega)
            · refine mJ_iconst (v := nI 1) hK dX2_acceptBehindOperand_79 (by decide) ?_
              refine mJ_goto (tgt := 84) hK dX2_acceptBehindOperand_80 (by decide) ?_
              refine mJ_zret hK dX2_acceptBehindOperand_84 rfl (by decide) hZ (by decide) (by decide) ?_
              refine ⟨congrArg (fun z => some (Value.int z)) ?_, xR_ext hR ?_⟩
              all_goals (unfold abP; first | (rw [if_pos (by omega), if_pos (by omega)]; first | exact (bI_t rfl).symm | exact (bI_f (fun z => by cases z)).symm | rfl) | (rw [if_pos (by omega), if_neg (by omega)]; first | exact (bI_t rfl).symm | exact (bI_f (fun z => by cases z)).symm | rfl) | (rw [if_neg (by omega), if_pos (by omega)]; first | exact (bI_t rfl).symm | exact (bI_f (fun z => by cases z)).symm | rfl) | (rw [if_neg (by omega), if_neg (by omega)]; first | exact (bI_t rfl).symm | exact (bI_f (fun z => by cases z)).symm | rfl))
      · refine mJ_iload_n hK dX2_acceptBehindOperand_44 rfl ?_
        refine mJ_bipush (v := nI 42) hK dX2_acceptBehindOperand_45 (by decide) ?_
        refine mJ_nne (tgt := 54) hK dX2_acceptBehindOperand_47 (by decide) (by omega) (by omega) (fun c_47 => ?_) (fun c_47 => ?_)
        · refine mJ_iconst (v := nI 0) hK dX2_acceptBehindOperand_54 (by decide) ?_
          refine mJ_istore_n hK dX2_acceptBehindOperand_55 (by decide) rfl ?_
          refine mJ_iload_n hK dX2_acceptBehindOperand_56 rfl ?_
          refine mJ_nif_eq (tgt := 83) hK dX2_acceptBehindOperand_57 (by decide) (by omega) (fun c_57 => ?_) (fun c_57 => ?_)
          · refine mJ_iconst (v := nI 0) hK dX2_acceptBehindOperand_83 (by decide) ?_
            refine mJ_zret hK dX2_acceptBehindOperand_84 rfl (by decide) hZ (by decide) (by decide) ?_
            refine ⟨congrArg (fun z => some (Value.int z)) ?_, xR_ext hR ?_⟩
            all_goals (unfold abP; first | (rw [if_pos (by omega), if_pos (by omega)]; first | exact (bI_t rfl).symm | exact (bI_f (fun z => by cases z)).symm | rfl) | (rw [if_pos (by omega), if_neg (by omega)]; first | exact (bI_t rfl).symm | exact (bI_f (fun z => by cases z)).symm | rfl) | (rw [if_neg (by omega), if_pos (by omega)]; first | exact (bI_t rfl).symm | exact (bI_f (fun z => by cases z)).symm | rfl) | (rw [if_neg (by omega), if_neg (by omega)]; first | exact (bI_t rfl).symm | exact (bI_f (fun z => by cases z)).symm | rfl))
          · exact absurd c_57 (by omega)
        · refine mJ_iconst (v := nI 1) hK dX2_acceptBehindOperand_50 (by decide) ?_
          refine mJ_goto (tgt := 55) hK dX2_acceptBehindOperand_51 (by decide) ?_
          refine mJ_istore_n hK dX2_acceptBehindOperand_55 (by decide) rfl ?_
          refine mJ_iload_n hK dX2_acceptBehindOperand_56 rfl ?_
          refine mJ_nif_eq (tgt := 83) hK dX2_acceptBehindOperand_57 (by decide) (by omega) (fun c_57 => ?_) (fun c_57 => ?_)
          · exact absurd c_57 (by omega)
          · refine mJ_aload_n hK dX2_acceptBehindOperand_60 rfl ?_
            refine xJ_getr hR hK dX2_acceptBehindOperand_61 fX2_12 (by unfold xV; omega) (fun _ _ => rfl) (by decide) (fun _ _ => rfl) ?_
            refine mJ_cVi hK dX2_acceptBehindOperand_64 lX2_96 (by unfold mFit; decide) (by decide) (k_X1_lastOperandCount hR hr hm hm1 hm4 hk) rfl rfl (Nat.le_of_ble_eq_true rfl) (hR.1 _ _ _ (by unfold xV; omega)) ⟨_, _, rfl⟩ (fun h e9 => ?_)
            subst e9
            refine mJ_iconst (v := nI 3) hK dX2_acceptBehindOperand_67 (by decide) ?_
            refine mJ_nge (tgt := 83) hK dX2_acceptBehindOperand_68 (by decide) (by omega) (by omega) (fun c_68 => ?_) (fun c_68 => ?_)
            · refine mJ_iconst (v := nI 0) hK dX2_acceptBehindOperand_83 (by decide) ?_
              refine mJ_zret hK dX2_acceptBehindOperand_84 rfl (by decide) hZ (by decide) (by decide) ?_
              refine ⟨congrArg (fun z => some (Value.int z)) ?_, xR_ext hR ?_⟩
              all_goals (unfold abP; first | (rw [if_pos (by omega), if_pos (by omega)]; first | exact (bI_t rfl).symm | exact (bI_f (fun z => by cases z)).symm | rfl) | (rw [if_pos (by omega), if_neg (by omega)]; first | exact (bI_t rfl).symm | exact (bI_f (fun z => by cases z)).symm | rfl) | (rw [if_neg (by omega), if_pos (by omega)]; first | exact (bI_t rfl).symm | exact (bI_f (fun z => by cases z)).symm | rfl) | (rw [if_neg (by omega), if_neg (by omega)]; first | exact (bI_t rfl).symm | exact (bI_f (fun z => by cases z)).symm | rfl))
            · refine mJ_aload_n hK dX2_acceptBehindOperand_71 rfl ?_
              refine mJ_iload_n hK dX2_acceptBehindOperand_72 rfl ?_
              refine mJ_cVi hK dX2_acceptBehindOperand_73 lX2_48 (by unfold mFit; decide) (by decide) (k_X2_goToOperand hR _) rfl rfl (Nat.le_of_ble_eq_true rfl) (hR.1 _ _ _ (by unfold xV; omega)) ⟨_, _, rfl⟩ (fun h hR => ?_)
              refine mJ_nif_eq (tgt := 83) hK dX2_acceptBehindOperand_76 (by decide) (by omega) (fun c_76 => ?_) (fun c_76 => ?_)
              · exact absurd c_76 (by omega)
              · refine mJ_iconst (v := nI 1) hK dX2_acceptBehindOperand_79 (by decide) ?_
                refine mJ_goto (tgt := 84) hK dX2_acceptBehindOperand_80 (by decide) ?_
                refine mJ_zret hK dX2_acceptBehindOperand_84 rfl (by decide) hZ (by decide) (by decide) ?_
                refine ⟨congrArg (fun z => some (Value.int z)) ?_, xR_ext hR ?_⟩
                all_goals (unfold abP; first | (rw [if_pos (by omega), if_pos (by omega)]; first | exact (bI_t rfl).symm | exact (bI_f (fun z => by cases z)).symm | rfl) | (rw [if_pos (by omega), if_neg (by omega)]; first | exact (bI_t rfl).symm | exact (bI_f (fun z => by cases z)).symm | rfl) | (rw [if_neg (by omega), if_pos (by omega)]; first | exact (bI_t rfl).symm | exact (bI_f (fun z => by cases z)).symm | rfl) | (rw [if_neg (by omega), if_neg (by omega)]; first | exact (bI_t rfl).symm | exact (bI_f (fun z => by cases z)).symm | rfl))
  · refine mJ_aload_n hK dX2_acceptBehindOperand_6 rfl ?_
    refine xJ_getr hR hK dX2_acceptBehindOperand_7 fX2_12 (by unfold xV; omega) (fun _ _ => rfl) (by decide) (fun _ _ => rfl) ?_
    refine xJ_getx (nI m) hR hK dX2_acceptBehindOperand_10 fX2_93 (by unfold xV; omega) (fun _ _ => rfl) (by decide) rfl (by first | exact hm | (simp [fr, upd]; exact hm)) ?_
    refine mJ_iconst (v := nI 4) hK dX2_acceptBehindOperand_13 (by decide) ?_
    refine mJ_nge (tgt := 30) hK dX2_acceptBehindOperand_14 (by decide) (by omega) (by omega) (fun c_14 => ?_) (fun c_14 => ?_)
    · refine mJ_iconst (v := nI 0) hK dX2_acceptBehindOperand_30 (by decide) ?_
      refine mJ_zret hK dX2_acceptBehindOperand_31 rfl (by decide) hZ (by decide) (by decide) ?_
      refine ⟨congrArg (fun z => some (Value.int z)) ?_, xR_ext hR ?_⟩
      all_goals (unfold abP; first | (rw [if_pos (by omega), if_pos (by omega)]; first | exact (bI_t rfl).symm | exact (bI_f (fun z => by cases z)).symm | rfl) | (rw [if_pos (by omega), if_neg (by omega)]; first | exact (bI_t rfl).symm | exact (bI_f (fun z => by cases z)).symm | rfl) | (rw [if_neg (by omega), if_pos (by omega)]; first | exact (bI_t rfl).symm | exact (bI_f (fun z => by cases z)).symm | rfl) | (rw [if_neg (by omega), if_neg (by omega)]; first | exact (bI_t rfl).symm | exact (bI_f (fun z => by cases z)).symm | rfl))
    · refine mJ_aload_n hK dX2_acceptBehindOperand_17 rfl ?_
      refine mJ_bipush (v := nI 6) hK dX2_acceptBehindOperand_18 (by decide) ?_
      refine mJ_cVi hK dX2_acceptBehindOperand_20 lX2_39 (by unfold mFit; decide) (by decide) (k_X2_goTo hR _) rfl rfl (Nat.le_of_ble_eq_true rfl) (hR.1 _ _ _ (by unfold xV; omega)) ⟨_, _, rfl⟩ (fun h hR => ?_)
      refine mJ_nif_eq (tgt := 30) hK dX2_acceptBehindOperand_23 (by decide) (by omega) (fun c_23 => ?_) (fun c_23 => ?_)
      · exact absurd c_23 (by omega)
      · refine mJ_iconst (v := nI 1) hK dX2_acceptBehindOperand_26 (by decide) ?_
        refine mJ_goto (tgt := 31) hK dX2_acceptBehindOperand_27 (by decide) ?_
        refine mJ_zret hK dX2_acceptBehindOperand_31 rfl (by decide) hZ (by decide) (by decide) ?_
        refine ⟨congrArg (fun z => some (Value.int z)) ?_, xR_ext hR ?_⟩
        all_goals (unfold abP; first | (rw [if_pos (by omega), if_pos (by omega)]; first | exact (bI_t rfl).symm | exact (bI_f (fun z => by cases z)).symm | rfl) | (rw [if_pos (by omega), if_neg (by omega)]; first | exact (bI_t rfl).symm | exact (bI_f (fun z => by cases z)).symm | rfl) | (rw [if_neg (by omega), if_pos (by omega)]; first | exact (bI_t rfl).symm | exact (bI_f (fun z => by cases z)).symm | rfl) | (rw [if_neg (by omega), if_neg (by omega)]; first | exact (bI_t rfl).symm | exact (bI_f (fun z => by cases z)).symm | rfl))

set_option maxRecDepth 100000 in
set_option maxHeartbeats 4000000 in
theorem k_X2_acceptOperand_1n {l : Launch} {D : va_G} {aC : Nat → ClassId} {ad : xAd} {h0 h : mH} {F : xFm} {W : xWm} {pm : Nat → Nat} (hR : xR xV ad h0 F W pm h) (hr : pm 8 < 9) : mCon l D aC mX2_acceptOperand [.ref (ad 2 0 0), .int (-1)] h (mRi (nI 0) (fun h' => h' = h)) := by
  refine mCon.of [some (.ref (ad 2 0 0)), some (.int (-1))] (by decide +kernel) rfl (Nat.le_of_ble_eq_true rfl) ?_
  intro K el eD eC hK hZ
  subst el eD eC
  refine mJ_iload_n hK dX2_acceptOperand_0 rfl ?_
  refine mJ_iconst (v := -1) hK dX2_acceptOperand_1 (by decide) ?_
  refine mJ_icmp_ne (tgt := 7) hK dX2_acceptOperand_2 (by decide) (fun c_2 => ?_) (fun c_2 => ?_)
  · exact absurd rfl c_2
  · refine mJ_iconst (v := nI 0) hK dX2_acceptOperand_5 (by decide) ?_
    refine mJ_zret hK dX2_acceptOperand_6 rfl (by decide) hZ (by decide) (by decide) ?_
    exact ⟨rfl, rfl⟩

set_option maxRecDepth 100000 in
set_option maxHeartbeats 4000000 in
theorem k_X2_acceptOperand_1s {l : Launch} {D : va_G} {aC : Nat → ClassId} {ad : xAd} {h0 h : mH} {F : xFm} {W : xWm} {pm : Nat → Nat} (hR : xR xV ad h0 F W pm h) (hr : pm 8 < 9) (hp : F 2 0 0 1 = nI 1)  {a : Nat} (ha : a < 18) : mCon l D aC mX2_acceptOperand [.ref (ad 2 0 0), .int (nI a)] h (mRi (nI 1) (fun h' => xR xV ad h0 (ao1 F a) W pm h')) := by
  refine mCon.of [some (.ref (ad 2 0 0)), some (.int (nI a))] (by decide +kernel) rfl (Nat.le_of_ble_eq_true rfl) ?_
  intro K el eD eC hK hZ
  subst el eD eC
  refine mJ_iload_n hK dX2_acceptOperand_0 rfl ?_
  refine mJ_iconst (v := -1) hK dX2_acceptOperand_1 (by decide) ?_
  refine mJ_icmp_ne (tgt := 7) hK dX2_acceptOperand_2 (by decide) (fun c_2 => ?_) (fun c_2 => ?_)
  · refine mJ_aload_n hK dX2_acceptOperand_7 rfl ?_
    refine xJ_getx (nI 1) hR hK dX2_acceptOperand_8 fX2_21 (by unfold xV; omega) (fun _ _ => rfl) (by decide) rfl (by first | exact hp | (simp [fr, upd]; exact hp)) ?_
    refine mJ_iconst (v := nI 1) hK dX2_acceptOperand_11 (by decide) ?_
    refine mJ_nne (tgt := 26) hK dX2_acceptOperand_12 (by decide) (by omega) (by omega) (fun c_12 => ?_) (fun c_12 => ?_)
    · exact absurd c_12 (by omega)
    · refine mJ_aload_n hK dX2_acceptOperand_15 rfl ?_
      refine mJ_iload_n hK dX2_acceptOperand_16 rfl ?_
      refine xJ_puti hR hK dX2_acceptOperand_17 fX2_72 sX2_2 rfl rfl (by unfold xV; omega) (fun _ _ => rfl) (by decide) rfl (fun h hR => ?_)
      refine mJ_aload_n hK dX2_acceptOperand_20 rfl ?_
      refine mJ_iconst (v := nI 2) hK dX2_acceptOperand_21 (by decide) ?_
      refine mJ_cVi hK dX2_acceptOperand_22 lX2_39 (by unfold mFit; decide) (by decide) (k_X2_goTo hR _) rfl rfl (Nat.le_of_ble_eq_true rfl) (hR.1 _ _ _ (by unfold xV; omega)) ⟨_, _, rfl⟩ (fun h hR => ?_)
      refine mJ_zret hK dX2_acceptOperand_25 rfl (by decide) hZ (by decide) (by decide) ?_
      exact ⟨rfl, hR⟩
  · exact absurd c_2 (nI_m1 (by omega))

theorem k_X2_acceptOperand_1 {l : Launch} {D : va_G} {aC : Nat → ClassId} {ad : xAd} {h0 h : mH} {F : xFm} {W : xWm} {pm : Nat → Nat} (hR : xR xV ad h0 F W pm h) (hr : pm 8 < 9) (hp : F 2 0 0 1 = nI 1)  {o : Option Nat} (ho : ∀ a, o = some a → a < 18) : mCon l D aC mX2_acceptOperand [.ref (ad 2 0 0), .int (opI o)] h (mRi (bI ((o.map (fun a => ao1 F a)).isSome = true)) (fun h' => xR xV ad h0 ((o.map (fun a => ao1 F a)).getD F) W pm h')) := by
  cases o with
  | none =>
    intro w sz hs
    have := k_X2_acceptOperand_1n (l := l) (D := D) (aC := aC) hR hr w sz hs
    refine mMet_mono this ?_
    rintro r h' ⟨rfl, rfl⟩
    exact ⟨rfl, hR⟩
  | some a => exact k_X2_acceptOperand_1s hR hr hp (ho a rfl)

set_option maxRecDepth 100000 in
set_option maxHeartbeats 4000000 in
theorem k_X2_acceptOperand_3s {l : Launch} {D : va_G} {aC : Nat → ClassId} {ad : xAd} {h0 h : mH} {F : xFm} {W : xWm} {pm : Nat → Nat} (hR : xR xV ad h0 F W pm h) (hr : pm 8 < 9) (hp : F 2 0 0 1 = nI 3)  {a : Nat} (ha : a < 18) : mCon l D aC mX2_acceptOperand [.ref (ad 2 0 0), .int (nI a)] h (mRi (nI 1) (fun h' => xR xV ad h0 (ao3 F (pm 8) a) W pm h')) := by
  refine mCon.of [some (.ref (ad 2 0 0)), some (.int (nI a))] (by decide +kernel) rfl (Nat.le_of_ble_eq_true rfl) ?_
  intro K el eD eC hK hZ
  subst el eD eC
  refine mJ_iload_n hK dX2_acceptOperand_0 rfl ?_
  refine mJ_iconst (v := -1) hK dX2_acceptOperand_1 (by decide) ?_
  refine mJ_icmp_ne (tgt := 7) hK dX2_acceptOperand_2 (by decide) (fun c_2 => ?_) (fun c_2 => ?_)
  · refine mJ_aload_n hK dX2_acceptOperand_7 rfl ?_
    refine xJ_getx (nI 3) hR hK dX2_acceptOperand_8 fX2_21 (by unfold xV; omega) (fun _ _ => rfl) (by decide) rfl (by first | exact hp | (simp [fr, upd]; exact hp)) ?_
    refine mJ_iconst (v := nI 1) hK dX2_acceptOperand_11 (by decide) ?_
    refine mJ_nne (tgt := 26) hK dX2_acceptOperand_12 (by decide) (by omega) (by omega) (fun c_12 => ?_) (fun c_12 => ?_)
    · refine mJ_aload_n hK dX2_acceptOperand_26 rfl ?_
      refine xJ_getx (nI 3) hR hK dX2_acceptOperand_27 fX2_21 (by unfold xV; omega) (fun _ _ => rfl) (by decide) rfl (by first | exact hp | (simp [fr, upd]; exact hp)) ?_
      refine mJ_iconst (v := nI 3) hK dX2_acceptOperand_30 (by decide) ?_
      refine mJ_nne (tgt := 56) hK dX2_acceptOperand_31 (by decide) (by omega) (by omega) (fun c_31 => ?_) (fun c_31 => ?_)
      · exact absurd c_31 (by omega)
      · refine mJ_aload_n hK dX2_acceptOperand_34 rfl ?_
        refine xJ_getr hR hK dX2_acceptOperand_35 fX2_12 (by unfold xV; omega) (fun _ _ => rfl) (by decide) (fun _ _ => rfl) ?_
        refine mJ_aload_n hK dX2_acceptOperand_38 rfl ?_
        refine xJ_geti hR hK dX2_acceptOperand_39 fX2_72 (by unfold xV; omega) (fun _ _ => rfl) (by decide) rfl ?_
        refine mJ_aload_n hK dX2_acceptOperand_42 rfl ?_
        refine xJ_geti hR hK dX2_acceptOperand_43 fX2_54 (by unfold xV; omega) (fun _ _ => rfl) (by decide) rfl ?_
        refine mJ_iload_n hK dX2_acceptOperand_46 rfl ?_
        refine mJ_cVv hK dX2_acceptOperand_47 lX2_75 (by unfold mFit; decide) (by decide) (k_X1_setGuard hR hr _ _ _) rfl rfl (Nat.le_of_ble_eq_true rfl) (hR.1 _ _ _ (by unfold xV; omega)) ⟨_, _, rfl⟩ (fun h hR => ?_)
        refine mJ_aload_n hK dX2_acceptOperand_50 rfl ?_
        refine mJ_iconst (v := nI 4) hK dX2_acceptOperand_51 (by decide) ?_
        refine mJ_cVi hK dX2_acceptOperand_52 lX2_39 (by unfold mFit; decide) (by decide) (k_X2_goTo hR _) rfl rfl (Nat.le_of_ble_eq_true rfl) (hR.1 _ _ _ (by unfold xV; omega)) ⟨_, _, rfl⟩ (fun h hR => ?_)
        refine mJ_zret hK dX2_acceptOperand_55 rfl (by decide) hZ (by decide) (by decide) ?_
        exact ⟨rfl, hR⟩
    · exact absurd c_12 (by omega)
  · exact absurd c_2 (nI_m1 (by omega))

theorem k_X2_acceptOperand_3 {l : Launch} {D : va_G} {aC : Nat → ClassId} {ad : xAd} {h0 h : mH} {F : xFm} {W : xWm} {pm : Nat → Nat} (hR : xR xV ad h0 F W pm h) (hr : pm 8 < 9) (hp : F 2 0 0 1 = nI 3)  {o : Option Nat} (ho : ∀ a, o = some a → a < 18) : mCon l D aC mX2_acceptOperand [.ref (ad 2 0 0), .int (opI o)] h (mRi (bI ((o.map (fun a => ao3 F (pm 8) a)).isSome = true)) (fun h' => xR xV ad h0 ((o.map (fun a => ao3 F (pm 8) a)).getD F) W pm h')) := by
  cases o with
  | none =>
    intro w sz hs
    have := k_X2_acceptOperand_1n (l := l) (D := D) (aC := aC) hR hr w sz hs
    refine mMet_mono this ?_
    rintro r h' ⟨rfl, rfl⟩
    exact ⟨rfl, hR⟩
  | some a => exact k_X2_acceptOperand_3s hR hr hp (ho a rfl)

set_option maxRecDepth 100000 in
set_option maxHeartbeats 4000000 in
theorem k_X2_acceptOperand_9s {l : Launch} {D : va_G} {aC : Nat → ClassId} {ad : xAd} {h0 h : mH} {F : xFm} {W : xWm} {pm : Nat → Nat} (hR : xR xV ad h0 F W pm h) (hr : pm 8 < 9) (hp : F 2 0 0 1 = nI 9) {m : Nat} (hm : F 17 (pm 8) 0 5 = nI m) (hm1 : 0 < m) (hm4 : m ≤ 4) {k : Nat} (hk : F 20 (pm 8) 0 (m - 1) = nI k) (hk3 : k < 3) {a : Nat} (ha : a < 18) : mCon l D aC mX2_acceptOperand [.ref (ad 2 0 0), .int (nI a)] h (mRi (nI 1) (fun h' => xR xV ad h0 (ao9 F (pm 8) m k a) W pm h')) := by
  refine mCon.of [some (.ref (ad 2 0 0)), some (.int (nI a))] (by decide +kernel) rfl (Nat.le_of_ble_eq_true rfl) ?_
  intro K el eD eC hK hZ
  subst el eD eC
  refine mJ_iload_n hK dX2_acceptOperand_0 rfl ?_
  refine mJ_iconst (v := -1) hK dX2_acceptOperand_1 (by decide) ?_
  refine mJ_icmp_ne (tgt := 7) hK dX2_acceptOperand_2 (by decide) (fun c_2 => ?_) (fun c_2 => ?_)
  · refine mJ_aload_n hK dX2_acceptOperand_7 rfl ?_
    refine xJ_getx (nI 9) hR hK dX2_acceptOperand_8 fX2_21 (by unfold xV; omega) (fun _ _ => rfl) (by decide) rfl (by first | exact hp | (simp [fr, upd]; exact hp)) ?_
    refine mJ_iconst (v := nI 1) hK dX2_acceptOperand_11 (by decide) ?_
    refine mJ_nne (tgt := 26) hK dX2_acceptOperand_12 (by decide) (by omega) (by omega) (fun c_12 => ?_) (fun c_12 => ?_)
    · refine mJ_aload_n hK dX2_acceptOperand_26 rfl ?_
      refine xJ_getx (nI 9) hR hK dX2_acceptOperand_27 fX2_21 (by unfold xV; omega) (fun _ _ => rfl) (by decide) rfl (by first | exact hp | (simp [fr, upd]; exact hp)) ?_
      refine mJ_iconst (v := nI 3) hK dX2_acceptOperand_30 (by decide) ?_
      refine mJ_nne (tgt := 56) hK dX2_acceptOperand_31 (by decide) (by omega) (by omega) (fun c_31 => ?_) (fun c_31 => ?_)
      · refine mJ_aload_n hK dX2_acceptOperand_56 rfl ?_
        refine xJ_getr hR hK dX2_acceptOperand_57 fX2_12 (by unfold xV; omega) (fun _ _ => rfl) (by decide) (fun _ _ => rfl) ?_
        refine mJ_aload_n hK dX2_acceptOperand_60 rfl ?_
        refine xJ_geti hR hK dX2_acceptOperand_61 fX2_54 (by unfold xV; omega) (fun _ _ => rfl) (by decide) rfl ?_
        refine mJ_iload_n hK dX2_acceptOperand_64 rfl ?_
        refine mJ_cVv hK dX2_acceptOperand_65 lX2_79 (by unfold mFit; decide) (by decide) (k_X1_addOperand hR hr hm hm1 hm4 hk hk3 _ _) rfl rfl (Nat.le_of_ble_eq_true rfl) (hR.1 _ _ _ (by unfold xV; omega)) ⟨_, _, rfl⟩ (fun h hR => ?_)
        refine mJ_aload_n hK dX2_acceptOperand_68 rfl ?_
        refine mJ_bipush (v := nI 10) hK dX2_acceptOperand_69 (by decide) ?_
        refine mJ_cVi hK dX2_acceptOperand_71 lX2_39 (by unfold mFit; decide) (by decide) (k_X2_goTo hR _) rfl rfl (Nat.le_of_ble_eq_true rfl) (hR.1 _ _ _ (by unfold xV; omega)) ⟨_, _, rfl⟩ (fun h hR => ?_)
        refine mJ_zret hK dX2_acceptOperand_74 rfl (by decide) hZ (by decide) (by decide) ?_
        exact ⟨rfl, hR⟩
      · exact absurd c_31 (by omega)
    · exact absurd c_12 (by omega)
  · exact absurd c_2 (nI_m1 (by omega))

theorem k_X2_acceptOperand_9 {l : Launch} {D : va_G} {aC : Nat → ClassId} {ad : xAd} {h0 h : mH} {F : xFm} {W : xWm} {pm : Nat → Nat} (hR : xR xV ad h0 F W pm h) (hr : pm 8 < 9) (hp : F 2 0 0 1 = nI 9) {m : Nat} (hm : F 17 (pm 8) 0 5 = nI m) (hm1 : 0 < m) (hm4 : m ≤ 4) {k : Nat} (hk : F 20 (pm 8) 0 (m - 1) = nI k) (hk3 : k < 3) {o : Option Nat} (ho : ∀ a, o = some a → a < 18) : mCon l D aC mX2_acceptOperand [.ref (ad 2 0 0), .int (opI o)] h (mRi (bI ((o.map (fun a => ao9 F (pm 8) m k a)).isSome = true)) (fun h' => xR xV ad h0 ((o.map (fun a => ao9 F (pm 8) m k a)).getD F) W pm h')) := by
  cases o with
  | none =>
    intro w sz hs
    have := k_X2_acceptOperand_1n (l := l) (D := D) (aC := aC) hR hr w sz hs
    refine mMet_mono this ?_
    rintro r h' ⟨rfl, rfl⟩
    exact ⟨rfl, hR⟩
  | some a => exact k_X2_acceptOperand_9s hR hr hp hm hm1 hm4 hk hk3 (ho a rfl)
set_option maxRecDepth 100000 in
set_option maxHeartbeats 4000000 in
theorem k_X2_accept_0 {l : Launch} {D : va_G} {aC : Nat → ClassId} {ad : xAd} {h0 h : mH} {F : xFm} {W : xWm} {pm : Nat → Nat} (hR : xR xV ad h0 F W pm h) (hr : pm 8 < 9) {cd : Nat} (hcd : cd < 1000) (hp : F 2 0 0 1 = nI 0)  : mCon l D aC mX2_accept [.ref (ad 2 0 0), .int (nI cd)] h (mRi (bI ((apP F (pm 8) cd).isSome = true)) (fun h' => xR xV ad h0 ((apP F (pm 8) cd).getD F) W pm h')) := by
  refine mCon.of [some (.ref (ad 2 0 0)), some (.int (nI cd))] (by decide +kernel) rfl (Nat.le_of_ble_eq_true rfl) ?_
  intro K el eD eC hK hZ
  subst el eD eC
  refine mJ_aload_n hK dX2_accept_0 rfl ?_
  refine xJ_getx (nI 0) hR hK dX2_accept_1 fX2_21 (by unfold xV; omega) (fun _ _ => rfl) (by decide) rfl (hp) ?_
  refine mJ_tabIn (off := 56) (tgt := 60) hK dX2_accept_4 (by decide) (by decide) (by decide) (by decide) ?_
  refine mJ_aload_n hK dX2_accept_60 rfl ?_
  refine mJ_iload_n hK dX2_accept_61 rfl ?_
  refine mJ_cVi hK dX2_accept_62 lX2_25 (by unfold mFit; decide) (by decide) (k_X2_acceptInPattern hR hr hcd) rfl rfl (Nat.le_of_ble_eq_true rfl) (hR.1 _ _ _ (by unfold xV; omega)) ⟨_, _, rfl⟩ (fun h hR => ?_)
  refine mJ_zret hK dX2_accept_65 rfl bI_nar hZ (by decide) (by decide) ?_
  exact ⟨rfl, hR⟩

set_option maxRecDepth 100000 in
set_option maxHeartbeats 4000000 in
theorem k_X2_accept_2 {l : Launch} {D : va_G} {aC : Nat → ClassId} {ad : xAd} {h0 h : mH} {F : xFm} {W : xWm} {pm : Nat → Nat} (hR : xR xV ad h0 F W pm h) (hr : pm 8 < 9) {cd : Nat} (hcd : cd < 1000) (hp : F 2 0 0 1 = nI 2)  : mCon l D aC mX2_accept [.ref (ad 2 0 0), .int (nI cd)] h (mRi (bI ((agP F cd).isSome = true)) (fun h' => xR xV ad h0 ((agP F cd).getD F) W pm h')) := by
  refine mCon.of [some (.ref (ad 2 0 0)), some (.int (nI cd))] (by decide +kernel) rfl (Nat.le_of_ble_eq_true rfl) ?_
  intro K el eD eC hK hZ
  subst el eD eC
  refine mJ_aload_n hK dX2_accept_0 rfl ?_
  refine xJ_getx (nI 2) hR hK dX2_accept_1 fX2_21 (by unfold xV; omega) (fun _ _ => rfl) (by decide) rfl (hp) ?_
  refine mJ_tabIn (off := 72) (tgt := 76) hK dX2_accept_4 (by decide) (by decide) (by decide) (by decide) ?_
  refine mJ_aload_n hK dX2_accept_76 rfl ?_
  refine mJ_iload_n hK dX2_accept_77 rfl ?_
  refine mJ_cVi hK dX2_accept_78 lX2_36 (by unfold mFit; decide) (by decide) (k_X2_acceptGuardSign hR hr hcd) rfl rfl (Nat.le_of_ble_eq_true rfl) (hR.1 _ _ _ (by unfold xV; omega)) ⟨_, _, rfl⟩ (fun h hR => ?_)
  refine mJ_zret hK dX2_accept_81 rfl bI_nar hZ (by decide) (by decide) ?_
  exact ⟨rfl, hR⟩

set_option maxRecDepth 100000 in
set_option maxHeartbeats 4000000 in
theorem k_X2_accept_1 {l : Launch} {D : va_G} {aC : Nat → ClassId} {ad : xAd} {h0 h : mH} {F : xFm} {W : xWm} {pm : Nat → Nat} (hR : xR xV ad h0 F W pm h) (hr : pm 8 < 9) {cd : Nat} (hcd : cd < 1000) (hp : F 2 0 0 1 = nI 1)  : mCon l D aC mX2_accept [.ref (ad 2 0 0), .int (nI cd)] h (mRi (bI (((opN (F 17 (pm 8) 0 0) cd).map (fun a => ao1 F a)).isSome = true)) (fun h' => xR xV ad h0 (((opN (F 17 (pm 8) 0 0) cd).map (fun a => ao1 F a)).getD F) W pm h')) := by
  refine mCon.of [some (.ref (ad 2 0 0)), some (.int (nI cd))] (by decide +kernel) rfl (Nat.le_of_ble_eq_true rfl) ?_
  intro K el eD eC hK hZ
  subst el eD eC
  refine mJ_aload_n hK dX2_accept_0 rfl ?_
  refine xJ_getx (nI 1) hR hK dX2_accept_1 fX2_21 (by unfold xV; omega) (fun _ _ => rfl) (by decide) rfl (hp) ?_
  refine mJ_tabIn (off := 62) (tgt := 66) hK dX2_accept_4 (by decide) (by decide) (by decide) (by decide) ?_
  refine mJ_aload_n hK dX2_accept_66 rfl ?_
  refine mJ_aload_n hK dX2_accept_67 rfl ?_
  refine mJ_iload_n hK dX2_accept_68 rfl ?_
  refine mJ_cVi hK dX2_accept_69 lX2_29 (by unfold mFit; decide) (by decide) (k_X2_operandOf hR hr hcd) rfl rfl (Nat.le_of_ble_eq_true rfl) (hR.1 _ _ _ (by unfold xV; omega)) ⟨_, _, rfl⟩ (fun h e9 => ?_)
  subst e9
  refine mJ_cVi hK dX2_accept_72 lX2_33 (by unfold mFit; decide) (by decide) (k_X2_acceptOperand_1 hR hr hp (fun _ => opN_lt)) rfl rfl (Nat.le_of_ble_eq_true rfl) (hR.1 _ _ _ (by unfold xV; omega)) ⟨_, _, rfl⟩ (fun h hR => ?_)
  refine mJ_zret hK dX2_accept_75 rfl bI_nar hZ (by decide) (by decide) ?_
  exact ⟨rfl, hR⟩

set_option maxRecDepth 100000 in
set_option maxHeartbeats 4000000 in
theorem k_X2_accept_3 {l : Launch} {D : va_G} {aC : Nat → ClassId} {ad : xAd} {h0 h : mH} {F : xFm} {W : xWm} {pm : Nat → Nat} (hR : xR xV ad h0 F W pm h) (hr : pm 8 < 9) {cd : Nat} (hcd : cd < 1000) (hp : F 2 0 0 1 = nI 3)  : mCon l D aC mX2_accept [.ref (ad 2 0 0), .int (nI cd)] h (mRi (bI (((opN (F 17 (pm 8) 0 0) cd).map (fun a => ao3 F (pm 8) a)).isSome = true)) (fun h' => xR xV ad h0 (((opN (F 17 (pm 8) 0 0) cd).map (fun a => ao3 F (pm 8) a)).getD F) W pm h')) := by
  refine mCon.of [some (.ref (ad 2 0 0)), some (.int (nI cd))] (by decide +kernel) rfl (Nat.le_of_ble_eq_true rfl) ?_
  intro K el eD eC hK hZ
  subst el eD eC
  refine mJ_aload_n hK dX2_accept_0 rfl ?_
  refine xJ_getx (nI 3) hR hK dX2_accept_1 fX2_21 (by unfold xV; omega) (fun _ _ => rfl) (by decide) rfl (hp) ?_
  refine mJ_tabIn (off := 62) (tgt := 66) hK dX2_accept_4 (by decide) (by decide) (by decide) (by decide) ?_
  refine mJ_aload_n hK dX2_accept_66 rfl ?_
  refine mJ_aload_n hK dX2_accept_67 rfl ?_
  refine mJ_iload_n hK dX2_accept_68 rfl ?_
  refine mJ_cVi hK dX2_accept_69 lX2_29 (by unfold mFit; decide) (by decide) (k_X2_operandOf hR hr hcd) rfl rfl (Nat.le_of_ble_eq_true rfl) (hR.1 _ _ _ (by unfold xV; omega)) ⟨_, _, rfl⟩ (fun h e9 => ?_)
  subst e9
  refine mJ_cVi hK dX2_accept_72 lX2_33 (by unfold mFit; decide) (by decide) (k_X2_acceptOperand_3 hR hr hp (fun _ => opN_lt)) rfl rfl (Nat.le_of_ble_eq_true rfl) (hR.1 _ _ _ (by unfold xV; omega)) ⟨_, _, rfl⟩ (fun h hR => ?_)
  refine mJ_zret hK dX2_accept_75 rfl bI_nar hZ (by decide) (by decide) ?_
  exact ⟨rfl, hR⟩

set_option maxRecDepth 100000 in
set_option maxHeartbeats 4000000 in
theorem k_X2_accept_9 {l : Launch} {D : va_G} {aC : Nat → ClassId} {ad : xAd} {h0 h : mH} {F : xFm} {W : xWm} {pm : Nat → Nat} (hR : xR xV ad h0 F W pm h) (hr : pm 8 < 9) {cd : Nat} (hcd : cd < 1000) (hp : F 2 0 0 1 = nI 9) {m : Nat} (hm : F 17 (pm 8) 0 5 = nI m) (hm1 : 0 < m) (hm4 : m ≤ 4) {k : Nat} (hk : F 20 (pm 8) 0 (m - 1) = nI k) (hk3 : k < 3) : mCon l D aC mX2_accept [.ref (ad 2 0 0), .int (nI cd)] h (mRi (bI (((opN (F 17 (pm 8) 0 0) cd).map (fun a => ao9 F (pm 8) m k a)).isSome = true)) (fun h' => xR xV ad h0 (((opN (F 17 (pm 8) 0 0) cd).map (fun a => ao9 F (pm 8) m k a)).getD F) W pm h')) := by
  refine mCon.of [some (.ref (ad 2 0 0)), some (.int (nI cd))] (by decide +kernel) rfl (Nat.le_of_ble_eq_true rfl) ?_
  intro K el eD eC hK hZ
  subst el eD eC
  refine mJ_aload_n hK dX2_accept_0 rfl ?_
  refine xJ_getx (nI 9) hR hK dX2_accept_1 fX2_21 (by unfold xV; omega) (fun _ _ => rfl) (by decide) rfl (hp) ?_
  refine mJ_tabIn (off := 62) (tgt := 66) hK dX2_accept_4 (by decide) (by decide) (by decide) (by decide) ?_
  refine mJ_aload_n hK dX2_accept_66 rfl ?_
  refine mJ_aload_n hK dX2_accept_67 rfl ?_
  refine mJ_iload_n hK dX2_accept_68 rfl ?_
  refine mJ_cVi hK dX2_accept_69 lX2_29 (by unfold mFit; decide) (by decide) (k_X2_operandOf hR hr hcd) rfl rfl (Nat.le_of_ble_eq_true rfl) (hR.1 _ _ _ (by unfold xV; omega)) ⟨_, _, rfl⟩ (fun h e9 => ?_)
  subst e9
  refine mJ_cVi hK dX2_accept_72 lX2_33 (by unfold mFit; decide) (by decide) (k_X2_acceptOperand_9 hR hr hp hm hm1 hm4 hk hk3 (fun _ => opN_lt)) rfl rfl (Nat.le_of_ble_eq_true rfl) (hR.1 _ _ _ (by unfold xV; omega)) ⟨_, _, rfl⟩ (fun h hR => ?_)
  refine mJ_zret hK dX2_accept_75 rfl bI_nar hZ (by decide) (by decide) ?_
  exact ⟨rfl, hR⟩

set_option maxRecDepth 100000 in
set_option maxHeartbeats 4000000 in
theorem k_X2_accept_4 {l : Launch} {D : va_G} {aC : Nat → ClassId} {ad : xAd} {h0 h : mH} {F : xFm} {W : xWm} {pm : Nat → Nat} (hR : xR xV ad h0 F W pm h) (hr : pm 8 < 9) {cd : Nat} (hcd : cd < 1000) (hp : F 2 0 0 1 = nI 4)  : mCon l D aC mX2_accept [.ref (ad 2 0 0), .int (nI cd)] h (mRi (bI ((acP F cd).isSome = true)) (fun h' => xR xV ad h0 ((acP F cd).getD F) W pm h')) := by
  refine mCon.of [some (.ref (ad 2 0 0)), some (.int (nI cd))] (by decide +kernel) rfl (Nat.le_of_ble_eq_true rfl) ?_
  intro K el eD eC hK hZ
  subst el eD eC
  refine mJ_aload_n hK dX2_accept_0 rfl ?_
  refine xJ_getx (nI 4) hR hK dX2_accept_1 fX2_21 (by unfold xV; omega) (fun _ _ => rfl) (by decide) rfl (hp) ?_
  refine mJ_tabIn (off := 78) (tgt := 82) hK dX2_accept_4 (by decide) (by decide) (by decide) (by decide) ?_
  refine mJ_iload_n hK dX2_accept_82 rfl ?_
  refine mJ_bipush (v := nI 58) hK dX2_accept_83 (by decide) ?_
  refine mJ_nne (tgt := 100) hK dX2_accept_85 (by decide) (by omega) (by omega) (fun c_85 => ?_) (fun c_85 => ?_)
  · refine mJ_iconst (v := nI 0) hK dX2_accept_100 (by decide) ?_
    refine mJ_zret hK dX2_accept_101 rfl (by decide) hZ (by decide) (by decide) ?_
    refine ⟨congrArg (fun z => some (Value.int z)) ?_, xR_ext hR ?_⟩
    · simp only [acP, c_85, ↓reduceIte, or_true, true_or, or_self, and_self, and_true, true_and, and_false, false_and, not_true_eq_false, not_false_eq_true, or_false, false_or]
      first | exact (bI_t rfl).symm | exact (bI_f (fun z => by cases z)).symm
    · simp only [acP, c_85, ↓reduceIte, or_true, true_or, or_self, and_self, and_true, true_and, and_false, false_and, not_true_eq_false, not_false_eq_true, or_false, false_or]
      rfl
  · refine mJ_aload_n hK dX2_accept_88 rfl ?_
    refine mJ_iconst (v := nI 5) hK dX2_accept_89 (by decide) ?_
    refine mJ_cVi hK dX2_accept_90 lX2_39 (by unfold mFit; decide) (by decide) (k_X2_goTo hR _) rfl rfl (Nat.le_of_ble_eq_true rfl) (hR.1 _ _ _ (by unfold xV; omega)) ⟨_, _, rfl⟩ (fun h hR => ?_)
    refine mJ_nif_eq (tgt := 100) hK dX2_accept_93 (by decide) (by omega) (fun c_93 => ?_) (fun c_93 => ?_)
    · exact absurd c_93 (by omega)
    · refine mJ_iconst (v := nI 1) hK dX2_accept_96 (by decide) ?_
      refine mJ_goto (tgt := 101) hK dX2_accept_97 (by decide) ?_
      refine mJ_zret hK dX2_accept_101 rfl (by decide) hZ (by decide) (by decide) ?_
      refine ⟨congrArg (fun z => some (Value.int z)) ?_, xR_ext hR ?_⟩
      · simp only [acP, c_85, c_93, ↓reduceIte, or_true, true_or, or_self, and_self, and_true, true_and, and_false, false_and, not_true_eq_false, not_false_eq_true, or_false, false_or]
        first | exact (bI_t rfl).symm | exact (bI_f (fun z => by cases z)).symm
      · simp only [acP, c_85, c_93, ↓reduceIte, or_true, true_or, or_self, and_self, and_true, true_and, and_false, false_and, not_true_eq_false, not_false_eq_true, or_false, false_or]
        rfl

set_option maxRecDepth 100000 in
set_option maxHeartbeats 4000000 in
theorem k_X2_accept_5 {l : Launch} {D : va_G} {aC : Nat → ClassId} {ad : xAd} {h0 h : mH} {F : xFm} {W : xWm} {pm : Nat → Nat} (hR : xR xV ad h0 F W pm h) (hr : pm 8 < 9) {cd : Nat} (hcd : cd < 1000) (hp : F 2 0 0 1 = nI 5) {m : Nat} (hm : F 17 (pm 8) 0 5 = nI m) (hm4 : m < 4) : mCon l D aC mX2_accept [.ref (ad 2 0 0), .int (nI cd)] h (mRi (bI ((atP F (pm 8) m cd).isSome = true)) (fun h' => xR xV ad h0 ((atP F (pm 8) m cd).getD F) W pm h')) := by
  refine mCon.of [some (.ref (ad 2 0 0)), some (.int (nI cd))] (by decide +kernel) rfl (Nat.le_of_ble_eq_true rfl) ?_
  intro K el eD eC hK hZ
  subst el eD eC
  refine mJ_aload_n hK dX2_accept_0 rfl ?_
  refine xJ_getx (nI 5) hR hK dX2_accept_1 fX2_21 (by unfold xV; omega) (fun _ _ => rfl) (by decide) rfl (hp) ?_
  refine mJ_tabIn (off := 98) (tgt := 102) hK dX2_accept_4 (by decide) (by decide) (by decide) (by decide) ?_
  refine mJ_aload_n hK dX2_accept_102 rfl ?_
  refine mJ_iload_n hK dX2_accept_103 rfl ?_
  refine mJ_cVi hK dX2_accept_104 lX2_42 (by unfold mFit; decide) (by decide) (k_X2_acceptTarget hR hr hcd hm hm4) rfl rfl (Nat.le_of_ble_eq_true rfl) (hR.1 _ _ _ (by unfold xV; omega)) ⟨_, _, rfl⟩ (fun h hR => ?_)
  refine mJ_zret hK dX2_accept_107 rfl bI_nar hZ (by decide) (by decide) ?_
  exact ⟨rfl, hR⟩

set_option maxRecDepth 100000 in
set_option maxHeartbeats 4000000 in
theorem k_X2_accept_6 {l : Launch} {D : va_G} {aC : Nat → ClassId} {ad : xAd} {h0 h : mH} {F : xFm} {W : xWm} {pm : Nat → Nat} (hR : xR xV ad h0 F W pm h) (hr : pm 8 < 9) {cd : Nat} (hcd : cd < 1000) (hp : F 2 0 0 1 = nI 6) {m : Nat} (hm : F 17 (pm 8) 0 5 = nI m) (hm4 : m < 4) : mCon l D aC mX2_accept [.ref (ad 2 0 0), .int (nI cd)] h (mRi (bI ((atP F (pm 8) m cd).isSome = true)) (fun h' => xR xV ad h0 ((atP F (pm 8) m cd).getD F) W pm h')) := by
  refine mCon.of [some (.ref (ad 2 0 0)), some (.int (nI cd))] (by decide +kernel) rfl (Nat.le_of_ble_eq_true rfl) ?_
  intro K el eD eC hK hZ
  subst el eD eC
  refine mJ_aload_n hK dX2_accept_0 rfl ?_
  refine xJ_getx (nI 6) hR hK dX2_accept_1 fX2_21 (by unfold xV; omega) (fun _ _ => rfl) (by decide) rfl (hp) ?_
  refine mJ_tabIn (off := 98) (tgt := 102) hK dX2_accept_4 (by decide) (by decide) (by decide) (by decide) ?_
  refine mJ_aload_n hK dX2_accept_102 rfl ?_
  refine mJ_iload_n hK dX2_accept_103 rfl ?_
  refine mJ_cVi hK dX2_accept_104 lX2_42 (by unfold mFit; decide) (by decide) (k_X2_acceptTarget hR hr hcd hm hm4) rfl rfl (Nat.le_of_ble_eq_true rfl) (hR.1 _ _ _ (by unfold xV; omega)) ⟨_, _, rfl⟩ (fun h hR => ?_)
  refine mJ_zret hK dX2_accept_107 rfl bI_nar hZ (by decide) (by decide) ?_
  exact ⟨rfl, hR⟩

set_option maxRecDepth 100000 in
set_option maxHeartbeats 4000000 in
theorem k_X2_accept_7 {l : Launch} {D : va_G} {aC : Nat → ClassId} {ad : xAd} {h0 h : mH} {F : xFm} {W : xWm} {pm : Nat → Nat} (hR : xR xV ad h0 F W pm h) (hr : pm 8 < 9) {cd : Nat} (hcd : cd < 1000) (hp : F 2 0 0 1 = nI 7) {m : Nat} (hm : F 17 (pm 8) 0 5 = nI m) (hm4 : m < 4) : mCon l D aC mX2_accept [.ref (ad 2 0 0), .int (nI cd)] h (mRi (bI ((arP F (pm 8) m cd).isSome = true)) (fun h' => xR xV ad h0 ((arP F (pm 8) m cd).getD F) W pm h')) := by
  refine mCon.of [some (.ref (ad 2 0 0)), some (.int (nI cd))] (by decide +kernel) rfl (Nat.le_of_ble_eq_true rfl) ?_
  intro K el eD eC hK hZ
  subst el eD eC
  refine mJ_aload_n hK dX2_accept_0 rfl ?_
  refine xJ_getx (nI 7) hR hK dX2_accept_1 fX2_21 (by unfold xV; omega) (fun _ _ => rfl) (by decide) rfl (hp) ?_
  refine mJ_tabIn (off := 104) (tgt := 108) hK dX2_accept_4 (by decide) (by decide) (by decide) (by decide) ?_
  refine mJ_aload_n hK dX2_accept_108 rfl ?_
  refine mJ_iload_n hK dX2_accept_109 rfl ?_
  refine mJ_cVi hK dX2_accept_110 lX2_45 (by unfold mFit; decide) (by decide) (k_X2_acceptReplyChannel hR hr hcd hm hm4) rfl rfl (Nat.le_of_ble_eq_true rfl) (hR.1 _ _ _ (by unfold xV; omega)) ⟨_, _, rfl⟩ (fun h hR => ?_)
  refine mJ_zret hK dX2_accept_113 rfl bI_nar hZ (by decide) (by decide) ?_
  exact ⟨rfl, hR⟩

set_option maxRecDepth 100000 in
set_option maxHeartbeats 4000000 in
theorem k_X2_accept_8 {l : Launch} {D : va_G} {aC : Nat → ClassId} {ad : xAd} {h0 h : mH} {F : xFm} {W : xWm} {pm : Nat → Nat} (hR : xR xV ad h0 F W pm h) (hr : pm 8 < 9) {cd : Nat} (hcd : cd < 1000) (hp : F 2 0 0 1 = nI 8)  : mCon l D aC mX2_accept [.ref (ad 2 0 0), .int (nI cd)] h (mRi (bI ((aeP F cd).isSome = true)) (fun h' => xR xV ad h0 ((aeP F cd).getD F) W pm h')) := by
  refine mCon.of [some (.ref (ad 2 0 0)), some (.int (nI cd))] (by decide +kernel) rfl (Nat.le_of_ble_eq_true rfl) ?_
  intro K el eD eC hK hZ
  subst el eD eC
  refine mJ_aload_n hK dX2_accept_0 rfl ?_
  refine xJ_getx (nI 8) hR hK dX2_accept_1 fX2_21 (by unfold xV; omega) (fun _ _ => rfl) (by decide) rfl (hp) ?_
  refine mJ_tabIn (off := 110) (tgt := 114) hK dX2_accept_4 (by decide) (by decide) (by decide) (by decide) ?_
  refine mJ_iload_n hK dX2_accept_114 rfl ?_
  refine mJ_bipush (v := nI 61) hK dX2_accept_115 (by decide) ?_
  refine mJ_nne (tgt := 133) hK dX2_accept_117 (by decide) (by omega) (by omega) (fun c_117 => ?_) (fun c_117 => ?_)
  · refine mJ_iconst (v := nI 0) hK dX2_accept_133 (by decide) ?_
    refine mJ_zret hK dX2_accept_134 rfl (by decide) hZ (by decide) (by decide) ?_
    refine ⟨congrArg (fun z => some (Value.int z)) ?_, xR_ext hR ?_⟩
    · simp only [aeP, c_117, ↓reduceIte, or_true, true_or, or_self, and_self, and_true, true_and, and_false, false_and, not_true_eq_false, not_false_eq_true, or_false, false_or]
      first | exact (bI_t rfl).symm | exact (bI_f (fun z => by cases z)).symm
    · simp only [aeP, c_117, ↓reduceIte, or_true, true_or, or_self, and_self, and_true, true_and, and_false, false_and, not_true_eq_false, not_false_eq_true, or_false, false_or]
      rfl
  · refine mJ_aload_n hK dX2_accept_120 rfl ?_
    refine mJ_bipush (v := nI 43) hK dX2_accept_121 (by decide) ?_
    refine mJ_cVi hK dX2_accept_123 lX2_48 (by unfold mFit; decide) (by decide) (k_X2_goToOperand hR _) rfl rfl (Nat.le_of_ble_eq_true rfl) (hR.1 _ _ _ (by unfold xV; omega)) ⟨_, _, rfl⟩ (fun h hR => ?_)
    refine mJ_nif_eq (tgt := 133) hK dX2_accept_126 (by decide) (by omega) (fun c_126 => ?_) (fun c_126 => ?_)
    · exact absurd c_126 (by omega)
    · refine mJ_iconst (v := nI 1) hK dX2_accept_129 (by decide) ?_
      refine mJ_goto (tgt := 134) hK dX2_accept_130 (by decide) ?_
      refine mJ_zret hK dX2_accept_134 rfl (by decide) hZ (by decide) (by decide) ?_
      refine ⟨congrArg (fun z => some (Value.int z)) ?_, xR_ext hR ?_⟩
      · simp only [aeP, c_117, c_126, ↓reduceIte, or_true, true_or, or_self, and_self, and_true, true_and, and_false, false_and, not_true_eq_false, not_false_eq_true, or_false, false_or]
        first | exact (bI_t rfl).symm | exact (bI_f (fun z => by cases z)).symm
      · simp only [aeP, c_117, c_126, ↓reduceIte, or_true, true_or, or_self, and_self, and_true, true_and, and_false, false_and, not_true_eq_false, not_false_eq_true, or_false, false_or]
        rfl

set_option maxRecDepth 100000 in
set_option maxHeartbeats 4000000 in
theorem k_X2_accept_10 {l : Launch} {D : va_G} {aC : Nat → ClassId} {ad : xAd} {h0 h : mH} {F : xFm} {W : xWm} {pm : Nat → Nat} (hR : xR xV ad h0 F W pm h) (hr : pm 8 < 9) {cd : Nat} (hcd : cd < 1000) (hp : F 2 0 0 1 = nI 10) {m : Nat} (hm : F 17 (pm 8) 0 5 = nI m) (hm1 : 0 < m) (hm4 : m ≤ 4) {k : Nat} (hk : F 20 (pm 8) 0 (m - 1) = nI k) (hk3 : k ≤ 3) : mCon l D aC mX2_accept [.ref (ad 2 0 0), .int (nI cd)] h (mRi (bI ((abP F m k cd).isSome = true)) (fun h' => xR xV ad h0 ((abP F m k cd).getD F) W pm h')) := by
  refine mCon.of [some (.ref (ad 2 0 0)), some (.int (nI cd))] (by decide +kernel) rfl (Nat.le_of_ble_eq_true rfl) ?_
  intro K el eD eC hK hZ
  subst el eD eC
  refine mJ_aload_n hK dX2_accept_0 rfl ?_
  refine xJ_getx (nI 10) hR hK dX2_accept_1 fX2_21 (by unfold xV; omega) (fun _ _ => rfl) (by decide) rfl (hp) ?_
  refine mJ_tabOut (tgt := 135) hK dX2_accept_4 (by decide) (by decide) ?_
  refine mJ_aload_n hK dX2_accept_135 rfl ?_
  refine mJ_iload_n hK dX2_accept_136 rfl ?_
  refine mJ_cVi hK dX2_accept_137 lX2_51 (by unfold mFit; decide) (by decide) (k_X2_acceptBehindOperand hR hr hcd hm hm1 hm4 hk hk3) rfl rfl (Nat.le_of_ble_eq_true rfl) (hR.1 _ _ _ (by unfold xV; omega)) ⟨_, _, rfl⟩ (fun h hR => ?_)
  refine mJ_zret hK dX2_accept_140 rfl bI_nar hZ (by decide) (by decide) ?_
  exact ⟨rfl, hR⟩

set_option maxRecDepth 100000 in
set_option maxHeartbeats 4000000 in
theorem k_X2_begin {l : Launch} {D : va_G} {aC : Nat → ClassId} {ad : xAd} {h0 h : mH} {F : xFm} {W : xWm} {pm : Nat → Nat} (hR : xR xV ad h0 F W pm h) (hr : pm 8 < 9) : mCon l D aC mX2_begin [.ref (ad 2 0 0)] h (mRv (fun h' => xR xV ad h0 (xGo (xCl F (pm 8)) (nI 0)) W pm h')) := by
  refine mCon.of [some (.ref (ad 2 0 0))] (by decide +kernel) rfl (Nat.le_of_ble_eq_true rfl) ?_
  intro K el eD eC hK hZ
  subst el eD eC
  refine mJ_aload_n hK dX2_begin_0 rfl ?_
  refine xJ_getr hR hK dX2_begin_1 fX2_12 (by unfold xV; omega) (fun _ _ => rfl) (by decide) (fun _ _ => rfl) ?_
  refine mJ_cVv hK dX2_begin_4 lX2_18 (by unfold mFit; decide) (by decide) (k_X1_clear hR hr) rfl rfl (Nat.le_of_ble_eq_true rfl) (hR.1 _ _ _ (by unfold xV; omega)) ⟨_, _, rfl⟩ (fun h hR => ?_)
  refine mJ_aload_n hK dX2_begin_7 rfl ?_
  refine mJ_iconst (v := nI 0) hK dX2_begin_8 (by decide) ?_
  refine xJ_puti hR hK dX2_begin_9 fX2_21 sX2_1 rfl rfl (by unfold xV; omega) (fun _ _ => rfl) (by decide) rfl (fun h hR => ?_)
  refine mJ_vret hK dX2_begin_12 rfl hZ (by decide) (by decide) ?_
  exact ⟨rfl, hR⟩

set_option maxRecDepth 100000 in
set_option maxHeartbeats 4000000 in
theorem k_X2_isComplete {l : Launch} {D : va_G} {aC : Nat → ClassId} {ad : xAd} {h0 h : mH} {F : xFm} {W : xWm} {pm : Nat → Nat} (hR : xR xV ad h0 F W pm h) {p : Nat} (hp : F 2 0 0 1 = nI p) (hp9 : p < 1000) : mCon l D aC mX2_isComplete [.ref (ad 2 0 0)] h (mRi (bI (p = 5 ∨ p = 10)) (fun h' => h' = h)) := by
  refine mCon.of [some (.ref (ad 2 0 0))] (by decide +kernel) rfl (Nat.le_of_ble_eq_true rfl) ?_
  intro K el eD eC hK hZ
  subst el eD eC
  refine mJ_aload_n hK dX2_isComplete_0 rfl ?_
  refine xJ_getx (nI p) hR hK dX2_isComplete_1 fX2_21 (by unfold xV; omega) (fun _ _ => rfl) (by decide) rfl (hp) ?_
  refine mJ_iconst (v := nI 5) hK dX2_isComplete_4 (by decide) ?_
  refine mJ_neq (tgt := 17) hK dX2_isComplete_5 (by decide) (by omega) (by omega) (fun c_5 => ?_) (fun c_5 => ?_)
  · refine mJ_iconst (v := nI 1) hK dX2_isComplete_17 (by decide) ?_
    refine mJ_goto (tgt := 22) hK dX2_isComplete_18 (by decide) ?_
    refine mJ_zret hK dX2_isComplete_22 rfl (by decide) hZ (by decide) (by decide) ?_
    first | exact ⟨congrArg (fun z => some (Value.int z)) (b0 (by omega)), rfl⟩ | exact ⟨congrArg (fun z => some (Value.int z)) (b1 (by omega)), rfl⟩
  · refine mJ_aload_n hK dX2_isComplete_8 rfl ?_
    refine xJ_getx (nI p) hR hK dX2_isComplete_9 fX2_21 (by unfold xV; omega) (fun _ _ => rfl) (by decide) rfl (hp) ?_
    refine mJ_bipush (v := nI 10) hK dX2_isComplete_12 (by decide) ?_
    refine mJ_nne (tgt := 21) hK dX2_isComplete_14 (by decide) (by omega) (by omega) (fun c_14 => ?_) (fun c_14 => ?_)
    · refine mJ_iconst (v := nI 0) hK dX2_isComplete_21 (by decide) ?_
      refine mJ_zret hK dX2_isComplete_22 rfl (by decide) hZ (by decide) (by decide) ?_
      first | exact ⟨congrArg (fun z => some (Value.int z)) (b0 (by omega)), rfl⟩ | exact ⟨congrArg (fun z => some (Value.int z)) (b1 (by omega)), rfl⟩
    · refine mJ_iconst (v := nI 1) hK dX2_isComplete_17 (by decide) ?_
      refine mJ_goto (tgt := 22) hK dX2_isComplete_18 (by decide) ?_
      refine mJ_zret hK dX2_isComplete_22 rfl (by decide) hZ (by decide) (by decide) ?_
      first | exact ⟨congrArg (fun z => some (Value.int z)) (b0 (by omega)), rfl⟩ | exact ⟨congrArg (fun z => some (Value.int z)) (b1 (by omega)), rfl⟩
