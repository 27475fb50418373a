set_option maxRecDepth 100000 in
set_option maxHeartbeats 4000000 in
theorem hL_append {l : Launch} {D : va_G} {aC : Nat → ClassId} {h : mH} {x o : Nat} {p0 : Int32} {fs : List Value} {P : mH → Prop} (hx : h x = some (.inr (5, fs))) {v : Int32} {w : Nat → Int64} (hM : mCon l D aC mX5_append [.ref x, .int p0] h (mRi v P)) (hP : ∀ h', P h' → h' o = some (.inl (1, 1, .inr (.inl (w))))) : mHon l D aC mL_append hhL_append [.ref x, .int p0, .ref o] h (mRi (nI 0) (fun h2 => ∃ h1, P h1 ∧ h2 = mset h1 o (.inl (1, 1, .inr (.inl (vp_updL w 0 v.toInt64)))))) := by
  refine mHon.of [some (.ref x), some (.int p0), some (.ref o), none] (by decide +kernel) rfl (Nat.le_of_ble_eq_true rfl) ?_
  intro K el eD eC hK hZ hT hNo
  subst el eD eC
  refine mJ_aload_n hK dL_append_0 rfl ?_
  refine mJ_iconst (v := nI 0) hK dL_append_1 (by decide) ?_
  refine mJ_aload_n hK dL_append_2 rfl ?_
  refine mJ_iload_n hK dL_append_3 rfl ?_
  refine mJ_cVi hK dL_append_4 lL_7 (by unfold mFit; decide) (by decide) hM rfl rfl (Nat.le_of_ble_eq_true rfl) hx ⟨_, _, rfl⟩ (fun h1 hP1 => ?_)
  refine mJ_i2l hK dL_append_7 ?_
  refine mJ_lastN 0 hK dL_append_8 (hP h1 hP1) rfl (by omega) (by decide) ?_
  refine mJ_goto (tgt := 18) hK dL_append_9 (by decide) ?_
  refine mJ_iconst (v := nI 0) hK dL_append_18 (by decide) ?_
  refine mJ_iret hK dL_append_19 rfl hZ (by decide) (by decide) ?_
  exact ⟨rfl, h1, hP1, rfl⟩

set_option maxRecDepth 100000 in
set_option maxHeartbeats 4000000 in
theorem hL_append_x1 {l : Launch} {D : va_G} {aC : Nat → ClassId} {h : mH} {x o : Nat} {p0 : Int32} {fs : List Value} {P : mH → Prop} (hx : h x = some (.inr (5, fs))) (hM : mXon l D aC mX5_append [.ref x, .int p0] h (fun _ _ => False) (fun E h' => E = "java/lang/IllegalArgumentException" ∧ P h')) : mHon l D aC mL_append hhL_append [.ref x, .int p0, .ref o] h (mRi (nI 1) P) := by
  refine mHon.of [some (.ref x), some (.int p0), some (.ref o), none] (by decide +kernel) rfl (Nat.le_of_ble_eq_true rfl) ?_
  intro K el eD eC hK hZ hT hNo
  subst el eD eC
  refine mJ_aload_n hK dL_append_0 rfl ?_
  refine mJ_iconst (v := nI 0) hK dL_append_1 (by decide) ?_
  refine mJ_aload_n hK dL_append_2 rfl ?_
  refine mJ_iload_n hK dL_append_3 rfl ?_
  refine mJ_xC [] ⟨0, 9, 12, 13⟩ [⟨0, 9, 15, 15⟩] hT (fun z hz => absurd hz List.not_mem_nil) rfl (by decide) kL_13 (by decide +kernel) hK dL_append_4 lL_7 (by unfold mFit; decide) (by decide) rfl rfl (Nat.le_of_ble_eq_true rfl) hx ⟨_, _, rfl⟩ hM (fun q h1 hP1 => ?_)
  refine mJ_astore_n hK dL_append_12 (by decide) rfl ?_
  refine mJ_iconst (v := nI 1) hK dL_append_13 (by decide) ?_
  refine mJ_iret hK dL_append_14 rfl hZ (by decide) (by decide) ?_
  exact ⟨rfl, hP1⟩

set_option maxRecDepth 100000 in
set_option maxHeartbeats 4000000 in
theorem hL_append_x2 {l : Launch} {D : va_G} {aC : Nat → ClassId} {h : mH} {x o : Nat} {p0 : Int32} {fs : List Value} {P : mH → Prop} (hx : h x = some (.inr (5, fs))) (hM : mXon l D aC mX5_append [.ref x, .int p0] h (fun _ _ => False) (fun E h' => E = "java/lang/IllegalStateException" ∧ P h')) : mHon l D aC mL_append hhL_append [.ref x, .int p0, .ref o] h (mRi (nI 2) P) := by
  refine mHon.of [some (.ref x), some (.int p0), some (.ref o), none] (by decide +kernel) rfl (Nat.le_of_ble_eq_true rfl) ?_
  intro K el eD eC hK hZ hT hNo
  subst el eD eC
  refine mJ_aload_n hK dL_append_0 rfl ?_
  refine mJ_iconst (v := nI 0) hK dL_append_1 (by decide) ?_
  refine mJ_aload_n hK dL_append_2 rfl ?_
  refine mJ_iload_n hK dL_append_3 rfl ?_
  refine mJ_xC [⟨0, 9, 12, 13⟩] ⟨0, 9, 15, 15⟩ [] hT (fun z hz => by
    rcases List.mem_singleton.mp hz with rfl
    exact ⟨by decide, "java/lang/IllegalArgumentException", kL_13, hNo.1 ("java/lang/IllegalStateException", "java/lang/IllegalArgumentException") (by decide +kernel)⟩) rfl (by decide) kL_15 (by decide +kernel) hK dL_append_4 lL_7 (by unfold mFit; decide) (by decide) rfl rfl (Nat.le_of_ble_eq_true rfl) hx ⟨_, _, rfl⟩ hM (fun q h1 hP1 => ?_)
  refine mJ_astore_n hK dL_append_15 (by decide) rfl ?_
  refine mJ_iconst (v := nI 2) hK dL_append_16 (by decide) ?_
  refine mJ_iret hK dL_append_17 rfl hZ (by decide) (by decide) ?_
  exact ⟨rfl, hP1⟩

set_option maxRecDepth 100000 in
set_option maxHeartbeats 4000000 in
theorem hL_addRule {l : Launch} {D : va_G} {aC : Nat → ClassId} {h : mH} {x o : Nat} {fs : List Value} {P : mH → Prop} (hx : h x = some (.inr (5, fs))) {v : Int32} {w : Nat → Int64} (hM : mCon l D aC mX5_addRule [.ref x] h (mRi v P)) (hP : ∀ h', P h' → h' o = some (.inl (1, 1, .inr (.inl (w))))) : mHon l D aC mL_addRule hhL_addRule [.ref x, .ref o] h (mRi (nI 0) (fun h2 => ∃ h1, P h1 ∧ h2 = mset h1 o (.inl (1, 1, .inr (.inl (vp_updL w 0 v.toInt64)))))) := by
  refine mHon.of [some (.ref x), some (.ref o), none] (by decide +kernel) rfl (Nat.le_of_ble_eq_true rfl) ?_
  intro K el eD eC hK hZ hT hNo
  subst el eD eC
  refine mJ_aload_n hK dL_addRule_0 rfl ?_
  refine mJ_iconst (v := nI 0) hK dL_addRule_1 (by decide) ?_
  refine mJ_aload_n hK dL_addRule_2 rfl ?_
  refine mJ_cVi hK dL_addRule_3 lL_17 (by unfold mFit; decide) (by decide) hM rfl rfl (Nat.le_of_ble_eq_true rfl) hx ⟨_, _, rfl⟩ (fun h1 hP1 => ?_)
  refine mJ_i2l hK dL_addRule_6 ?_
  refine mJ_lastN 0 hK dL_addRule_7 (hP h1 hP1) rfl (by omega) (by decide) ?_
  refine mJ_goto (tgt := 17) hK dL_addRule_8 (by decide) ?_
  refine mJ_iconst (v := nI 0) hK dL_addRule_17 (by decide) ?_
  refine mJ_iret hK dL_addRule_18 rfl hZ (by decide) (by decide) ?_
  exact ⟨rfl, h1, hP1, rfl⟩

set_option maxRecDepth 100000 in
set_option maxHeartbeats 4000000 in
theorem hL_addRule_x1 {l : Launch} {D : va_G} {aC : Nat → ClassId} {h : mH} {x o : Nat} {fs : List Value} {P : mH → Prop} (hx : h x = some (.inr (5, fs))) (hM : mXon l D aC mX5_addRule [.ref x] h (fun _ _ => False) (fun E h' => E = "java/lang/IllegalArgumentException" ∧ P h')) : mHon l D aC mL_addRule hhL_addRule [.ref x, .ref o] h (mRi (nI 1) P) := by
  refine mHon.of [some (.ref x), some (.ref o), none] (by decide +kernel) rfl (Nat.le_of_ble_eq_true rfl) ?_
  intro K el eD eC hK hZ hT hNo
  subst el eD eC
  refine mJ_aload_n hK dL_addRule_0 rfl ?_
  refine mJ_iconst (v := nI 0) hK dL_addRule_1 (by decide) ?_
  refine mJ_aload_n hK dL_addRule_2 rfl ?_
  refine mJ_xC [] ⟨0, 8, 11, 13⟩ [⟨0, 8, 14, 15⟩] hT (fun z hz => absurd hz List.not_mem_nil) rfl (by decide) kL_13 (by decide +kernel) hK dL_addRule_3 lL_17 (by unfold mFit; decide) (by decide) rfl rfl (Nat.le_of_ble_eq_true rfl) hx ⟨_, _, rfl⟩ hM (fun q h1 hP1 => ?_)
  refine mJ_astore_n hK dL_addRule_11 (by decide) rfl ?_
  refine mJ_iconst (v := nI 1) hK dL_addRule_12 (by decide) ?_
  refine mJ_iret hK dL_addRule_13 rfl hZ (by decide) (by decide) ?_
  exact ⟨rfl, hP1⟩

set_option maxRecDepth 100000 in
set_option maxHeartbeats 4000000 in
theorem hL_addRule_x2 {l : Launch} {D : va_G} {aC : Nat → ClassId} {h : mH} {x o : Nat} {fs : List Value} {P : mH → Prop} (hx : h x = some (.inr (5, fs))) (hM : mXon l D aC mX5_addRule [.ref x] h (fun _ _ => False) (fun E h' => E = "java/lang/IllegalStateException" ∧ P h')) : mHon l D aC mL_addRule hhL_addRule [.ref x, .ref o] h (mRi (nI 2) P) := by
  refine mHon.of [some (.ref x), some (.ref o), none] (by decide +kernel) rfl (Nat.le_of_ble_eq_true rfl) ?_
  intro K el eD eC hK hZ hT hNo
  subst el eD eC
  refine mJ_aload_n hK dL_addRule_0 rfl ?_
  refine mJ_iconst (v := nI 0) hK dL_addRule_1 (by decide) ?_
  refine mJ_aload_n hK dL_addRule_2 rfl ?_
  refine mJ_xC [⟨0, 8, 11, 13⟩] ⟨0, 8, 14, 15⟩ [] hT (fun z hz => by
    rcases List.mem_singleton.mp hz with rfl
    exact ⟨by decide, "java/lang/IllegalArgumentException", kL_13, hNo.1 ("java/lang/IllegalStateException", "java/lang/IllegalArgumentException") (by decide +kernel)⟩) rfl (by decide) kL_15 (by decide +kernel) hK dL_addRule_3 lL_17 (by unfold mFit; decide) (by decide) rfl rfl (Nat.le_of_ble_eq_true rfl) hx ⟨_, _, rfl⟩ hM (fun q h1 hP1 => ?_)
  refine mJ_astore_n hK dL_addRule_14 (by decide) rfl ?_
  refine mJ_iconst (v := nI 2) hK dL_addRule_15 (by decide) ?_
  refine mJ_iret hK dL_addRule_16 rfl hZ (by decide) (by decide) ?_
  exact ⟨rfl, hP1⟩

set_option maxRecDepth 100000 in
set_option maxHeartbeats 4000000 in
theorem hL_removeRule {l : Launch} {D : va_G} {aC : Nat → ClassId} {h : mH} {x o : Nat} {p0 : Int32} {fs : List Value} {P : mH → Prop} (hx : h x = some (.inr (5, fs))) {v : Int32} {w : Nat → Int64} (hM : mCon l D aC mX5_removeRule [.ref x, .int p0] h (mRi v P)) (hP : ∀ h', P h' → h' o = some (.inl (1, 1, .inr (.inl (w))))) : mHon l D aC mL_removeRule hhL_removeRule [.ref x, .int p0, .ref o] h (mRi (nI 0) (fun h2 => ∃ h1, P h1 ∧ h2 = mset h1 o (.inl (1, 1, .inr (.inl (vp_updL w 0 v.toInt64)))))) := by
  refine mHon.of [some (.ref x), some (.int p0), some (.ref o), none] (by decide +kernel) rfl (Nat.le_of_ble_eq_true rfl) ?_
  intro K el eD eC hK hZ hT hNo
  subst el eD eC
  refine mJ_aload_n hK dL_removeRule_0 rfl ?_
  refine mJ_iconst (v := nI 0) hK dL_removeRule_1 (by decide) ?_
  refine mJ_aload_n hK dL_removeRule_2 rfl ?_
  refine mJ_iload_n hK dL_removeRule_3 rfl ?_
  refine mJ_cVi hK dL_removeRule_4 lL_21 (by unfold mFit; decide) (by decide) hM rfl rfl (Nat.le_of_ble_eq_true rfl) hx ⟨_, _, rfl⟩ (fun h1 hP1 => ?_)
  refine mJ_i2l hK dL_removeRule_7 ?_
  refine mJ_lastN 0 hK dL_removeRule_8 (hP h1 hP1) rfl (by omega) (by decide) ?_
  refine mJ_goto (tgt := 15) hK dL_removeRule_9 (by decide) ?_
  refine mJ_iconst (v := nI 0) hK dL_removeRule_15 (by decide) ?_
  refine mJ_iret hK dL_removeRule_16 rfl hZ (by decide) (by decide) ?_
  exact ⟨rfl, h1, hP1, rfl⟩

set_option maxRecDepth 100000 in
set_option maxHeartbeats 4000000 in
theorem hL_removeRule_x1 {l : Launch} {D : va_G} {aC : Nat → ClassId} {h : mH} {x o : Nat} {p0 : Int32} {fs : List Value} {P : mH → Prop} (hx : h x = some (.inr (5, fs))) (hM : mXon l D aC mX5_removeRule [.ref x, .int p0] h (fun _ _ => False) (fun E h' => E = "java/lang/IndexOutOfBoundsException" ∧ P h')) : mHon l D aC mL_removeRule hhL_removeRule [.ref x, .int p0, .ref o] h (mRi (nI 1) P) := by
  refine mHon.of [some (.ref x), some (.int p0), some (.ref o), none] (by decide +kernel) rfl (Nat.le_of_ble_eq_true rfl) ?_
  intro K el eD eC hK hZ hT hNo
  subst el eD eC
  refine mJ_aload_n hK dL_removeRule_0 rfl ?_
  refine mJ_iconst (v := nI 0) hK dL_removeRule_1 (by decide) ?_
  refine mJ_aload_n hK dL_removeRule_2 rfl ?_
  refine mJ_iload_n hK dL_removeRule_3 rfl ?_
  refine mJ_xC [] ⟨0, 9, 12, 24⟩ [] hT (fun z hz => absurd hz List.not_mem_nil) rfl (by decide) kL_24 (by decide +kernel) hK dL_removeRule_4 lL_21 (by unfold mFit; decide) (by decide) rfl rfl (Nat.le_of_ble_eq_true rfl) hx ⟨_, _, rfl⟩ hM (fun q h1 hP1 => ?_)
  refine mJ_astore_n hK dL_removeRule_12 (by decide) rfl ?_
  refine mJ_iconst (v := nI 1) hK dL_removeRule_13 (by decide) ?_
  refine mJ_iret hK dL_removeRule_14 rfl hZ (by decide) (by decide) ?_
  exact ⟨rfl, hP1⟩

set_option maxRecDepth 100000 in
set_option maxHeartbeats 4000000 in
theorem hL_patternOf {l : Launch} {D : va_G} {aC : Nat → ClassId} {h : mH} {x o : Nat} {p0 : Int32} {fs : List Value} {P : mH → Prop} (hx : h x = some (.inr (5, fs))) {v : Int32} {w : Nat → Int64} (hM : mCon l D aC mX5_patternOf [.ref x, .int p0] h (mRi v P)) (hP : ∀ h', P h' → h' o = some (.inl (1, 1, .inr (.inl (w))))) : mHon l D aC mL_patternOf hhL_patternOf [.ref x, .int p0, .ref o] h (mRi (nI 0) (fun h2 => ∃ h1, P h1 ∧ h2 = mset h1 o (.inl (1, 1, .inr (.inl (vp_updL w 0 v.toInt64)))))) := by
  refine mHon.of [some (.ref x), some (.int p0), some (.ref o), none] (by decide +kernel) rfl (Nat.le_of_ble_eq_true rfl) ?_
  intro K el eD eC hK hZ hT hNo
  subst el eD eC
  refine mJ_aload_n hK dL_patternOf_0 rfl ?_
  refine mJ_iconst (v := nI 0) hK dL_patternOf_1 (by decide) ?_
  refine mJ_aload_n hK dL_patternOf_2 rfl ?_
  refine mJ_iload_n hK dL_patternOf_3 rfl ?_
  refine mJ_cVi hK dL_patternOf_4 lL_26 (by unfold mFit; decide) (by decide) hM rfl rfl (Nat.le_of_ble_eq_true rfl) hx ⟨_, _, rfl⟩ (fun h1 hP1 => ?_)
  refine mJ_i2l hK dL_patternOf_7 ?_
  refine mJ_lastN 0 hK dL_patternOf_8 (hP h1 hP1) rfl (by omega) (by decide) ?_
  refine mJ_goto (tgt := 15) hK dL_patternOf_9 (by decide) ?_
  refine mJ_iconst (v := nI 0) hK dL_patternOf_15 (by decide) ?_
  refine mJ_iret hK dL_patternOf_16 rfl hZ (by decide) (by decide) ?_
  exact ⟨rfl, h1, hP1, rfl⟩

set_option maxRecDepth 100000 in
set_option maxHeartbeats 4000000 in
theorem hL_patternOf_x1 {l : Launch} {D : va_G} {aC : Nat → ClassId} {h : mH} {x o : Nat} {p0 : Int32} {fs : List Value} {P : mH → Prop} (hx : h x = some (.inr (5, fs))) (hM : mXon l D aC mX5_patternOf [.ref x, .int p0] h (fun _ _ => False) (fun E h' => E = "java/lang/IndexOutOfBoundsException" ∧ P h')) : mHon l D aC mL_patternOf hhL_patternOf [.ref x, .int p0, .ref o] h (mRi (nI 1) P) := by
  refine mHon.of [some (.ref x), some (.int p0), some (.ref o), none] (by decide +kernel) rfl (Nat.le_of_ble_eq_true rfl) ?_
  intro K el eD eC hK hZ hT hNo
  subst el eD eC
  refine mJ_aload_n hK dL_patternOf_0 rfl ?_
  refine mJ_iconst (v := nI 0) hK dL_patternOf_1 (by decide) ?_
  refine mJ_aload_n hK dL_patternOf_2 rfl ?_
  refine mJ_iload_n hK dL_patternOf_3 rfl ?_
  refine mJ_xC [] ⟨0, 9, 12, 24⟩ [] hT (fun z hz => absurd hz List.not_mem_nil) rfl (by decide) kL_24 (by decide +kernel) hK dL_patternOf_4 lL_26 (by unfold mFit; decide) (by decide) rfl rfl (Nat.le_of_ble_eq_true rfl) hx ⟨_, _, rfl⟩ hM (fun q h1 hP1 => ?_)
  refine mJ_astore_n hK dL_patternOf_12 (by decide) rfl ?_
  refine mJ_iconst (v := nI 1) hK dL_patternOf_13 (by decide) ?_
  refine mJ_iret hK dL_patternOf_14 rfl hZ (by decide) (by decide) ?_
  exact ⟨rfl, hP1⟩

set_option maxRecDepth 100000 in
set_option maxHeartbeats 4000000 in
theorem hL_setPolicy {l : Launch} {D : va_G} {aC : Nat → ClassId} {h : mH} {x o : Nat} {p0 : Int32} {fs : List Value} {P : mH → Prop} (hx : h x = some (.inr (5, fs))) {v : Int32} {w : Nat → Int64} (hM : mCon l D aC mX5_setPolicy [.ref x, .int p0] h (mRi v P)) (hP : ∀ h', P h' → h' o = some (.inl (1, 1, .inr (.inl (w))))) : mHon l D aC mL_setPolicy hhL_setPolicy [.ref x, .int p0, .ref o] h (mRi (nI 0) (fun h2 => ∃ h1, P h1 ∧ h2 = mset h1 o (.inl (1, 1, .inr (.inl (vp_updL w 0 v.toInt64)))))) := by
  refine mHon.of [some (.ref x), some (.int p0), some (.ref o), none] (by decide +kernel) rfl (Nat.le_of_ble_eq_true rfl) ?_
  intro K el eD eC hK hZ hT hNo
  subst el eD eC
  refine mJ_aload_n hK dL_setPolicy_0 rfl ?_
  refine mJ_iconst (v := nI 0) hK dL_setPolicy_1 (by decide) ?_
  refine mJ_aload_n hK dL_setPolicy_2 rfl ?_
  refine mJ_iload_n hK dL_setPolicy_3 rfl ?_
  refine mJ_cVi hK dL_setPolicy_4 lL_29 (by unfold mFit; decide) (by decide) hM rfl rfl (Nat.le_of_ble_eq_true rfl) hx ⟨_, _, rfl⟩ (fun h1 hP1 => ?_)
  refine mJ_i2l hK dL_setPolicy_7 ?_
  refine mJ_lastN 0 hK dL_setPolicy_8 (hP h1 hP1) rfl (by omega) (by decide) ?_
  refine mJ_goto (tgt := 15) hK dL_setPolicy_9 (by decide) ?_
  refine mJ_iconst (v := nI 0) hK dL_setPolicy_15 (by decide) ?_
  refine mJ_iret hK dL_setPolicy_16 rfl hZ (by decide) (by decide) ?_
  exact ⟨rfl, h1, hP1, rfl⟩

set_option maxRecDepth 100000 in
set_option maxHeartbeats 4000000 in
theorem hL_setPolicy_x1 {l : Launch} {D : va_G} {aC : Nat → ClassId} {h : mH} {x o : Nat} {p0 : Int32} {fs : List Value} {P : mH → Prop} (hx : h x = some (.inr (5, fs))) (hM : mXon l D aC mX5_setPolicy [.ref x, .int p0] h (fun _ _ => False) (fun E h' => E = "java/lang/IllegalArgumentException" ∧ P h')) : mHon l D aC mL_setPolicy hhL_setPolicy [.ref x, .int p0, .ref o] h (mRi (nI 1) P) := by
  refine mHon.of [some (.ref x), some (.int p0), some (.ref o), none] (by decide +kernel) rfl (Nat.le_of_ble_eq_true rfl) ?_
  intro K el eD eC hK hZ hT hNo
  subst el eD eC
  refine mJ_aload_n hK dL_setPolicy_0 rfl ?_
  refine mJ_iconst (v := nI 0) hK dL_setPolicy_1 (by decide) ?_
  refine mJ_aload_n hK dL_setPolicy_2 rfl ?_
  refine mJ_iload_n hK dL_setPolicy_3 rfl ?_
  refine mJ_xC [] ⟨0, 9, 12, 13⟩ [] hT (fun z hz => absurd hz List.not_mem_nil) rfl (by decide) kL_13 (by decide +kernel) hK dL_setPolicy_4 lL_29 (by unfold mFit; decide) (by decide) rfl rfl (Nat.le_of_ble_eq_true rfl) hx ⟨_, _, rfl⟩ hM (fun q h1 hP1 => ?_)
  refine mJ_astore_n hK dL_setPolicy_12 (by decide) rfl ?_
  refine mJ_iconst (v := nI 1) hK dL_setPolicy_13 (by decide) ?_
  refine mJ_iret hK dL_setPolicy_14 rfl hZ (by decide) (by decide) ?_
  exact ⟨rfl, hP1⟩

set_option maxRecDepth 100000 in
set_option maxHeartbeats 4000000 in
theorem hL_send {l : Launch} {D : va_G} {aC : Nat → ClassId} {h : mH} {x o : Nat} {p0 p1 : Int32} {fs : List Value} {P : mH → Prop} (hx : h x = some (.inr (5, fs))) {v : Int32} {w : Nat → Int64} (hM : mCon l D aC mX5_send [.ref x, .int p0, .int p1] h (mRi v P)) (hP : ∀ h', P h' → h' o = some (.inl (1, 1, .inr (.inl (w))))) : mHon l D aC mL_send hhL_send [.ref x, .int p0, .int p1, .ref o] h (mRi (nI 0) (fun h2 => ∃ h1, P h1 ∧ h2 = mset h1 o (.inl (1, 1, .inr (.inl (vp_updL w 0 v.toInt64)))))) := by
  refine mHon.of [some (.ref x), some (.int p0), some (.int p1), some (.ref o), none] (by decide +kernel) rfl (Nat.le_of_ble_eq_true rfl) ?_
  intro K el eD eC hK hZ hT hNo
  subst el eD eC
  refine mJ_aload_n hK dL_send_0 rfl ?_
  refine mJ_iconst (v := nI 0) hK dL_send_1 (by decide) ?_
  refine mJ_aload_n hK dL_send_2 rfl ?_
  refine mJ_iload_n hK dL_send_3 rfl ?_
  refine mJ_iload_n hK dL_send_4 rfl ?_
  refine mJ_cVi hK dL_send_5 lL_32 (by unfold mFit; decide) (by decide) hM rfl rfl (Nat.le_of_ble_eq_true rfl) hx ⟨_, _, rfl⟩ (fun h1 hP1 => ?_)
  refine mJ_i2l hK dL_send_8 ?_
  refine mJ_lastN 0 hK dL_send_9 (hP h1 hP1) rfl (by omega) (by decide) ?_
  refine mJ_goto (tgt := 25) hK dL_send_10 (by decide) ?_
  refine mJ_iconst (v := nI 0) hK dL_send_25 (by decide) ?_
  refine mJ_iret hK dL_send_26 rfl hZ (by decide) (by decide) ?_
  exact ⟨rfl, h1, hP1, rfl⟩

set_option maxRecDepth 100000 in
set_option maxHeartbeats 4000000 in
theorem hL_send_x1 {l : Launch} {D : va_G} {aC : Nat → ClassId} {h : mH} {x o : Nat} {p0 p1 : Int32} {fs : List Value} {P : mH → Prop} (hx : h x = some (.inr (5, fs))) (hM : mXon l D aC mX5_send [.ref x, .int p0, .int p1] h (fun _ _ => False) (fun E h' => E = "java/lang/IndexOutOfBoundsException" ∧ P h')) : mHon l D aC mL_send hhL_send [.ref x, .int p0, .int p1, .ref o] h (mRi (nI 1) P) := by
  refine mHon.of [some (.ref x), some (.int p0), some (.int p1), some (.ref o), none] (by decide +kernel) rfl (Nat.le_of_ble_eq_true rfl) ?_
  intro K el eD eC hK hZ hT hNo
  subst el eD eC
  refine mJ_aload_n hK dL_send_0 rfl ?_
  refine mJ_iconst (v := nI 0) hK dL_send_1 (by decide) ?_
  refine mJ_aload_n hK dL_send_2 rfl ?_
  refine mJ_iload_n hK dL_send_3 rfl ?_
  refine mJ_iload_n hK dL_send_4 rfl ?_
  refine mJ_xC [] ⟨0, 10, 13, 24⟩ [⟨0, 10, 17, 13⟩, ⟨0, 10, 21, 15⟩] hT (fun z hz => absurd hz List.not_mem_nil) rfl (by decide) kL_24 (by decide +kernel) hK dL_send_5 lL_32 (by unfold mFit; decide) (by decide) rfl rfl (Nat.le_of_ble_eq_true rfl) hx ⟨_, _, rfl⟩ hM (fun q h1 hP1 => ?_)
  refine mJ_astore hK dL_send_13 (by decide) rfl ?_
  refine mJ_iconst (v := nI 1) hK dL_send_15 (by decide) ?_
  refine mJ_iret hK dL_send_16 rfl hZ (by decide) (by decide) ?_
  exact ⟨rfl, hP1⟩

set_option maxRecDepth 100000 in
set_option maxHeartbeats 4000000 in
theorem hL_send_x2 {l : Launch} {D : va_G} {aC : Nat → ClassId} {h : mH} {x o : Nat} {p0 p1 : Int32} {fs : List Value} {P : mH → Prop} (hx : h x = some (.inr (5, fs))) (hM : mXon l D aC mX5_send [.ref x, .int p0, .int p1] h (fun _ _ => False) (fun E h' => E = "java/lang/IllegalArgumentException" ∧ P h')) : mHon l D aC mL_send hhL_send [.ref x, .int p0, .int p1, .ref o] h (mRi (nI 2) P) := by
  refine mHon.of [some (.ref x), some (.int p0), some (.int p1), some (.ref o), none] (by decide +kernel) rfl (Nat.le_of_ble_eq_true rfl) ?_
  intro K el eD eC hK hZ hT hNo
  subst el eD eC
  refine mJ_aload_n hK dL_send_0 rfl ?_
  refine mJ_iconst (v := nI 0) hK dL_send_1 (by decide) ?_
  refine mJ_aload_n hK dL_send_2 rfl ?_
  refine mJ_iload_n hK dL_send_3 rfl ?_
  refine mJ_iload_n hK dL_send_4 rfl ?_
  refine mJ_xC [⟨0, 10, 13, 24⟩] ⟨0, 10, 17, 13⟩ [⟨0, 10, 21, 15⟩] hT (fun z hz => by
    rcases List.mem_singleton.mp hz with rfl
    exact ⟨by decide, "java/lang/IndexOutOfBoundsException", kL_24, hNo.1 ("java/lang/IllegalArgumentException", "java/lang/IndexOutOfBoundsException") (by decide +kernel)⟩) rfl (by decide) kL_13 (by decide +kernel) hK dL_send_5 lL_32 (by unfold mFit; decide) (by decide) rfl rfl (Nat.le_of_ble_eq_true rfl) hx ⟨_, _, rfl⟩ hM (fun q h1 hP1 => ?_)
  refine mJ_astore hK dL_send_17 (by decide) rfl ?_
  refine mJ_iconst (v := nI 2) hK dL_send_19 (by decide) ?_
  refine mJ_iret hK dL_send_20 rfl hZ (by decide) (by decide) ?_
  exact ⟨rfl, hP1⟩

set_option maxRecDepth 100000 in
set_option maxHeartbeats 4000000 in
theorem hL_send_x3 {l : Launch} {D : va_G} {aC : Nat → ClassId} {h : mH} {x o : Nat} {p0 p1 : Int32} {fs : List Value} {P : mH → Prop} (hx : h x = some (.inr (5, fs))) (hM : mXon l D aC mX5_send [.ref x, .int p0, .int p1] h (fun _ _ => False) (fun E h' => E = "java/lang/IllegalStateException" ∧ P h')) : mHon l D aC mL_send hhL_send [.ref x, .int p0, .int p1, .ref o] h (mRi (nI 3) P) := by
  refine mHon.of [some (.ref x), some (.int p0), some (.int p1), some (.ref o), none] (by decide +kernel) rfl (Nat.le_of_ble_eq_true rfl) ?_
  intro K el eD eC hK hZ hT hNo
  subst el eD eC
  refine mJ_aload_n hK dL_send_0 rfl ?_
  refine mJ_iconst (v := nI 0) hK dL_send_1 (by decide) ?_
  refine mJ_aload_n hK dL_send_2 rfl ?_
  refine mJ_iload_n hK dL_send_3 rfl ?_
  refine mJ_iload_n hK dL_send_4 rfl ?_
  refine mJ_xC [⟨0, 10, 13, 24⟩, ⟨0, 10, 17, 13⟩] ⟨0, 10, 21, 15⟩ [] hT (fun z hz => by
    rcases List.mem_cons.mp hz with rfl | hz
    · exact ⟨by decide, "java/lang/IndexOutOfBoundsException", kL_24, hNo.1 ("java/lang/IllegalStateException", "java/lang/IndexOutOfBoundsException") (by decide +kernel)⟩
    · rcases List.mem_singleton.mp hz with rfl
      exact ⟨by decide, "java/lang/IllegalArgumentException", kL_13, hNo.1 ("java/lang/IllegalStateException", "java/lang/IllegalArgumentException") (by decide +kernel)⟩) rfl (by decide) kL_15 (by decide +kernel) hK dL_send_5 lL_32 (by unfold mFit; decide) (by decide) rfl rfl (Nat.le_of_ble_eq_true rfl) hx ⟨_, _, rfl⟩ hM (fun q h1 hP1 => ?_)
  refine mJ_astore hK dL_send_21 (by decide) rfl ?_
  refine mJ_iconst (v := nI 3) hK dL_send_23 (by decide) ?_
  refine mJ_iret hK dL_send_24 rfl hZ (by decide) (by decide) ?_
  exact ⟨rfl, hP1⟩

set_option maxRecDepth 100000 in
set_option maxHeartbeats 4000000 in
theorem hL_queueLength {l : Launch} {D : va_G} {aC : Nat → ClassId} {h : mH} {x o : Nat} {p0 : Int32} {fs : List Value} {P : mH → Prop} (hx : h x = some (.inr (5, fs))) {v : Int32} {w : Nat → Int64} (hM : mCon l D aC mX5_queueLength [.ref x, .int p0] h (mRi v P)) (hP : ∀ h', P h' → h' o = some (.inl (1, 1, .inr (.inl (w))))) : mHon l D aC mL_queueLength hhL_queueLength [.ref x, .int p0, .ref o] h (mRi (nI 0) (fun h2 => ∃ h1, P h1 ∧ h2 = mset h1 o (.inl (1, 1, .inr (.inl (vp_updL w 0 v.toInt64)))))) := by
  refine mHon.of [some (.ref x), some (.int p0), some (.ref o), none] (by decide +kernel) rfl (Nat.le_of_ble_eq_true rfl) ?_
  intro K el eD eC hK hZ hT hNo
  subst el eD eC
  refine mJ_aload_n hK dL_queueLength_0 rfl ?_
  refine mJ_iconst (v := nI 0) hK dL_queueLength_1 (by decide) ?_
  refine mJ_aload_n hK dL_queueLength_2 rfl ?_
  refine mJ_iload_n hK dL_queueLength_3 rfl ?_
  refine mJ_cVi hK dL_queueLength_4 lL_36 (by unfold mFit; decide) (by decide) hM rfl rfl (Nat.le_of_ble_eq_true rfl) hx ⟨_, _, rfl⟩ (fun h1 hP1 => ?_)
  refine mJ_i2l hK dL_queueLength_7 ?_
  refine mJ_lastN 0 hK dL_queueLength_8 (hP h1 hP1) rfl (by omega) (by decide) ?_
  refine mJ_goto (tgt := 15) hK dL_queueLength_9 (by decide) ?_
  refine mJ_iconst (v := nI 0) hK dL_queueLength_15 (by decide) ?_
  refine mJ_iret hK dL_queueLength_16 rfl hZ (by decide) (by decide) ?_
  exact ⟨rfl, h1, hP1, rfl⟩

set_option maxRecDepth 100000 in
set_option maxHeartbeats 4000000 in
theorem hL_queueLength_x1 {l : Launch} {D : va_G} {aC : Nat → ClassId} {h : mH} {x o : Nat} {p0 : Int32} {fs : List Value} {P : mH → Prop} (hx : h x = some (.inr (5, fs))) (hM : mXon l D aC mX5_queueLength [.ref x, .int p0] h (fun _ _ => False) (fun E h' => E = "java/lang/IndexOutOfBoundsException" ∧ P h')) : mHon l D aC mL_queueLength hhL_queueLength [.ref x, .int p0, .ref o] h (mRi (nI 1) P) := by
  refine mHon.of [some (.ref x), some (.int p0), some (.ref o), none] (by decide +kernel) rfl (Nat.le_of_ble_eq_true rfl) ?_
  intro K el eD eC hK hZ hT hNo
  subst el eD eC
  refine mJ_aload_n hK dL_queueLength_0 rfl ?_
  refine mJ_iconst (v := nI 0) hK dL_queueLength_1 (by decide) ?_
  refine mJ_aload_n hK dL_queueLength_2 rfl ?_
  refine mJ_iload_n hK dL_queueLength_3 rfl ?_
  refine mJ_xC [] ⟨0, 9, 12, 24⟩ [] hT (fun z hz => absurd hz List.not_mem_nil) rfl (by decide) kL_24 (by decide +kernel) hK dL_queueLength_4 lL_36 (by unfold mFit; decide) (by decide) rfl rfl (Nat.le_of_ble_eq_true rfl) hx ⟨_, _, rfl⟩ hM (fun q h1 hP1 => ?_)
  refine mJ_astore_n hK dL_queueLength_12 (by decide) rfl ?_
  refine mJ_iconst (v := nI 1) hK dL_queueLength_13 (by decide) ?_
  refine mJ_iret hK dL_queueLength_14 rfl hZ (by decide) (by decide) ?_
  exact ⟨rfl, hP1⟩

set_option maxRecDepth 100000 in
set_option maxHeartbeats 4000000 in
theorem hL_messageAt {l : Launch} {D : va_G} {aC : Nat → ClassId} {h : mH} {x o : Nat} {p0 p1 : Int32} {fs : List Value} {P : mH → Prop} (hx : h x = some (.inr (5, fs))) {v : Int32} {w : Nat → Int64} (hM : mCon l D aC mX5_messageAt [.ref x, .int p0, .int p1] h (mRi v P)) (hP : ∀ h', P h' → h' o = some (.inl (1, 1, .inr (.inl (w))))) : mHon l D aC mL_messageAt hhL_messageAt [.ref x, .int p0, .int p1, .ref o] h (mRi (nI 0) (fun h2 => ∃ h1, P h1 ∧ h2 = mset h1 o (.inl (1, 1, .inr (.inl (vp_updL w 0 v.toInt64)))))) := by
  refine mHon.of [some (.ref x), some (.int p0), some (.int p1), some (.ref o), none] (by decide +kernel) rfl (Nat.le_of_ble_eq_true rfl) ?_
  intro K el eD eC hK hZ hT hNo
  subst el eD eC
  refine mJ_aload_n hK dL_messageAt_0 rfl ?_
  refine mJ_iconst (v := nI 0) hK dL_messageAt_1 (by decide) ?_
  refine mJ_aload_n hK dL_messageAt_2 rfl ?_
  refine mJ_iload_n hK dL_messageAt_3 rfl ?_
  refine mJ_iload_n hK dL_messageAt_4 rfl ?_
  refine mJ_cVi hK dL_messageAt_5 lL_39 (by unfold mFit; decide) (by decide) hM rfl rfl (Nat.le_of_ble_eq_true rfl) hx ⟨_, _, rfl⟩ (fun h1 hP1 => ?_)
  refine mJ_i2l hK dL_messageAt_8 ?_
  refine mJ_lastN 0 hK dL_messageAt_9 (hP h1 hP1) rfl (by omega) (by decide) ?_
  refine mJ_goto (tgt := 17) hK dL_messageAt_10 (by decide) ?_
  refine mJ_iconst (v := nI 0) hK dL_messageAt_17 (by decide) ?_
  refine mJ_iret hK dL_messageAt_18 rfl hZ (by decide) (by decide) ?_
  exact ⟨rfl, h1, hP1, rfl⟩

set_option maxRecDepth 100000 in
set_option maxHeartbeats 4000000 in
theorem hL_messageAt_x1 {l : Launch} {D : va_G} {aC : Nat → ClassId} {h : mH} {x o : Nat} {p0 p1 : Int32} {fs : List Value} {P : mH → Prop} (hx : h x = some (.inr (5, fs))) (hM : mXon l D aC mX5_messageAt [.ref x, .int p0, .int p1] h (fun _ _ => False) (fun E h' => E = "java/lang/IndexOutOfBoundsException" ∧ P h')) : mHon l D aC mL_messageAt hhL_messageAt [.ref x, .int p0, .int p1, .ref o] h (mRi (nI 1) P) := by
  refine mHon.of [some (.ref x), some (.int p0), some (.int p1), some (.ref o), none] (by decide +kernel) rfl (Nat.le_of_ble_eq_true rfl) ?_
  intro K el eD eC hK hZ hT hNo
  subst el eD eC
  refine mJ_aload_n hK dL_messageAt_0 rfl ?_
  refine mJ_iconst (v := nI 0) hK dL_messageAt_1 (by decide) ?_
  refine mJ_aload_n hK dL_messageAt_2 rfl ?_
  refine mJ_iload_n hK dL_messageAt_3 rfl ?_
  refine mJ_iload_n hK dL_messageAt_4 rfl ?_
  refine mJ_xC [] ⟨0, 10, 13, 24⟩ [] hT (fun z hz => absurd hz List.not_mem_nil) rfl (by decide) kL_24 (by decide +kernel) hK dL_messageAt_5 lL_39 (by unfold mFit; decide) (by decide) rfl rfl (Nat.le_of_ble_eq_true rfl) hx ⟨_, _, rfl⟩ hM (fun q h1 hP1 => ?_)
  refine mJ_astore hK dL_messageAt_13 (by decide) rfl ?_
  refine mJ_iconst (v := nI 1) hK dL_messageAt_15 (by decide) ?_
  refine mJ_iret hK dL_messageAt_16 rfl hZ (by decide) (by decide) ?_
  exact ⟨rfl, hP1⟩

set_option maxRecDepth 100000 in
set_option maxHeartbeats 4000000 in
theorem hL_matchOf {l : Launch} {D : va_G} {aC : Nat → ClassId} {h : mH} {x o : Nat} {p0 p1 : Int32} {fs : List Value} {P : mH → Prop} (hx : h x = some (.inr (5, fs))) {v : Int32} {w : Nat → Int64} (hM : mCon l D aC mX5_matchOf [.ref x, .int p0, .int p1] h (mRi v P)) (hP : ∀ h', P h' → h' o = some (.inl (1, 1, .inr (.inl (w))))) : mHon l D aC mL_matchOf hhL_matchOf [.ref x, .int p0, .int p1, .ref o] h (mRi (nI 0) (fun h2 => ∃ h1, P h1 ∧ h2 = mset h1 o (.inl (1, 1, .inr (.inl (vp_updL w 0 v.toInt64)))))) := by
  refine mHon.of [some (.ref x), some (.int p0), some (.int p1), some (.ref o), none] (by decide +kernel) rfl (Nat.le_of_ble_eq_true rfl) ?_
  intro K el eD eC hK hZ hT hNo
  subst el eD eC
  refine mJ_aload_n hK dL_matchOf_0 rfl ?_
  refine mJ_iconst (v := nI 0) hK dL_matchOf_1 (by decide) ?_
  refine mJ_aload_n hK dL_matchOf_2 rfl ?_
  refine mJ_iload_n hK dL_matchOf_3 rfl ?_
  refine mJ_iload_n hK dL_matchOf_4 rfl ?_
  refine mJ_cVi hK dL_matchOf_5 lL_42 (by unfold mFit; decide) (by decide) hM rfl rfl (Nat.le_of_ble_eq_true rfl) hx ⟨_, _, rfl⟩ (fun h1 hP1 => ?_)
  refine mJ_i2l hK dL_matchOf_8 ?_
  refine mJ_lastN 0 hK dL_matchOf_9 (hP h1 hP1) rfl (by omega) (by decide) ?_
  refine mJ_goto (tgt := 21) hK dL_matchOf_10 (by decide) ?_
  refine mJ_iconst (v := nI 0) hK dL_matchOf_21 (by decide) ?_
  refine mJ_iret hK dL_matchOf_22 rfl hZ (by decide) (by decide) ?_
  exact ⟨rfl, h1, hP1, rfl⟩

set_option maxRecDepth 100000 in
set_option maxHeartbeats 4000000 in
theorem hL_matchOf_x1 {l : Launch} {D : va_G} {aC : Nat → ClassId} {h : mH} {x o : Nat} {p0 p1 : Int32} {fs : List Value} {P : mH → Prop} (hx : h x = some (.inr (5, fs))) (hM : mXon l D aC mX5_matchOf [.ref x, .int p0, .int p1] h (fun _ _ => False) (fun E h' => E = "java/lang/IndexOutOfBoundsException" ∧ P h')) : mHon l D aC mL_matchOf hhL_matchOf [.ref x, .int p0, .int p1, .ref o] h (mRi (nI 1) P) := by
  refine mHon.of [some (.ref x), some (.int p0), some (.int p1), some (.ref o), none] (by decide +kernel) rfl (Nat.le_of_ble_eq_true rfl) ?_
  intro K el eD eC hK hZ hT hNo
  subst el eD eC
  refine mJ_aload_n hK dL_matchOf_0 rfl ?_
  refine mJ_iconst (v := nI 0) hK dL_matchOf_1 (by decide) ?_
  refine mJ_aload_n hK dL_matchOf_2 rfl ?_
  refine mJ_iload_n hK dL_matchOf_3 rfl ?_
  refine mJ_iload_n hK dL_matchOf_4 rfl ?_
  refine mJ_xC [] ⟨0, 10, 13, 24⟩ [⟨0, 10, 17, 13⟩] hT (fun z hz => absurd hz List.not_mem_nil) rfl (by decide) kL_24 (by decide +kernel) hK dL_matchOf_5 lL_42 (by unfold mFit; decide) (by decide) rfl rfl (Nat.le_of_ble_eq_true rfl) hx ⟨_, _, rfl⟩ hM (fun q h1 hP1 => ?_)
  refine mJ_astore hK dL_matchOf_13 (by decide) rfl ?_
  refine mJ_iconst (v := nI 1) hK dL_matchOf_15 (by decide) ?_
  refine mJ_iret hK dL_matchOf_16 rfl hZ (by decide) (by decide) ?_
  exact ⟨rfl, hP1⟩

set_option maxRecDepth 100000 in
set_option maxHeartbeats 4000000 in
theorem hL_matchOf_x2 {l : Launch} {D : va_G} {aC : Nat → ClassId} {h : mH} {x o : Nat} {p0 p1 : Int32} {fs : List Value} {P : mH → Prop} (hx : h x = some (.inr (5, fs))) (hM : mXon l D aC mX5_matchOf [.ref x, .int p0, .int p1] h (fun _ _ => False) (fun E h' => E = "java/lang/IllegalArgumentException" ∧ P h')) : mHon l D aC mL_matchOf hhL_matchOf [.ref x, .int p0, .int p1, .ref o] h (mRi (nI 2) P) := by
  refine mHon.of [some (.ref x), some (.int p0), some (.int p1), some (.ref o), none] (by decide +kernel) rfl (Nat.le_of_ble_eq_true rfl) ?_
  intro K el eD eC hK hZ hT hNo
  subst el eD eC
  refine mJ_aload_n hK dL_matchOf_0 rfl ?_
  refine mJ_iconst (v := nI 0) hK dL_matchOf_1 (by decide) ?_
  refine mJ_aload_n hK dL_matchOf_2 rfl ?_
  refine mJ_iload_n hK dL_matchOf_3 rfl ?_
  refine mJ_iload_n hK dL_matchOf_4 rfl ?_
  refine mJ_xC [⟨0, 10, 13, 24⟩] ⟨0, 10, 17, 13⟩ [] hT (fun z hz => by
    rcases List.mem_singleton.mp hz with rfl
    exact ⟨by decide, "java/lang/IndexOutOfBoundsException", kL_24, hNo.1 ("java/lang/IllegalArgumentException", "java/lang/IndexOutOfBoundsException") (by decide +kernel)⟩) rfl (by decide) kL_13 (by decide +kernel) hK dL_matchOf_5 lL_42 (by unfold mFit; decide) (by decide) rfl rfl (Nat.le_of_ble_eq_true rfl) hx ⟨_, _, rfl⟩ hM (fun q h1 hP1 => ?_)
  refine mJ_astore hK dL_matchOf_17 (by decide) rfl ?_
  refine mJ_iconst (v := nI 2) hK dL_matchOf_19 (by decide) ?_
  refine mJ_iret hK dL_matchOf_20 rfl hZ (by decide) (by decide) ?_
  exact ⟨rfl, hP1⟩

set_option maxRecDepth 100000 in
set_option maxHeartbeats 4000000 in
theorem hL_fireRule {l : Launch} {D : va_G} {aC : Nat → ClassId} {h : mH} {x o : Nat} {p0 : Int32} {fs : List Value} {P : mH → Prop} (hx : h x = some (.inr (5, fs))) {v : Int32} {w : Nat → Int64} (hM : mCon l D aC mX5_fireRule [.ref x, .int p0] h (mRi v P)) (hP : ∀ h', P h' → h' o = some (.inl (1, 1, .inr (.inl (w))))) : mHon l D aC mL_fireRule hhL_fireRule [.ref x, .int p0, .ref o] h (mRi (nI 0) (fun h2 => ∃ h1, P h1 ∧ h2 = mset h1 o (.inl (1, 1, .inr (.inl (vp_updL w 0 v.toInt64)))))) := by
  refine mHon.of [some (.ref x), some (.int p0), some (.ref o), none] (by decide +kernel) rfl (Nat.le_of_ble_eq_true rfl) ?_
  intro K el eD eC hK hZ hT hNo
  subst el eD eC
  refine mJ_aload_n hK dL_fireRule_0 rfl ?_
  refine mJ_iconst (v := nI 0) hK dL_fireRule_1 (by decide) ?_
  refine mJ_aload_n hK dL_fireRule_2 rfl ?_
  refine mJ_iload_n hK dL_fireRule_3 rfl ?_
  refine mJ_cVi hK dL_fireRule_4 lL_45 (by unfold mFit; decide) (by decide) hM rfl rfl (Nat.le_of_ble_eq_true rfl) hx ⟨_, _, rfl⟩ (fun h1 hP1 => ?_)
  refine mJ_i2l hK dL_fireRule_7 ?_
  refine mJ_lastN 0 hK dL_fireRule_8 (hP h1 hP1) rfl (by omega) (by decide) ?_
  refine mJ_goto (tgt := 18) hK dL_fireRule_9 (by decide) ?_
  refine mJ_iconst (v := nI 0) hK dL_fireRule_18 (by decide) ?_
  refine mJ_iret hK dL_fireRule_19 rfl hZ (by decide) (by decide) ?_
  exact ⟨rfl, h1, hP1, rfl⟩

set_option maxRecDepth 100000 in
set_option maxHeartbeats 4000000 in
theorem hL_fireRule_x1 {l : Launch} {D : va_G} {aC : Nat → ClassId} {h : mH} {x o : Nat} {p0 : Int32} {fs : List Value} {P : mH → Prop} (hx : h x = some (.inr (5, fs))) (hM : mXon l D aC mX5_fireRule [.ref x, .int p0] h (fun _ _ => False) (fun E h' => E = "java/lang/IndexOutOfBoundsException" ∧ P h')) : mHon l D aC mL_fireRule hhL_fireRule [.ref x, .int p0, .ref o] h (mRi (nI 1) P) := by
  refine mHon.of [some (.ref x), some (.int p0), some (.ref o), none] (by decide +kernel) rfl (Nat.le_of_ble_eq_true rfl) ?_
  intro K el eD eC hK hZ hT hNo
  subst el eD eC
  refine mJ_aload_n hK dL_fireRule_0 rfl ?_
  refine mJ_iconst (v := nI 0) hK dL_fireRule_1 (by decide) ?_
  refine mJ_aload_n hK dL_fireRule_2 rfl ?_
  refine mJ_iload_n hK dL_fireRule_3 rfl ?_
  refine mJ_xC [] ⟨0, 9, 12, 24⟩ [⟨0, 9, 15, 15⟩] hT (fun z hz => absurd hz List.not_mem_nil) rfl (by decide) kL_24 (by decide +kernel) hK dL_fireRule_4 lL_45 (by unfold mFit; decide) (by decide) rfl rfl (Nat.le_of_ble_eq_true rfl) hx ⟨_, _, rfl⟩ hM (fun q h1 hP1 => ?_)
  refine mJ_astore_n hK dL_fireRule_12 (by decide) rfl ?_
  refine mJ_iconst (v := nI 1) hK dL_fireRule_13 (by decide) ?_
  refine mJ_iret hK dL_fireRule_14 rfl hZ (by decide) (by decide) ?_
  exact ⟨rfl, hP1⟩

set_option maxRecDepth 100000 in
set_option maxHeartbeats 4000000 in
theorem hL_fireRule_x2 {l : Launch} {D : va_G} {aC : Nat → ClassId} {h : mH} {x o : Nat} {p0 : Int32} {fs : List Value} {P : mH → Prop} (hx : h x = some (.inr (5, fs))) (hM : mXon l D aC mX5_fireRule [.ref x, .int p0] h (fun _ _ => False) (fun E h' => E = "java/lang/IllegalStateException" ∧ P h')) : mHon l D aC mL_fireRule hhL_fireRule [.ref x, .int p0, .ref o] h (mRi (nI 2) P) := by
  refine mHon.of [some (.ref x), some (.int p0), some (.ref o), none] (by decide +kernel) rfl (Nat.le_of_ble_eq_true rfl) ?_
  intro K el eD eC hK hZ hT hNo
  subst el eD eC
  refine mJ_aload_n hK dL_fireRule_0 rfl ?_
  refine mJ_iconst (v := nI 0) hK dL_fireRule_1 (by decide) ?_
  refine mJ_aload_n hK dL_fireRule_2 rfl ?_
  refine mJ_iload_n hK dL_fireRule_3 rfl ?_
  refine mJ_xC [⟨0, 9, 12, 24⟩] ⟨0, 9, 15, 15⟩ [] hT (fun z hz => by
    rcases List.mem_singleton.mp hz with rfl
    exact ⟨by decide, "java/lang/IndexOutOfBoundsException", kL_24, hNo.1 ("java/lang/IllegalStateException", "java/lang/IndexOutOfBoundsException") (by decide +kernel)⟩) rfl (by decide) kL_15 (by decide +kernel) hK dL_fireRule_4 lL_45 (by unfold mFit; decide) (by decide) rfl rfl (Nat.le_of_ble_eq_true rfl) hx ⟨_, _, rfl⟩ hM (fun q h1 hP1 => ?_)
  refine mJ_astore_n hK dL_fireRule_15 (by decide) rfl ?_
  refine mJ_iconst (v := nI 2) hK dL_fireRule_16 (by decide) ?_
  refine mJ_iret hK dL_fireRule_17 rfl hZ (by decide) (by decide) ?_
  exact ⟨rfl, hP1⟩

set_option maxRecDepth 100000 in
set_option maxHeartbeats 4000000 in
theorem hL_run {l : Launch} {D : va_G} {aC : Nat → ClassId} {h : mH} {x o : Nat} {p0 : Int32} {fs : List Value} {P : mH → Prop} (hx : h x = some (.inr (5, fs))) {v : Int32} {w : Nat → Int64} (hM : mCon l D aC mX5_run [.ref x, .int p0] h (mRi v P)) (hP : ∀ h', P h' → h' o = some (.inl (1, 1, .inr (.inl (w))))) : mHon l D aC mL_run hhL_run [.ref x, .int p0, .ref o] h (mRi (nI 0) (fun h2 => ∃ h1, P h1 ∧ h2 = mset h1 o (.inl (1, 1, .inr (.inl (vp_updL w 0 v.toInt64)))))) := by
  refine mHon.of [some (.ref x), some (.int p0), some (.ref o), none] (by decide +kernel) rfl (Nat.le_of_ble_eq_true rfl) ?_
  intro K el eD eC hK hZ hT hNo
  subst el eD eC
  refine mJ_aload_n hK dL_run_0 rfl ?_
  refine mJ_iconst (v := nI 0) hK dL_run_1 (by decide) ?_
  refine mJ_aload_n hK dL_run_2 rfl ?_
  refine mJ_iload_n hK dL_run_3 rfl ?_
  refine mJ_cVi hK dL_run_4 lL_48 (by unfold mFit; decide) (by decide) hM rfl rfl (Nat.le_of_ble_eq_true rfl) hx ⟨_, _, rfl⟩ (fun h1 hP1 => ?_)
  refine mJ_i2l hK dL_run_7 ?_
  refine mJ_lastN 0 hK dL_run_8 (hP h1 hP1) rfl (by omega) (by decide) ?_
  refine mJ_goto (tgt := 15) hK dL_run_9 (by decide) ?_
  refine mJ_iconst (v := nI 0) hK dL_run_15 (by decide) ?_
  refine mJ_iret hK dL_run_16 rfl hZ (by decide) (by decide) ?_
  exact ⟨rfl, h1, hP1, rfl⟩

set_option maxRecDepth 100000 in
set_option maxHeartbeats 4000000 in
theorem hL_run_x1 {l : Launch} {D : va_G} {aC : Nat → ClassId} {h : mH} {x o : Nat} {p0 : Int32} {fs : List Value} {P : mH → Prop} (hx : h x = some (.inr (5, fs))) (hM : mXon l D aC mX5_run [.ref x, .int p0] h (fun _ _ => False) (fun E h' => E = "java/lang/IllegalArgumentException" ∧ P h')) : mHon l D aC mL_run hhL_run [.ref x, .int p0, .ref o] h (mRi (nI 1) P) := by
  refine mHon.of [some (.ref x), some (.int p0), some (.ref o), none] (by decide +kernel) rfl (Nat.le_of_ble_eq_true rfl) ?_
  intro K el eD eC hK hZ hT hNo
  subst el eD eC
  refine mJ_aload_n hK dL_run_0 rfl ?_
  refine mJ_iconst (v := nI 0) hK dL_run_1 (by decide) ?_
  refine mJ_aload_n hK dL_run_2 rfl ?_
  refine mJ_iload_n hK dL_run_3 rfl ?_
  refine mJ_xC [] ⟨0, 9, 12, 13⟩ [] hT (fun z hz => absurd hz List.not_mem_nil) rfl (by decide) kL_13 (by decide +kernel) hK dL_run_4 lL_48 (by unfold mFit; decide) (by decide) rfl rfl (Nat.le_of_ble_eq_true rfl) hx ⟨_, _, rfl⟩ hM (fun q h1 hP1 => ?_)
  refine mJ_astore_n hK dL_run_12 (by decide) rfl ?_
  refine mJ_iconst (v := nI 1) hK dL_run_13 (by decide) ?_
  refine mJ_iret hK dL_run_14 rfl hZ (by decide) (by decide) ?_
  exact ⟨rfl, hP1⟩

set_option maxRecDepth 100000 in
set_option maxHeartbeats 4000000 in
theorem hL_ticketState {l : Launch} {D : va_G} {aC : Nat → ClassId} {h : mH} {x o : Nat} {p0 : Int32} {fs : List Value} {P : mH → Prop} (hx : h x = some (.inr (5, fs))) {v : Int32} {w : Nat → Int64} (hM : mCon l D aC mX5_ticketState [.ref x, .int p0] h (mRi v P)) (hP : ∀ h', P h' → h' o = some (.inl (1, 1, .inr (.inl (w))))) : mHon l D aC mL_ticketState hhL_ticketState [.ref x, .int p0, .ref o] h (mRi (nI 0) (fun h2 => ∃ h1, P h1 ∧ h2 = mset h1 o (.inl (1, 1, .inr (.inl (vp_updL w 0 v.toInt64)))))) := by
  refine mHon.of [some (.ref x), some (.int p0), some (.ref o), none] (by decide +kernel) rfl (Nat.le_of_ble_eq_true rfl) ?_
  intro K el eD eC hK hZ hT hNo
  subst el eD eC
  refine mJ_aload_n hK dL_ticketState_0 rfl ?_
  refine mJ_iconst (v := nI 0) hK dL_ticketState_1 (by decide) ?_
  refine mJ_aload_n hK dL_ticketState_2 rfl ?_
  refine mJ_iload_n hK dL_ticketState_3 rfl ?_
  refine mJ_cVi hK dL_ticketState_4 lL_51 (by unfold mFit; decide) (by decide) hM rfl rfl (Nat.le_of_ble_eq_true rfl) hx ⟨_, _, rfl⟩ (fun h1 hP1 => ?_)
  refine mJ_i2l hK dL_ticketState_7 ?_
  refine mJ_lastN 0 hK dL_ticketState_8 (hP h1 hP1) rfl (by omega) (by decide) ?_
  refine mJ_goto (tgt := 15) hK dL_ticketState_9 (by decide) ?_
  refine mJ_iconst (v := nI 0) hK dL_ticketState_15 (by decide) ?_
  refine mJ_iret hK dL_ticketState_16 rfl hZ (by decide) (by decide) ?_
  exact ⟨rfl, h1, hP1, rfl⟩

set_option maxRecDepth 100000 in
set_option maxHeartbeats 4000000 in
theorem hL_ticketState_x1 {l : Launch} {D : va_G} {aC : Nat → ClassId} {h : mH} {x o : Nat} {p0 : Int32} {fs : List Value} {P : mH → Prop} (hx : h x = some (.inr (5, fs))) (hM : mXon l D aC mX5_ticketState [.ref x, .int p0] h (fun _ _ => False) (fun E h' => E = "java/lang/IndexOutOfBoundsException" ∧ P h')) : mHon l D aC mL_ticketState hhL_ticketState [.ref x, .int p0, .ref o] h (mRi (nI 1) P) := by
  refine mHon.of [some (.ref x), some (.int p0), some (.ref o), none] (by decide +kernel) rfl (Nat.le_of_ble_eq_true rfl) ?_
  intro K el eD eC hK hZ hT hNo
  subst el eD eC
  refine mJ_aload_n hK dL_ticketState_0 rfl ?_
  refine mJ_iconst (v := nI 0) hK dL_ticketState_1 (by decide) ?_
  refine mJ_aload_n hK dL_ticketState_2 rfl ?_
  refine mJ_iload_n hK dL_ticketState_3 rfl ?_
  refine mJ_xC [] ⟨0, 9, 12, 24⟩ [] hT (fun z hz => absurd hz List.not_mem_nil) rfl (by decide) kL_24 (by decide +kernel) hK dL_ticketState_4 lL_51 (by unfold mFit; decide) (by decide) rfl rfl (Nat.le_of_ble_eq_true rfl) hx ⟨_, _, rfl⟩ hM (fun q h1 hP1 => ?_)
  refine mJ_astore_n hK dL_ticketState_12 (by decide) rfl ?_
  refine mJ_iconst (v := nI 1) hK dL_ticketState_13 (by decide) ?_
  refine mJ_iret hK dL_ticketState_14 rfl hZ (by decide) (by decide) ?_
  exact ⟨rfl, hP1⟩

set_option maxRecDepth 100000 in
set_option maxHeartbeats 4000000 in
theorem hL_replyOf {l : Launch} {D : va_G} {aC : Nat → ClassId} {h : mH} {x o : Nat} {p0 : Int32} {fs : List Value} {P : mH → Prop} (hx : h x = some (.inr (5, fs))) {v : Int32} {w : Nat → Int64} (hM : mCon l D aC mX5_replyOf [.ref x, .int p0] h (mRi v P)) (hP : ∀ h', P h' → h' o = some (.inl (1, 1, .inr (.inl (w))))) : mHon l D aC mL_replyOf hhL_replyOf [.ref x, .int p0, .ref o] h (mRi (nI 0) (fun h2 => ∃ h1, P h1 ∧ h2 = mset h1 o (.inl (1, 1, .inr (.inl (vp_updL w 0 v.toInt64)))))) := by
  refine mHon.of [some (.ref x), some (.int p0), some (.ref o), none] (by decide +kernel) rfl (Nat.le_of_ble_eq_true rfl) ?_
  intro K el eD eC hK hZ hT hNo
  subst el eD eC
  refine mJ_aload_n hK dL_replyOf_0 rfl ?_
  refine mJ_iconst (v := nI 0) hK dL_replyOf_1 (by decide) ?_
  refine mJ_aload_n hK dL_replyOf_2 rfl ?_
  refine mJ_iload_n hK dL_replyOf_3 rfl ?_
  refine mJ_cVi hK dL_replyOf_4 lL_54 (by unfold mFit; decide) (by decide) hM rfl rfl (Nat.le_of_ble_eq_true rfl) hx ⟨_, _, rfl⟩ (fun h1 hP1 => ?_)
  refine mJ_i2l hK dL_replyOf_7 ?_
  refine mJ_lastN 0 hK dL_replyOf_8 (hP h1 hP1) rfl (by omega) (by decide) ?_
  refine mJ_goto (tgt := 18) hK dL_replyOf_9 (by decide) ?_
  refine mJ_iconst (v := nI 0) hK dL_replyOf_18 (by decide) ?_
  refine mJ_iret hK dL_replyOf_19 rfl hZ (by decide) (by decide) ?_
  exact ⟨rfl, h1, hP1, rfl⟩

set_option maxRecDepth 100000 in
set_option maxHeartbeats 4000000 in
theorem hL_replyOf_x1 {l : Launch} {D : va_G} {aC : Nat → ClassId} {h : mH} {x o : Nat} {p0 : Int32} {fs : List Value} {P : mH → Prop} (hx : h x = some (.inr (5, fs))) (hM : mXon l D aC mX5_replyOf [.ref x, .int p0] h (fun _ _ => False) (fun E h' => E = "java/lang/IndexOutOfBoundsException" ∧ P h')) : mHon l D aC mL_replyOf hhL_replyOf [.ref x, .int p0, .ref o] h (mRi (nI 1) P) := by
  refine mHon.of [some (.ref x), some (.int p0), some (.ref o), none] (by decide +kernel) rfl (Nat.le_of_ble_eq_true rfl) ?_
  intro K el eD eC hK hZ hT hNo
  subst el eD eC
  refine mJ_aload_n hK dL_replyOf_0 rfl ?_
  refine mJ_iconst (v := nI 0) hK dL_replyOf_1 (by decide) ?_
  refine mJ_aload_n hK dL_replyOf_2 rfl ?_
  refine mJ_iload_n hK dL_replyOf_3 rfl ?_
  refine mJ_xC [] ⟨0, 9, 12, 24⟩ [⟨0, 9, 15, 15⟩] hT (fun z hz => absurd hz List.not_mem_nil) rfl (by decide) kL_24 (by decide +kernel) hK dL_replyOf_4 lL_54 (by unfold mFit; decide) (by decide) rfl rfl (Nat.le_of_ble_eq_true rfl) hx ⟨_, _, rfl⟩ hM (fun q h1 hP1 => ?_)
  refine mJ_astore_n hK dL_replyOf_12 (by decide) rfl ?_
  refine mJ_iconst (v := nI 1) hK dL_replyOf_13 (by decide) ?_
  refine mJ_iret hK dL_replyOf_14 rfl hZ (by decide) (by decide) ?_
  exact ⟨rfl, hP1⟩

set_option maxRecDepth 100000 in
set_option maxHeartbeats 4000000 in
theorem hL_replyOf_x2 {l : Launch} {D : va_G} {aC : Nat → ClassId} {h : mH} {x o : Nat} {p0 : Int32} {fs : List Value} {P : mH → Prop} (hx : h x = some (.inr (5, fs))) (hM : mXon l D aC mX5_replyOf [.ref x, .int p0] h (fun _ _ => False) (fun E h' => E = "java/lang/IllegalStateException" ∧ P h')) : mHon l D aC mL_replyOf hhL_replyOf [.ref x, .int p0, .ref o] h (mRi (nI 2) P) := by
  refine mHon.of [some (.ref x), some (.int p0), some (.ref o), none] (by decide +kernel) rfl (Nat.le_of_ble_eq_true rfl) ?_
  intro K el eD eC hK hZ hT hNo
  subst el eD eC
  refine mJ_aload_n hK dL_replyOf_0 rfl ?_
  refine mJ_iconst (v := nI 0) hK dL_replyOf_1 (by decide) ?_
  refine mJ_aload_n hK dL_replyOf_2 rfl ?_
  refine mJ_iload_n hK dL_replyOf_3 rfl ?_
  refine mJ_xC [⟨0, 9, 12, 24⟩] ⟨0, 9, 15, 15⟩ [] hT (fun z hz => by
    rcases List.mem_singleton.mp hz with rfl
    exact ⟨by decide, "java/lang/IndexOutOfBoundsException", kL_24, hNo.1 ("java/lang/IllegalStateException", "java/lang/IndexOutOfBoundsException") (by decide +kernel)⟩) rfl (by decide) kL_15 (by decide +kernel) hK dL_replyOf_4 lL_54 (by unfold mFit; decide) (by decide) rfl rfl (Nat.le_of_ble_eq_true rfl) hx ⟨_, _, rfl⟩ hM (fun q h1 hP1 => ?_)
  refine mJ_astore_n hK dL_replyOf_15 (by decide) rfl ?_
  refine mJ_iconst (v := nI 2) hK dL_replyOf_16 (by decide) ?_
  refine mJ_iret hK dL_replyOf_17 rfl hZ (by decide) (by decide) ?_
  exact ⟨rfl, hP1⟩

set_option maxRecDepth 100000 in
set_option maxHeartbeats 4000000 in
theorem hL_firings {l : Launch} {D : va_G} {aC : Nat → ClassId} {h : mH} {x o : Nat} {p0 : Int32} {fs : List Value} {P : mH → Prop} (hx : h x = some (.inr (5, fs))) {v : Int32} {w : Nat → Int64} (hM : mCon l D aC mX5_firings [.ref x, .int p0] h (mRi v P)) (hP : ∀ h', P h' → h' o = some (.inl (1, 1, .inr (.inl (w))))) : mHon l D aC mL_firings hhL_firings [.ref x, .int p0, .ref o] h (mRi (nI 0) (fun h2 => ∃ h1, P h1 ∧ h2 = mset h1 o (.inl (1, 1, .inr (.inl (vp_updL w 0 v.toInt64)))))) := by
  refine mHon.of [some (.ref x), some (.int p0), some (.ref o), none] (by decide +kernel) rfl (Nat.le_of_ble_eq_true rfl) ?_
  intro K el eD eC hK hZ hT hNo
  subst el eD eC
  refine mJ_aload_n hK dL_firings_0 rfl ?_
  refine mJ_iconst (v := nI 0) hK dL_firings_1 (by decide) ?_
  refine mJ_aload_n hK dL_firings_2 rfl ?_
  refine mJ_iload_n hK dL_firings_3 rfl ?_
  refine mJ_cVi hK dL_firings_4 lL_57 (by unfold mFit; decide) (by decide) hM rfl rfl (Nat.le_of_ble_eq_true rfl) hx ⟨_, _, rfl⟩ (fun h1 hP1 => ?_)
  refine mJ_i2l hK dL_firings_7 ?_
  refine mJ_lastN 0 hK dL_firings_8 (hP h1 hP1) rfl (by omega) (by decide) ?_
  refine mJ_goto (tgt := 15) hK dL_firings_9 (by decide) ?_
  refine mJ_iconst (v := nI 0) hK dL_firings_15 (by decide) ?_
  refine mJ_iret hK dL_firings_16 rfl hZ (by decide) (by decide) ?_
  exact ⟨rfl, h1, hP1, rfl⟩

set_option maxRecDepth 100000 in
set_option maxHeartbeats 4000000 in
theorem hL_firings_x1 {l : Launch} {D : va_G} {aC : Nat → ClassId} {h : mH} {x o : Nat} {p0 : Int32} {fs : List Value} {P : mH → Prop} (hx : h x = some (.inr (5, fs))) (hM : mXon l D aC mX5_firings [.ref x, .int p0] h (fun _ _ => False) (fun E h' => E = "java/lang/IndexOutOfBoundsException" ∧ P h')) : mHon l D aC mL_firings hhL_firings [.ref x, .int p0, .ref o] h (mRi (nI 1) P) := by
  refine mHon.of [some (.ref x), some (.int p0), some (.ref o), none] (by decide +kernel) rfl (Nat.le_of_ble_eq_true rfl) ?_
  intro K el eD eC hK hZ hT hNo
  subst el eD eC
  refine mJ_aload_n hK dL_firings_0 rfl ?_
  refine mJ_iconst (v := nI 0) hK dL_firings_1 (by decide) ?_
  refine mJ_aload_n hK dL_firings_2 rfl ?_
  refine mJ_iload_n hK dL_firings_3 rfl ?_
  refine mJ_xC [] ⟨0, 9, 12, 24⟩ [] hT (fun z hz => absurd hz List.not_mem_nil) rfl (by decide) kL_24 (by decide +kernel) hK dL_firings_4 lL_57 (by unfold mFit; decide) (by decide) rfl rfl (Nat.le_of_ble_eq_true rfl) hx ⟨_, _, rfl⟩ hM (fun q h1 hP1 => ?_)
  refine mJ_astore_n hK dL_firings_12 (by decide) rfl ?_
  refine mJ_iconst (v := nI 1) hK dL_firings_13 (by decide) ?_
  refine mJ_iret hK dL_firings_14 rfl hZ (by decide) (by decide) ?_
  exact ⟨rfl, hP1⟩

set_option maxRecDepth 100000 in
set_option maxHeartbeats 4000000 in
theorem hL_consumed {l : Launch} {D : va_G} {aC : Nat → ClassId} {h : mH} {x o : Nat} {p0 : Int32} {fs : List Value} {P : mH → Prop} (hx : h x = some (.inr (5, fs))) {v : Int32} {w : Nat → Int64} (hM : mCon l D aC mX5_consumed [.ref x, .int p0] h (mRi v P)) (hP : ∀ h', P h' → h' o = some (.inl (1, 1, .inr (.inl (w))))) : mHon l D aC mL_consumed hhL_consumed [.ref x, .int p0, .ref o] h (mRi (nI 0) (fun h2 => ∃ h1, P h1 ∧ h2 = mset h1 o (.inl (1, 1, .inr (.inl (vp_updL w 0 v.toInt64)))))) := by
  refine mHon.of [some (.ref x), some (.int p0), some (.ref o), none] (by decide +kernel) rfl (Nat.le_of_ble_eq_true rfl) ?_
  intro K el eD eC hK hZ hT hNo
  subst el eD eC
  refine mJ_aload_n hK dL_consumed_0 rfl ?_
  refine mJ_iconst (v := nI 0) hK dL_consumed_1 (by decide) ?_
  refine mJ_aload_n hK dL_consumed_2 rfl ?_
  refine mJ_iload_n hK dL_consumed_3 rfl ?_
  refine mJ_cVi hK dL_consumed_4 lL_60 (by unfold mFit; decide) (by decide) hM rfl rfl (Nat.le_of_ble_eq_true rfl) hx ⟨_, _, rfl⟩ (fun h1 hP1 => ?_)
  refine mJ_i2l hK dL_consumed_7 ?_
  refine mJ_lastN 0 hK dL_consumed_8 (hP h1 hP1) rfl (by omega) (by decide) ?_
  refine mJ_goto (tgt := 15) hK dL_consumed_9 (by decide) ?_
  refine mJ_iconst (v := nI 0) hK dL_consumed_15 (by decide) ?_
  refine mJ_iret hK dL_consumed_16 rfl hZ (by decide) (by decide) ?_
  exact ⟨rfl, h1, hP1, rfl⟩

set_option maxRecDepth 100000 in
set_option maxHeartbeats 4000000 in
theorem hL_consumed_x1 {l : Launch} {D : va_G} {aC : Nat → ClassId} {h : mH} {x o : Nat} {p0 : Int32} {fs : List Value} {P : mH → Prop} (hx : h x = some (.inr (5, fs))) (hM : mXon l D aC mX5_consumed [.ref x, .int p0] h (fun _ _ => False) (fun E h' => E = "java/lang/IndexOutOfBoundsException" ∧ P h')) : mHon l D aC mL_consumed hhL_consumed [.ref x, .int p0, .ref o] h (mRi (nI 1) P) := by
  refine mHon.of [some (.ref x), some (.int p0), some (.ref o), none] (by decide +kernel) rfl (Nat.le_of_ble_eq_true rfl) ?_
  intro K el eD eC hK hZ hT hNo
  subst el eD eC
  refine mJ_aload_n hK dL_consumed_0 rfl ?_
  refine mJ_iconst (v := nI 0) hK dL_consumed_1 (by decide) ?_
  refine mJ_aload_n hK dL_consumed_2 rfl ?_
  refine mJ_iload_n hK dL_consumed_3 rfl ?_
  refine mJ_xC [] ⟨0, 9, 12, 24⟩ [] hT (fun z hz => absurd hz List.not_mem_nil) rfl (by decide) kL_24 (by decide +kernel) hK dL_consumed_4 lL_60 (by unfold mFit; decide) (by decide) rfl rfl (Nat.le_of_ble_eq_true rfl) hx ⟨_, _, rfl⟩ hM (fun q h1 hP1 => ?_)
  refine mJ_astore_n hK dL_consumed_12 (by decide) rfl ?_
  refine mJ_iconst (v := nI 1) hK dL_consumed_13 (by decide) ?_
  refine mJ_iret hK dL_consumed_14 rfl hZ (by decide) (by decide) ?_
  exact ⟨rfl, hP1⟩

set_option maxRecDepth 100000 in
set_option maxHeartbeats 4000000 in
theorem hL_meanWait {l : Launch} {D : va_G} {aC : Nat → ClassId} {h : mH} {x o : Nat} {p0 : Int32} {fs : List Value} {P : mH → Prop} (hx : h x = some (.inr (5, fs))) {v : UInt64} {w : Nat → UInt64} (hM : mCon l D aC mX5_meanWait [.ref x, .int p0] h (mRd v P)) (hP : ∀ h', P h' → h' o = some (.inl (5, 1, .inr (.inr (.inr (.inl (w))))))) : mHon l D aC mL_meanWait hhL_meanWait [.ref x, .int p0, .ref o] h (mRi (nI 0) (fun h2 => ∃ h1, P h1 ∧ h2 = mset h1 o (.inl (5, 1, .inr (.inr (.inr (.inl (vf_upd w 0 v)))))))) := by
  refine mHon.of [some (.ref x), some (.int p0), some (.ref o), none] (by decide +kernel) rfl (Nat.le_of_ble_eq_true rfl) ?_
  intro K el eD eC hK hZ hT hNo
  subst el eD eC
  refine mJ_aload_n hK dL_meanWait_0 rfl ?_
  refine mJ_iconst (v := nI 0) hK dL_meanWait_1 (by decide) ?_
  refine mJ_aload_n hK dL_meanWait_2 rfl ?_
  refine mJ_iload_n hK dL_meanWait_3 rfl ?_
  refine mJ_callV hK dL_meanWait_4 lL_63 (by unfold mFit; decide) (by decide) rfl rfl (Nat.le_of_ble_eq_true rfl) hx ⟨_, _, rfl⟩ hM (fun r h1 hq1 => ?_)
  obtain ⟨rfl, hP1⟩ := hq1
  refine mJ_dast 0 hNo hK dL_meanWait_7 (hP h1 hP1) rfl (by omega) (by decide) ?_
  refine mJ_goto (tgt := 14) hK dL_meanWait_8 (by decide) ?_
  refine mJ_iconst (v := nI 0) hK dL_meanWait_14 (by decide) ?_
  refine mJ_iret hK dL_meanWait_15 rfl hZ (by decide) (by decide) ?_
  exact ⟨rfl, h1, hP1, rfl⟩

set_option maxRecDepth 100000 in
set_option maxHeartbeats 4000000 in
theorem hL_meanWait_x1 {l : Launch} {D : va_G} {aC : Nat → ClassId} {h : mH} {x o : Nat} {p0 : Int32} {fs : List Value} {P : mH → Prop} (hx : h x = some (.inr (5, fs))) (hM : mXon l D aC mX5_meanWait [.ref x, .int p0] h (fun _ _ => False) (fun E h' => E = "java/lang/IndexOutOfBoundsException" ∧ P h')) : mHon l D aC mL_meanWait hhL_meanWait [.ref x, .int p0, .ref o] h (mRi (nI 1) P) := by
  refine mHon.of [some (.ref x), some (.int p0), some (.ref o), none] (by decide +kernel) rfl (Nat.le_of_ble_eq_true rfl) ?_
  intro K el eD eC hK hZ hT hNo
  subst el eD eC
  refine mJ_aload_n hK dL_meanWait_0 rfl ?_
  refine mJ_iconst (v := nI 0) hK dL_meanWait_1 (by decide) ?_
  refine mJ_aload_n hK dL_meanWait_2 rfl ?_
  refine mJ_iload_n hK dL_meanWait_3 rfl ?_
  refine mJ_xC [] ⟨0, 8, 11, 24⟩ [] hT (fun z hz => absurd hz List.not_mem_nil) rfl (by decide) kL_24 (by decide +kernel) hK dL_meanWait_4 lL_63 (by unfold mFit; decide) (by decide) rfl rfl (Nat.le_of_ble_eq_true rfl) hx ⟨_, _, rfl⟩ hM (fun q h1 hP1 => ?_)
  refine mJ_astore_n hK dL_meanWait_11 (by decide) rfl ?_
  refine mJ_iconst (v := nI 1) hK dL_meanWait_12 (by decide) ?_
  refine mJ_iret hK dL_meanWait_13 rfl hZ (by decide) (by decide) ?_
  exact ⟨rfl, hP1⟩

set_option maxRecDepth 100000 in
set_option maxHeartbeats 4000000 in
theorem hL_shareOf {l : Launch} {D : va_G} {aC : Nat → ClassId} {h : mH} {x o : Nat} {p0 : Int32} {fs : List Value} {P : mH → Prop} (hx : h x = some (.inr (5, fs))) {v : UInt32} {w : Nat → UInt64} (hM : mCon l D aC mX5_shareOf [.ref x, .int p0] h (mRf v P)) (hP : ∀ h', P h' → h' o = some (.inl (5, 1, .inr (.inr (.inr (.inl (w))))))) (hv : Jvm.FP.Core.fIsNaN v = false) : mHon l D aC mL_shareOf hhL_shareOf [.ref x, .int p0, .ref o] h (mRi (nI 0) (fun h2 => ∃ h1, P h1 ∧ h2 = mset h1 o (.inl (5, 1, .inr (.inr (.inr (.inl (vf_upd w 0 (FP.f2d v))))))))) := by
  refine mHon.of [some (.ref x), some (.int p0), some (.ref o), none] (by decide +kernel) rfl (Nat.le_of_ble_eq_true rfl) ?_
  intro K el eD eC hK hZ hT hNo
  subst el eD eC
  refine mJ_aload_n hK dL_shareOf_0 rfl ?_
  refine mJ_iconst (v := nI 0) hK dL_shareOf_1 (by decide) ?_
  refine mJ_aload_n hK dL_shareOf_2 rfl ?_
  refine mJ_iload_n hK dL_shareOf_3 rfl ?_
  refine mJ_callV hK dL_shareOf_4 lL_67 (by unfold mFit; decide) (by decide) rfl rfl (Nat.le_of_ble_eq_true rfl) hx ⟨_, _, rfl⟩ hM (fun r h1 hq1 => ?_)
  obtain ⟨rfl, hP1⟩ := hq1
  refine mJ_f2d hK dL_shareOf_7 (n64_of (f2d_n hv)) ?_
  refine mJ_dast 0 hNo hK dL_shareOf_8 (hP h1 hP1) rfl (by omega) (by decide) ?_
  refine mJ_goto (tgt := 15) hK dL_shareOf_9 (by decide) ?_
  refine mJ_iconst (v := nI 0) hK dL_shareOf_15 (by decide) ?_
  refine mJ_iret hK dL_shareOf_16 rfl hZ (by decide) (by decide) ?_
  exact ⟨rfl, h1, hP1, rfl⟩

set_option maxRecDepth 100000 in
set_option maxHeartbeats 4000000 in
theorem hL_shareOf_x1 {l : Launch} {D : va_G} {aC : Nat → ClassId} {h : mH} {x o : Nat} {p0 : Int32} {fs : List Value} {P : mH → Prop} (hx : h x = some (.inr (5, fs))) (hM : mXon l D aC mX5_shareOf [.ref x, .int p0] h (fun _ _ => False) (fun E h' => E = "java/lang/IndexOutOfBoundsException" ∧ P h')) : mHon l D aC mL_shareOf hhL_shareOf [.ref x, .int p0, .ref o] h (mRi (nI 1) P) := by
  refine mHon.of [some (.ref x), some (.int p0), some (.ref o), none] (by decide +kernel) rfl (Nat.le_of_ble_eq_true rfl) ?_
  intro K el eD eC hK hZ hT hNo
  subst el eD eC
  refine mJ_aload_n hK dL_shareOf_0 rfl ?_
  refine mJ_iconst (v := nI 0) hK dL_shareOf_1 (by decide) ?_
  refine mJ_aload_n hK dL_shareOf_2 rfl ?_
  refine mJ_iload_n hK dL_shareOf_3 rfl ?_
  refine mJ_xC [] ⟨0, 9, 12, 24⟩ [] hT (fun z hz => absurd hz List.not_mem_nil) rfl (by decide) kL_24 (by decide +kernel) hK dL_shareOf_4 lL_67 (by unfold mFit; decide) (by decide) rfl rfl (Nat.le_of_ble_eq_true rfl) hx ⟨_, _, rfl⟩ hM (fun q h1 hP1 => ?_)
  refine mJ_astore_n hK dL_shareOf_12 (by decide) rfl ?_
  refine mJ_iconst (v := nI 1) hK dL_shareOf_13 (by decide) ?_
  refine mJ_iret hK dL_shareOf_14 rfl hZ (by decide) (by decide) ?_
  exact ⟨rfl, hP1⟩

set_option maxRecDepth 100000 in
set_option maxHeartbeats 4000000 in
theorem hL_restore {l : Launch} {D : va_G} {aC : Nat → ClassId} {h : mH} {x o : Nat} {fs : List Value} {P : mH → Prop} (hx : h x = some (.inr (5, fs))) {v : Int32} {w : Nat → Int64} (hM : mCon l D aC mX5_restore [.ref x] h (mRi v P)) (hP : ∀ h', P h' → h' o = some (.inl (1, 1, .inr (.inl (w))))) : mHon l D aC mL_restore hhL_restore [.ref x, .ref o] h (mRi (nI 0) (fun h2 => ∃ h1, P h1 ∧ h2 = mset h1 o (.inl (1, 1, .inr (.inl (vp_updL w 0 v.toInt64)))))) := by
  refine mHon.of [some (.ref x), some (.ref o), none] (by decide +kernel) rfl (Nat.le_of_ble_eq_true rfl) ?_
  intro K el eD eC hK hZ hT hNo
  subst el eD eC
  refine mJ_aload_n hK dL_restore_0 rfl ?_
  refine mJ_iconst (v := nI 0) hK dL_restore_1 (by decide) ?_
  refine mJ_aload_n hK dL_restore_2 rfl ?_
  refine mJ_cVi hK dL_restore_3 lL_71 (by unfold mFit; decide) (by decide) hM rfl rfl (Nat.le_of_ble_eq_true rfl) hx ⟨_, _, rfl⟩ (fun h1 hP1 => ?_)
  refine mJ_i2l hK dL_restore_6 ?_
  refine mJ_lastN 0 hK dL_restore_7 (hP h1 hP1) rfl (by omega) (by decide) ?_
  refine mJ_goto (tgt := 14) hK dL_restore_8 (by decide) ?_
  refine mJ_iconst (v := nI 0) hK dL_restore_14 (by decide) ?_
  refine mJ_iret hK dL_restore_15 rfl hZ (by decide) (by decide) ?_
  exact ⟨rfl, h1, hP1, rfl⟩

set_option maxRecDepth 100000 in
set_option maxHeartbeats 4000000 in
theorem hL_restore_x1 {l : Launch} {D : va_G} {aC : Nat → ClassId} {h : mH} {x o : Nat} {fs : List Value} {P : mH → Prop} (hx : h x = some (.inr (5, fs))) (hM : mXon l D aC mX5_restore [.ref x] h (fun _ _ => False) (fun E h' => E = "java/lang/IllegalStateException" ∧ P h')) : mHon l D aC mL_restore hhL_restore [.ref x, .ref o] h (mRi (nI 1) P) := by
  refine mHon.of [some (.ref x), some (.ref o), none] (by decide +kernel) rfl (Nat.le_of_ble_eq_true rfl) ?_
  intro K el eD eC hK hZ hT hNo
  subst el eD eC
  refine mJ_aload_n hK dL_restore_0 rfl ?_
  refine mJ_iconst (v := nI 0) hK dL_restore_1 (by decide) ?_
  refine mJ_aload_n hK dL_restore_2 rfl ?_
  refine mJ_xC [] ⟨0, 8, 11, 15⟩ [] hT (fun z hz => absurd hz List.not_mem_nil) rfl (by decide) kL_15 (by decide +kernel) hK dL_restore_3 lL_71 (by unfold mFit; decide) (by decide) rfl rfl (Nat.le_of_ble_eq_true rfl) hx ⟨_, _, rfl⟩ hM (fun q h1 hP1 => ?_)
  refine mJ_astore_n hK dL_restore_11 (by decide) rfl ?_
  refine mJ_iconst (v := nI 1) hK dL_restore_12 (by decide) ?_
  refine mJ_iret hK dL_restore_13 rfl hZ (by decide) (by decide) ?_
  exact ⟨rfl, hP1⟩

