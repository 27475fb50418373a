/-! ===== calls ===== -/
theorem mGI {ws : List Cond} (h : ∀ w ∈ ws, w ∈ mTB) : GoodIn mTB ws := fun w hw => ⟨h w hw, mTB_good (h w hw)⟩
def mLB (own : String) (idx : Nat) (ν : mM) (n : Nat) : Prop := Cond.methodLink own idx ν.1 ∈ mTB ∧ Cond.initialized ν.1.cls ∈ mTB ∧ Cond.code ν.1 ν.2.1 ν.2.2.1 ν.2.2.2.1 ∈ mTB ∧ (ν.1.cls ≠ "java/lang/invoke/MethodHandle" ∧ ν.1.cls ≠ "java/lang/invoke/VarHandle" ∧ (parseMethodDescriptor ν.1.desc).map (fun d => d.parameters.length) = some n)
def mLV (own : String) (idx : Nat) (ν : mM) (n : Nat) : Prop := mLB own idx ν n ∧ Cond.instanceMethod ν.1 ∈ mTB ∧ Cond.selects ν.1.cls ν.1 ν.1 ∈ mTB
def mLS (own : String) (idx : Nat) (ν : mM) (n : Nat) : Prop := mLB own idx ν n ∧ Cond.static ν.1 ∈ mTB
def mLN (own : String) (idx : Nat) (ν : mM) (n : Nat) : Prop := (∃ host : String, (own, idx, ν.1, host) ∈ mNM) ∧ Cond.initialized ν.1.cls ∈ mTB ∧ Cond.code ν.1 ν.2.1 ν.2.2.1 ν.2.2.2.1 ∈ mTB ∧ (ν.1.cls ≠ "java/lang/invoke/MethodHandle" ∧ ν.1.cls ≠ "java/lang/invoke/VarHandle" ∧ (parseMethodDescriptor ν.1.desc).map (fun d => d.parameters.length) = some n) ∧ Cond.static ν.1 ∈ mTB
def mFit (μ ν : mM) : Prop := (mRm ν).frames + 1 ≤ (mRm μ).frames ∧ 8 + (ν.2.2.1 + 11) + (mRm ν).locals ≤ (mRm μ).locals
theorem mWs_in {ν : mM} (h : Cond.code ν.1 ν.2.1 ν.2.2.1 ν.2.2.2.1 ∈ mTB) : ∀ w ∈ mWs ν, w ∈ mTB := by
  intro w hw
  rcases List.mem_cons.mp hw with rfl | hw
  · exact h
  · exact hw
theorem mCB {K : mK} {μ ν : mM} {idx n : Nat} (hK : mCx K μ) (hl : mLB μ.1.cls idx ν n) (hR : mFit μ ν) : CallB (kR K) (ks K) (ka K) μ.1.cls idx ν.1 ν.2.1 ν.2.2.1 ν.2.2.2.1 (mWs ν) (mRm ν) (mRm ν).cells (mRm ν).slots n := by
  have hw := hK.2.2.2.2.2.1
  exact callB_of n hw (mGI (mWs_in hl.2.2.1)) rfl rfl rfl (hw _ hl.2.1) (hw _ hl.1) hl.2.2.2 (by rw [hK.2.2.2.2.2.2.2.1]; exact hR)
theorem mHR.weaken {D : va_G} {aC : Nat → ClassId} {A B : Nat → Prop} {h : mH} {H : Heap} (hH : mHR D aC A h H) (hAB : ∀ q, A q → B q) : mHR D aC B h H := by
  obtain ⟨w, h1, h2, h3⟩ := hH
  exact ⟨w, h1, h2.weaken (fun _ q _ z => hAB q.1 z), h3⟩
theorem mFree {A : Nat → Prop} {ws : va_W} {H0 H : Heap} {locs : List Loc} (hD : va_D A ws) (hS : va_S A H0 H locs) (hA : ∀ q, H0.size ≤ q → A q) : ∀ q, va_A ws H.size q → A q := by
  intro q hq
  rcases hq with ⟨k, e, h⟩ | h
  · exact hD.2 k _ h
  · exact hA q (Nat.le_trans hS.1 h)
theorem mS_call {A A1 : Nat → Prop} {H0 H H1 : Heap} {locs L : List Loc} (hS : va_S A H0 H locs) (hf : ∀ q, A1 q → A q) (hz : H.size ≤ H1.size) (hk : ∀ q : Nat, q < H.size → ¬ A1 q → H1[q]? = H[q]?) (hL : ∀ q ∈ L, A1 q.base) : va_S A H0 H1 (locs ++ L) := by
  refine ⟨Nat.le_trans hS.1 hz, fun q h1 h2 => ?_, fun q hq => ?_⟩
  · rw [hk q (Nat.lt_of_lt_of_le h1 hS.1) (fun z => h2 (hf q z))]
    exact hS.2.1 q h1 h2
  · rcases List.mem_append.mp hq with h | h
    · exact hS.2.2 q h
    · exact hf _ (hL q h)
theorem mJ_run {K : mK} {ν : mM} {cells slots pc : Nat} {L : List (Option Value)} {S st : List Value} {h : mH} {Q' : Option Value → mH → Prop} {ws : va_W} {H : Heap} {locs : List Loc} {ls : Array Slot} {a : Array Value}
    (hS : va_S (kA K) (ks K).heap H locs) (hL : mLR ls (kc K).maxLocals L) (hfree : ∀ q, va_A ws H.size q → kA K q)
    (hr : va_Run (kp K) (kl K) (ke K) (kR K) (ks K) (km K) (ka K) (kb K) (kme K) (kc K) H locs cells slots (mRm ν).cells (mRm ν).slots (F0 (km K) pc ls st) S (mQc (kD K) (kC K) Q' (va_A ws H.size) a) (va_A ws H.size))
    (kk : ∀ (r : Option Value) (h' : mH), Q' r h' → mJ K (cells + (mRm ν).cells) (slots + (mRm ν).slots) (pc + 3) L (r.toList ++ S) h') : W (kp K) (kl K) (ke K) (kR K) (ks K) (km K) (ka K) (kb K) (kme K) (kc K) H locs cells slots (kZ K) (F0 (km K) pc ls st) := by
  intro T9 hT9 X9
  obtain ⟨v, st₀, t, T', L9, h0, X', hL9, e1, e2, ⟨r, h', hv, hQ, hH', hz, hk⟩, stp⟩ := hr T9 hT9 X9
  cases hv
  rw [h0] at hz hk
  obtain ⟨t2, a1, b1⟩ := kk v h' hQ T'.heap (locs ++ L9) ls (by rw [e1]; exact hH'.weaken hfree) (mS_call hS hfree (by rw [e1]; exact hz) (fun q h1 h2 => by rw [e1]; exact hk q h1 h2) hL9) hL T' rfl X'
  exact ⟨t2, stp t2 a1, b1⟩
theorem mJ_runX {K : mK} {μ ν : mM} {cells slots pc : Nat} {L : List (Option Value)} {S st : List Value} {h : mH} {Q' : Option Value → mH → Prop} {QX QX' : String → mH → Prop} {ws : va_W} {H : Heap} {locs : List Loc} {ls : Array Slot} {a : Array Value}
    (hK : mCx K μ) (hX : mRx K μ QX) (hXX : ∀ E h', QX' E h' → QX E h') (hf : cells + (mRm ν).cells ≤ (mRm μ).cells ∧ slots + (mRm ν).slots ≤ (mRm μ).slots) (hS : va_S (kA K) (ks K).heap H locs) (hL : mLR ls (kc K).maxLocals L) (hfree : ∀ q, va_A ws H.size q → kA K q)
    (hr : vx_Run (kp K) (kl K) (ke K) (kR K) (ks K) (km K) (ka K) (kb K) (kme K) (kc K) H locs cells slots (mRm ν).cells (mRm ν).slots (F0 (km K) pc ls st) S (mQc (kD K) (kC K) Q' (va_A ws H.size) a) (mXc (kD K) (kC K) QX' (va_A ws H.size)) (va_A ws H.size))
    (kk : ∀ (r : Option Value) (h' : mH), Q' r h' → mJ K (cells + (mRm ν).cells) (slots + (mRm ν).slots) (pc + 3) L (r.toList ++ S) h') : W (kp K) (kl K) (ke K) (kR K) (ks K) (km K) (ka K) (kb K) (kme K) (kc K) H locs cells slots (kZ K) (F0 (km K) pc ls st) := by
  intro T9 hT9 X9
  rcases hr T9 hT9 X9 with ⟨v, st₀, t, T', L9, h0, X', hL9, e1, e2, ⟨r, h', hv, hQ, hH', hz, hk⟩, stp⟩ | ⟨q, st₀, t, T', L9, E, ce, h0, X', hL9, e1, e2, ⟨h', hQ, hH', hz, hk⟩, hce, hcv, hcl, stp⟩
  · cases hv
    rw [h0] at hz hk
    obtain ⟨t2, a1, b1⟩ := kk v h' hQ T'.heap (locs ++ L9) ls (by rw [e1]; exact hH'.weaken hfree) (mS_call hS hfree (by rw [e1]; exact hz) (fun q h1 h2 => by rw [e1]; exact hk q h1 h2) hL9) hL T' rfl X'
    exact ⟨t2, stp t2 a1, b1⟩
  · rw [h0] at hz hk
    obtain ⟨htab, Q, hZ⟩ := hX
    have hS1 : va_S (kA K) (ks K).heap T'.heap (locs ++ L9) := mS_call hS hfree (by rw [e1]; exact hz) (fun q h1 h2 => by rw [e1]; exact hk q h1 h2) hL9
    obtain ⟨t2, a1, b1⟩ := vx_out (pc := pc) (ls := ls) (rest := S) (Qc := mQc (kD K) (kC K) Q (kA K)) (XC := mXc (kD K) (kC K) QX (kA K)) (free := kA K) (mc := (mRm μ).cells) (ms := (mRm μ).slots) (fun x hx => absurd hx (htab x)) hK.2.2.2.2.2.2.1 (by rw [e1]; exact hce) hcv hcl
      (fun t3 ht3 _ => ⟨h', hXX E h' hQ, by rw [ht3, e1]; exact hH'.weaken hfree, hS1.F ht3⟩) hS1.2.2 hf.1 hf.2 T' rfl X'
    refine ⟨t2, Steps.trans stp a1, ?_⟩
    rw [hZ]
    exact b1
section MC
variable {K : mK} {μ ν : mM} {cells slots pc : Nat} {L : List (Option Value)} {S st : List Value} {h : mH} {idx n b ci : Nat} {fs As : List Value} {Q' : Option Value → mH → Prop} {QX QX' : String → mH → Prop}
theorem mJ_callV (hK : mCx K μ) (hd : decode μ.2.1 pc = .ok (.invokevirtual idx, 3)) (hl : mLV μ.1.cls idx ν n) (hR : mFit μ ν) (hf : cells + (mRm ν).cells ≤ (mRm μ).cells ∧ slots + (mRm ν).slots ≤ (mRm μ).slots) (hn : As.length = n) (hst : st = As.reverse ++ .ref b :: S) (h8 : (S.map fun v => v.category).sum ≤ 8) (hb : h b = some (.inr (ci, fs))) (hci : ∃ (T : u_T) (N : Nat), vwCl[ci]? = some (ν.1.cls, T, N))
    (hM : mCon (kl K) (kD K) (kC K) ν (.ref b :: As) h Q') (kk : ∀ (r : Option Value) (h' : mH), Q' r h' → mJ K (cells + (mRm ν).cells) (slots + (mRm ν).slots) (pc + 3) L (r.toList ++ S) h') : mJ K cells slots pc L st h := by
  intro H locs ls hH hS hL
  obtain ⟨ws, hP, hD, hs⟩ := id hH
  obtain ⟨q, hq⟩ := hs b _ hb
  obtain ⟨T, N, hc⟩ := hci
  have hE := hK.2.2.2.2.2.2.2.2.1
  have hw := hK.2.2.2.2.2.1
  have hfree := mFree hD hS hK.2.2.2.2.2.2.2.2.2
  subst hst
  exact mJ_run (ν := ν) (h := h) hS hL hfree (va_runV (cc := μ.2.1) (nL := μ.2.2.1) (Ts := mTB) (C := ν.1.cls) (b := b) (As := As) (rest := S) ⟨hK.1, hK.2.1, hK.2.2.1, hK.2.2.2.2.1, hw⟩ (hM ws H.size hs) ⟨mCB hK hl.1 hR, hw _ hl.2.1, hw _ hl.2.2⟩
    ⟨mPre.blind, va_recv hE.2.1 hP hc hq, fun U hU hW => ⟨rfl, by rw [hU], by rw [hU]; exact hP, hD.weaken (fun _ _ _ _ => trivial), hE.next hS hU hW hfree⟩⟩ rfl hn (hL.1.trans hK.2.2.1) rfl (lv_room h8) hd (by rw [hK.2.2.2.2.2.2.2.1]; exact hf)) kk
theorem mJ_callVX (hK : mCx K μ) (hX : mRx K μ QX) (hd : decode μ.2.1 pc = .ok (.invokevirtual idx, 3)) (hl : mLV μ.1.cls idx ν n) (hR : mFit μ ν) (hf : cells + (mRm ν).cells ≤ (mRm μ).cells ∧ slots + (mRm ν).slots ≤ (mRm μ).slots) (hn : As.length = n) (hst : st = As.reverse ++ .ref b :: S) (h8 : (S.map fun v => v.category).sum ≤ 8) (hb : h b = some (.inr (ci, fs))) (hci : ∃ (T : u_T) (N : Nat), vwCl[ci]? = some (ν.1.cls, T, N))
    (hM : mXon (kl K) (kD K) (kC K) ν (.ref b :: As) h Q' QX') (hXX : ∀ E h', QX' E h' → QX E h') (kk : ∀ (r : Option Value) (h' : mH), Q' r h' → mJ K (cells + (mRm ν).cells) (slots + (mRm ν).slots) (pc + 3) L (r.toList ++ S) h') : mJ K cells slots pc L st h := by
  intro H locs ls hH hS hL
  obtain ⟨ws, hP, hD, hs⟩ := id hH
  obtain ⟨q, hq⟩ := hs b _ hb
  obtain ⟨T, N, hc⟩ := hci
  have hE := hK.2.2.2.2.2.2.2.2.1
  have hw := hK.2.2.2.2.2.1
  have hfree := mFree hD hS hK.2.2.2.2.2.2.2.2.2
  subst hst
  exact mJ_runX (μ := μ) (ν := ν) (h := h) hK hX hXX hf hS hL hfree (vx_runV (cc := μ.2.1) (nL := μ.2.2.1) (Ts := mTB) (C := ν.1.cls) (b := b) (As := As) (rest := S) ⟨hK.1, hK.2.1, hK.2.2.1, hK.2.2.2.2.1, hw⟩ (hM ws H.size hs) ⟨mCB hK hl.1 hR, hw _ hl.2.1, hw _ hl.2.2⟩
    ⟨mPre.blind, va_recv hE.2.1 hP hc hq, fun U hU hW => ⟨rfl, by rw [hU], by rw [hU]; exact hP, hD.weaken (fun _ _ _ _ => trivial), hE.next hS hU hW hfree⟩⟩ rfl hn (hL.1.trans hK.2.2.1) rfl (lv_room h8) hd (by rw [hK.2.2.2.2.2.2.2.1]; exact hf)) kk
theorem mJ_callS (hK : mCx K μ) (hd : decode μ.2.1 pc = .ok (.invokestatic idx, 3)) (hl : mLS μ.1.cls idx ν n) (hR : mFit μ ν) (hf : cells + (mRm ν).cells ≤ (mRm μ).cells ∧ slots + (mRm ν).slots ≤ (mRm μ).slots) (hn : As.length = n) (hst : st = As.reverse ++ S) (h8 : (S.map fun v => v.category).sum ≤ 8)
    (hM : mCon (kl K) (kD K) (kC K) ν As h Q') (kk : ∀ (r : Option Value) (h' : mH), Q' r h' → mJ K (cells + (mRm ν).cells) (slots + (mRm ν).slots) (pc + 3) L (r.toList ++ S) h') : mJ K cells slots pc L st h := by
  intro H locs ls hH hS hL
  obtain ⟨ws, hP, hD, hs⟩ := id hH
  have hE := hK.2.2.2.2.2.2.2.2.1
  have hw := hK.2.2.2.2.2.1
  have hfree := mFree hD hS hK.2.2.2.2.2.2.2.2.2
  subst hst
  exact mJ_run (ν := ν) (h := h) hS hL hfree (va_runS (cc := μ.2.1) (nL := μ.2.2.1) (Ts := mTB) (As := As) (rest := S) ⟨hK.1, hK.2.1, hK.2.2.1, hK.2.2.2.2.1, hw⟩ (hM ws H.size hs) ⟨mCB hK hl.1 hR, hw _ hl.2⟩
    ⟨mPre.blind, fun U hU hW => ⟨rfl, by rw [hU], by rw [hU]; exact hP, hD.weaken (fun _ _ _ _ => trivial), hE.next hS hU hW hfree⟩⟩ rfl hn (hL.1.trans hK.2.2.1) rfl (lv_room h8) hd (by rw [hK.2.2.2.2.2.2.2.1]; exact hf)) kk
theorem mJ_callSX (hK : mCx K μ) (hX : mRx K μ QX) (hd : decode μ.2.1 pc = .ok (.invokestatic idx, 3)) (hl : mLS μ.1.cls idx ν n) (hR : mFit μ ν) (hf : cells + (mRm ν).cells ≤ (mRm μ).cells ∧ slots + (mRm ν).slots ≤ (mRm μ).slots) (hn : As.length = n) (hst : st = As.reverse ++ S) (h8 : (S.map fun v => v.category).sum ≤ 8)
    (hM : mXon (kl K) (kD K) (kC K) ν As h Q' QX') (hXX : ∀ E h', QX' E h' → QX E h') (kk : ∀ (r : Option Value) (h' : mH), Q' r h' → mJ K (cells + (mRm ν).cells) (slots + (mRm ν).slots) (pc + 3) L (r.toList ++ S) h') : mJ K cells slots pc L st h := by
  intro H locs ls hH hS hL
  obtain ⟨ws, hP, hD, hs⟩ := id hH
  have hE := hK.2.2.2.2.2.2.2.2.1
  have hw := hK.2.2.2.2.2.1
  have hfree := mFree hD hS hK.2.2.2.2.2.2.2.2.2
  subst hst
  exact mJ_runX (μ := μ) (ν := ν) (h := h) hK hX hXX hf hS hL hfree (vx_runS (cc := μ.2.1) (nL := μ.2.2.1) (Ts := mTB) (As := As) (rest := S) ⟨hK.1, hK.2.1, hK.2.2.1, hK.2.2.2.2.1, hw⟩ (hM ws H.size hs) ⟨mCB hK hl.1 hR, hw _ hl.2⟩
    ⟨mPre.blind, fun U hU hW => ⟨rfl, by rw [hU], by rw [hU]; exact hP, hD.weaken (fun _ _ _ _ => trivial), hE.next hS hU hW hfree⟩⟩ rfl hn (hL.1.trans hK.2.2.1) rfl (lv_room h8) hd (by rw [hK.2.2.2.2.2.2.2.1]; exact hf)) kk
theorem mJ_callN (hK : mCx K μ) (hd : decode μ.2.1 pc = .ok (.invokestatic idx, 3)) (hl : mLN μ.1.cls idx ν n) (hR : mFit μ ν) (hf : cells + (mRm ν).cells ≤ (mRm μ).cells ∧ slots + (mRm ν).slots ≤ (mRm μ).slots) (hn : As.length = n) (hst : st = As.reverse ++ S) (h8 : (S.map fun v => v.category).sum ≤ 8)
    (hM : mCon (kl K) (kD K) (kC K) ν As h Q') (kk : ∀ (r : Option Value) (h' : mH), Q' r h' → mJ K (cells + (mRm ν).cells) (slots + (mRm ν).slots) (pc + 3) L (r.toList ++ S) h') : mJ K cells slots pc L st h := by
  intro H locs ls hH hS hL
  obtain ⟨ws, hP, hD, hs⟩ := id hH
  have hE := hK.2.2.2.2.2.2.2.2.1
  have hw := hK.2.2.2.2.2.1
  have hfree := mFree hD hS hK.2.2.2.2.2.2.2.2.2
  obtain ⟨⟨host, l1⟩, l2, l3, l4, l5⟩ := hl
  subst hst
  exact mJ_run (ν := ν) (h := h) hS hL hfree (va_runSN (cc := μ.2.1) (nL := μ.2.2.1) (Ts := mTB) (host := host) (As := As) (rest := S) ⟨hK.1, hK.2.1, hK.2.2.1, hK.2.2.2.2.1, hw⟩ (hM ws H.size hs) ⟨va_cnB n hw (mGI (mWs_in l3)) rfl rfl rfl (hE.2.2.2.1 _ l1) (hw _ l2) l4 (by rw [hK.2.2.2.2.2.2.2.1]; exact hR), hw _ l5, trivial⟩
    ⟨mPre.blind, fun U hU hW => ⟨rfl, by rw [hU], by rw [hU]; exact hP, hD.weaken (fun _ _ _ _ => trivial), hE.next hS hU hW hfree⟩⟩ rfl hn (hL.1.trans hK.2.2.1) rfl (lv_room h8) hd (by rw [hK.2.2.2.2.2.2.2.1]; exact hf)) kk
end MC
/-! ===== a throw ===== -/
def mXn : List String := ["java/lang/RuntimeException", "java/lang/Exception"]
def mTW (own : String) (ik ic : Nat) (X : String) : Prop := Cond.classLink own ik X ∈ mTB ∧ Cond.initialized X ∈ mTB ∧ (∀ w ∈ (vx_atS own ic X mXn).filter goodWord, w ∈ mTB) ∧ (∀ w ∈ (vx_atS own ic X mXn).filter (fun w => !goodWord w), w ∈ Cond.castable X X :: mYs.map Cond.declares) ∧ (∀ w ∈ Cond.classLink own ik X :: Cond.initialized X :: vx_atS own ic X mXn, vx_ot w = true) ∧ Bundle.fit X = true ∧ X ∈ mXs
theorem mJ_throw {K : mK} {μ : mM} {cells slots pc : Nat} {L : List (Option Value)} {S : List Value} {h : mH} {QX : String → mH → Prop} {ik is ic : Nat} {X text : String} (hK : mCx K μ) (hX : mRx K μ QX) (hT : mTW μ.1.cls ik ic X) (hst : (μ.1.cls, is, text) ∈ mSt)
    (d0 : decode μ.2.1 pc = .ok (.new ik, 3)) (d3 : decode μ.2.1 (pc + 3) = .ok (.dup, 1)) (d4 : decode μ.2.1 (pc + 4) = .ok (.ldc is, 2)) (d6 : decode μ.2.1 (pc + 6) = .ok (.invokespecial ic, 3)) (d9 : decode μ.2.1 (pc + 9) = .ok (.athrow, 1))
    (hfr : 5 < (mRm μ).frames) (hlo : (S.map fun v => v.category).sum + 82 ≤ (mRm μ).locals) (hc : cells + 1 ≤ (mRm μ).cells) (hs9 : slots + 6 ≤ (mRm μ).slots) (hq : QX X h) : mJ K cells slots pc L S h := by
  intro H locs ls hH hS hL
  obtain ⟨t1, t2, t3, t4, t5, t6, t7⟩ := hT
  obtain ⟨htab, Q, hZ⟩ := hX
  have hE := hK.2.2.2.2.2.2.2.2.1
  have hw := hK.2.2.2.2.2.1
  have hR := hK.2.2.2.2.2.2.2.1
  obtain ⟨sa, hsa⟩ := hE.2.2.2.2.2.1 _ hst
  obtain ⟨ws, hP, hD, hs⟩ := id hH
  rw [hZ]
  refine vx_throwS (names := mXn) (A := kA K) hK.1 hK.2.1 hE.1 hK.2.2.2.2.1 t6 (by decide +kernel) (hw _ t1) (hw _ t2) hsa (vx_hat (B := Cond.castable X X :: mYs.map Cond.declares) (fun w h9 => hw w (t3 w h9)) t4 (fun w h9 => ?_)) t5 hE.2.2.2.2.2.2.1 hE.2.2.2.2.2.2.2.1 hS (hL.1.trans rfl) d0 d3 d4 d6 d9 (fun x hx => absurd hx (htab x)) (by rw [hR]; exact hfr) (by rw [hR]; exact hlo) (by rw [hR]; exact hc) (by rw [hR]; exact hs9) hK.2.2.2.2.2.2.1 (fun t _ hz hk => ?_) hS.2.2 hc hs9
  · rcases List.mem_cons.mp h9 with rfl | h9
    · exact va_Nw.use rfl (hE.2.2.2.2.1 X t7)
    · obtain ⟨Y, hY, rfl⟩ := List.mem_map.mp h9
      exact va_Nw.use rfl (hE.2.2.2.2.2.2.2.2 Y hY)
  · refine ⟨h, hq, ⟨ws, hP.kept (fun k q hk9 => hk q.1 (hP k q hk9).lt), hD, hs⟩, Nat.le_trans hS.1 hz, fun q h1 h2 => ?_⟩
    rw [hk q (Nat.lt_of_lt_of_le h1 hS.1)]
    exact hS.2.1 q h1 h2
