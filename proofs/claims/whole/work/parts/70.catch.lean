def mNcs : List (String × String) := [("java/lang/IllegalStateException", "java/lang/IllegalArgumentException"), ("java/lang/IllegalArgumentException", "java/lang/IndexOutOfBoundsException"), ("java/lang/IllegalStateException", "java/lang/IndexOutOfBoundsException")]
def mNo (D : va_G) (aC : Nat → ClassId) (U : State) : Prop := (∀ q ∈ mNcs, va_Nc q.1 q.2 U) ∧ va_AO "JoinRuntime$Rule" U ∧ va_AO "JoinRuntime$Channel" U ∧ va_K D vwCl [(aC 5, .double)] U
theorem mNo.alike {D : va_G} {aC : Nat → ClassId} {s U : State} (h : mNo D aC s) (hW : s.vm.Alike U.vm) : mNo D aC U := ⟨fun q hq => va_Nc.moved hW (h.1 q hq), va_AO.moved hW h.2.1, va_AO.moved hW h.2.2.1, va_K.moved hW h.2.2.2⟩
abbrev mHh : Type := List (Nat × Nat × Nat × Nat)
def mWsH (μ : mM) (hh : mHh) : List Cond := .codeWith μ.1 μ.2.1 μ.2.2.1 μ.2.2.2.1 hh :: mTB
def mPreH (l : Launch) (D : va_G) (aC : Nat → ClassId) (w : va_W) (sz : Nat) (U : State) : Prop := mPre l D aC w sz U ∧ mNo D aC U
/-- the contract of a method with handlers -/
def mHon (l : Launch) (D : va_G) (aC : Nat → ClassId) (μ : mM) (hh : mHh) (vs : List Value) (h : mH) (Q : Option Value → mH → Prop) : Prop := ∀ (w : va_W) (sz : Nat), mSub aC h w → Met l μ.1 (mWsH μ hh) (mRm μ) (va_Pc vs (mPreH l D aC w sz)) (mQc D aC Q (va_A w sz)) (mRm μ).cells (mRm μ).slots (va_A w sz)
theorem mPreH.blind {l : Launch} {D : va_G} {aC : Nat → ClassId} {w : va_W} {sz : Nat} {vs : List Value} : FrameBlind (va_Pc vs (mPreH l D aC w sz)) := by
  intro a U g mk h
  obtain ⟨h0, ⟨h1, h2, h3, h4⟩, h5⟩ := h
  exact ⟨h0, ⟨h1, h2, h3, h4.blind⟩, h5.alike (Vm.Alike.refl U.vm)⟩
theorem mMetH {l : Launch} {y : MethodName} {ws ws' : List Cond} {rm : Room} {Pc : Array Value → State → Prop} {Qc : Array Value → State → Outcome → State → Prop} {mc ms : Nat} {free : Addr → Prop} {cc : ByteArray} {maxL : Nat} {ret : Option FieldType} {hh : mHh}
    (hy : plainName y.cls = true) (hw : ws = Cond.codeWith y cc maxL ret hh :: ws')
    (body : ∀ p e s m args below meth c s₁, BodyLoose p l y (headSpec ws rm) cc maxL ret e s m args below meth c s₁ → c.maxLocals = maxL → Pc args s →
      W p l e (headSpec ws rm).room s m args below meth c s.heap [] 0 0 (MQ below Qc args s mc ms free) (entryFrame m args maxL)) : Met l y ws rm Pc Qc mc ms free := by
  refine MetFree.of_bodyS (code := cc) (maxLocals := maxL) (ret := ret) hy ?_ ?_
  · intro args s m h hn
    obtain ⟨m9, meth, c, hn9, h1, h2, h3, h4, -, h5, h6, -⟩ := Cond.codeWith_spec (atoms_spec (ws := ws) h _ (by rw [hw]; exact List.mem_cons_self))
    cases hn.symm.trans hn9
    exact ⟨meth, c, h1, h2, h3, h4, h5, h6⟩
  · intro p e s m args below meth c s₁ B hml hP _
    have hh0 : s₁.heap = s.heap := by rw [B.state]; rfl
    obtain ⟨t, a1, o, b1, b2, b3⟩ := body p e s m args below meth c s₁ B hml hP s₁ hh0 (Stand.of_body B)
    exact ⟨t, o, a1, b1, b2, ⟨b3.1, b3.2⟩⟩
theorem mHon.of {l : Launch} {D : va_G} {aC : Nat → ClassId} {μ : mM} {hh : mHh} {vs : List Value} {h : mH} {Q : Option Value → mH → Prop} (L : List (Option Value)) (hy : plainName μ.1.cls = true) (hL : mEnt vs μ.2.2.1 = L) (hlen : (lg_sl vs).length ≤ μ.2.2.1)
    (body : ∀ K : mK, kl K = l → kD K = D → kC K = aC → mCx K μ → mRt K μ Q → (kc K).exceptionTable.toList = tableOf hh → mNo (kD K) (kC K) (ks K) → mJ K 0 0 0 L [] h) : mHon l D aC μ hh vs h Q := by
  intro w sz hs
  refine mMetH (cc := μ.2.1) (maxL := μ.2.2.1) (ret := μ.2.2.2.1) (hh := hh) hy rfl ?_
  intro p e s m args below meth c s₁ B hml hv
  obtain ⟨rfl, ⟨hsz, hP, hD, hE⟩, hNo⟩ := hv
  subst hsz
  have hat := atoms_spec (ws := mWsH μ hh) B.pre
  have hts : ∀ w ∈ mTB, w.before vs.toArray s = true := fun w hw => hat w (List.mem_cons_of_mem _ hw)
  have hown : s.vm.findClass μ.1.cls = some m.cls := findClass_of_methodNamed B.named
  have hb := body (p, l, e, mRm μ, s, m, vs.toArray, below, meth, c, D, aC, va_A w s.heap.size, MQ below (mQc D aC Q (va_A w s.heap.size)) vs.toArray s (mRm μ).cells (mRm μ).slots (va_A w s.heap.size)) rfl rfl rfl
    ⟨B.exec, B.bytes, hml, B.returns, hown, hts, B.notSynchronized, rfl, hE, fun q hq => Or.inr hq⟩ (fun t ht => ht) (vx_table (x := μ.1) B (hat _ List.mem_cons_self)) hNo
  rw [lg_entry_eq]
  refine hb s.heap [] _ (mHR_self hP hD hs) va_S.rf ?_
  show mLR _ c.maxLocals L
  rw [hml, ← hL]
  exact mLR.of (lv_entry vs (n := μ.2.2.1) hlen) (fun i v hi => by have := mEnt_in vs μ.2.2.1 0 i v hi; rwa [Nat.zero_add] at this)
section MH
variable {K : mK} {μ ν : mM} {cells slots pc : Nat} {L : List (Option Value)} {S st : List Value} {h : mH} {idx n b ci : Nat} {fs As : List Value}
/-- a call that throws X, caught here -/
theorem mJ_xC {X : String} {P : mH → Prop} (pre : List ExceptionTableEntry) (x : ExceptionTableEntry) (suf : List ExceptionTableEntry) (htab : (kc K).exceptionTable.toList = pre ++ x :: suf) (hpass : ∀ z ∈ pre, z.catchType ≠ 0 ∧ ∃ nm, Cond.classLink μ.1.cls z.catchType nm ∈ mTB ∧ va_Nc X nm (ks K)) (hx : covers x pc = true) (h0 : x.catchType ≠ 0) (hlk : Cond.classLink μ.1.cls x.catchType X ∈ mTB) (hX : X ∈ mXs)
    (hK : mCx K μ) (hd : decode μ.2.1 pc = .ok (.invokevirtual idx, 3)) (hl : mLV μ.1.cls idx ν n) (hR : mFit μ ν) (hf : cells + (mRm ν).cells ≤ (mRm μ).cells ∧ slots + (mRm ν).slots ≤ (mRm μ).slots) (hn : As.length = n) (hst : st = As.reverse ++ .ref b :: S) (h8 : (S.map fun v => v.category).sum ≤ 8) (hb : h b = some (.inr (ci, fs))) (hci : ∃ (T : u_T) (N : Nat), vwCl[ci]? = some (ν.1.cls, T, N))
    (hM : mXon (kl K) (kD K) (kC K) ν (.ref b :: As) h (fun _ _ => False) (fun E h' => E = X ∧ P h')) (kk : ∀ (q : Nat) (h' : mH), P h' → mJ K (cells + (mRm ν).cells) (slots + (mRm ν).slots) x.handlerPc L [.ref q] h') : mJ K cells slots pc L st h := by
  intro H locs ls hH hS hL
  obtain ⟨ws, hP, hD, hs⟩ := id hH
  obtain ⟨q, hq⟩ := hs b _ hb
  obtain ⟨T, N, hc⟩ := hci
  have hE := hK.2.2.2.2.2.2.2.2.1
  have hw := hK.2.2.2.2.2.1
  have hfree := mFree hD hS hK.2.2.2.2.2.2.2.2.2
  subst hst
  have hr := vx_runV (cc := μ.2.1) (nL := μ.2.2.1) (Ts := mTB) (C := ν.1.cls) (b := b) (As := As) (rest := S) (below := kb K) (cells := cells) (slots := slots) (p := kp K) (l := kl K) (e := ke K) (meth := kme K) (c := kc K) (g := F0 (km K) pc ls (As.reverse ++ .ref b :: S)) (locs := locs) ⟨hK.1, hK.2.1, hK.2.2.1, hK.2.2.2.2.1, hw⟩ (hM ws H.size hs) ⟨mCB hK hl.1 hR, hw _ hl.2.1, hw _ hl.2.2⟩
    ⟨mPre.blind, va_recv hE.2.1 hP hc hq, fun U hU hW => ⟨rfl, by rw [hU], by rw [hU]; exact hP, hD.weaken (fun _ _ _ _ => trivial), hE.next hS hU hW hfree⟩⟩ rfl hn (hL.1.trans hK.2.2.1) rfl (lv_room h8) hd (by rw [hK.2.2.2.2.2.2.2.1]; exact hf)
  intro T9 hT9 X9
  rcases hr T9 hT9 X9 with ⟨v, st₀, t, T', L9, h0', X', hL9, e1, e2, ⟨r, h', hv, hQ, -⟩, stp⟩ | ⟨qe, st₀, t, T', L9, E, ce, h0', X', hL9, e1, e2, ⟨h', ⟨rfl, hQ⟩, hH', hz, hk⟩, hce, hcv, hcl, stp⟩
  · exact hQ.elim
  · rw [h0'] at hz hk
    have hS1 : va_S (kA K) (ks K).heap T'.heap (locs ++ L9) := mS_call hS hfree (by rw [e1]; exact hz) (fun q h1 h2 => by rw [e1]; exact hk q h1 h2) hL9
    obtain ⟨t2, a1, b1⟩ := vx_catch (own := μ.1.cls) (name := E) (pc := pc) (ls := ls) (rest := S) hK.2.2.2.2.1 pre x suf htab (fun z hz9 => Or.inr ⟨(hpass z hz9).1, by obtain ⟨nm, n1, n2⟩ := (hpass z hz9).2; exact ⟨nm, hw _ n1, n2⟩⟩) hx h0 (hw _ hlk) (va_Nw.use rfl (hE.2.2.2.2.1 E hX)) (by rw [e1]; exact hce) hcv hcl
      (kk qe h' hQ T'.heap (locs ++ L9) ls (by rw [e1]; exact hH'.weaken hfree) hS1 hL) T' rfl X'
    exact ⟨t2, Steps.trans stp a1, b1⟩
def mLH (own : String) (idx : Nat) (ν : mM) (hh : mHh) (n : Nat) : Prop := Cond.methodLink own idx ν.1 ∈ mTB ∧ Cond.initialized ν.1.cls ∈ mTB ∧ Cond.codeWith ν.1 ν.2.1 ν.2.2.1 ν.2.2.2.1 hh ∈ mTB ∧ (ν.1.cls ≠ "java/lang/invoke/MethodHandle" ∧ ν.1.cls ≠ "java/lang/invoke/VarHandle" ∧ (parseMethodDescriptor ν.1.desc).map (fun d => d.parameters.length) = some n) ∧ Cond.static ν.1 ∈ mTB
theorem mNo.next {D : va_G} {aC : Nat → ClassId} {s U : State} (h : mNo D aC s) (hW : s.WarmedH U.vm) : mNo D aC U := h.alike hW.alike
/-- a call of a method with handlers -/
theorem mJ_callH {hh : mHh} {Q' : Option Value → mH → Prop} (hNo : mNo (kD K) (kC K) (ks K)) (hK : mCx K μ) (hd : decode μ.2.1 pc = .ok (.invokestatic idx, 3)) (hl : mLH μ.1.cls idx ν hh n) (hR : mFit μ ν) (hf : cells + (mRm ν).cells ≤ (mRm μ).cells ∧ slots + (mRm ν).slots ≤ (mRm μ).slots) (hn : As.length = n) (hst : st = As.reverse ++ S) (h8 : (S.map fun v => v.category).sum ≤ 8)
    (hM : mHon (kl K) (kD K) (kC K) ν hh As h Q') (kk : ∀ (r : Option Value) (h' : mH), Q' r h' → mJ K (cells + (mRm ν).cells) (slots + (mRm ν).slots) (pc + 3) L (r.toList ++ S) h') : mJ K cells slots pc L st h := by
  intro H locs ls hH hS hL
  obtain ⟨ws, hP, hD, hs⟩ := id hH
  have hE := hK.2.2.2.2.2.2.2.2.1
  have hw := hK.2.2.2.2.2.1
  have hfree := mFree hD hS hK.2.2.2.2.2.2.2.2.2
  obtain ⟨l1, l2, l3, l4, l5⟩ := hl
  subst hst
  refine mJ_run (ν := ν) (h := h) hS hL hfree (vx_runSW (cc := μ.2.1) (nL := μ.2.2.1) (Ts := mTB) (As := As) (rest := S) (hh := hh) (bytes := ν.2.1) (maxL := ν.2.2.1) (ret := ν.2.2.2.1) ⟨hK.1, hK.2.1, hK.2.2.1, hK.2.2.2.2.1, hw⟩ (hM ws H.size hs) (vx_cwSW n hw (mGI ?_) rfl rfl rfl l4 (by rw [hK.2.2.2.2.2.2.2.1]; exact hR))
    ⟨mPreH.blind, fun U hU hW => ⟨rfl, ⟨by rw [hU], by rw [hU]; exact hP, hD.weaken (fun _ _ _ _ => trivial), hE.next hS hU hW hfree⟩, hNo.next hW⟩⟩ rfl hn (hL.1.trans hK.2.2.1) rfl (lv_room h8) hd (by rw [hK.2.2.2.2.2.2.2.1]; exact hf)) kk
  intro w hw9
  unfold va_wsS at hw9
  simp only [List.mem_append, List.mem_cons, List.not_mem_nil, or_false, mWsH] at hw9
  rcases hw9 with (rfl | rfl | rfl) | rfl | hw9
  · exact l1
  · exact l5
  · exact l2
  · exact l3
  · exact hw9
end MH
abbrev mL_append : mM := (yL_append, cL_append, 4, (some .int), { frames := 7, cells := 1, slots := 6, locals := 103 })
abbrev hhL_append : mHh := [(0, 9, 12, 13), (0, 9, 15, 15)]
abbrev mL_addRule : mM := (yL_addRule, cL_addRule, 3, (some .int), { frames := 7, cells := 1, slots := 6, locals := 128 })
abbrev hhL_addRule : mHh := [(0, 8, 11, 13), (0, 8, 14, 15)]
abbrev mL_removeRule : mM := (yL_removeRule, cL_removeRule, 4, (some .int), { frames := 8, cells := 1, slots := 6, locals := 126 })
abbrev hhL_removeRule : mHh := [(0, 9, 12, 24)]
abbrev mL_patternOf : mM := (yL_patternOf, cL_patternOf, 4, (some .int), { frames := 8, cells := 1, slots := 6, locals := 124 })
abbrev hhL_patternOf : mHh := [(0, 9, 12, 24)]
abbrev mL_setPolicy : mM := (yL_setPolicy, cL_setPolicy, 4, (some .int), { frames := 7, cells := 1, slots := 6, locals := 104 })
abbrev hhL_setPolicy : mHh := [(0, 9, 12, 13)]
abbrev mL_send : mM := (yL_send, cL_send, 5, (some .int), { frames := 8, cells := 2, slots := 12, locals := 126 })
abbrev hhL_send : mHh := [(0, 10, 13, 24), (0, 10, 17, 13), (0, 10, 21, 15)]
abbrev mL_queueLength : mM := (yL_queueLength, cL_queueLength, 4, (some .int), { frames := 8, cells := 1, slots := 6, locals := 123 })
abbrev hhL_queueLength : mHh := [(0, 9, 12, 24)]
abbrev mL_messageAt : mM := (yL_messageAt, cL_messageAt, 5, (some .int), { frames := 8, cells := 2, slots := 12, locals := 124 })
abbrev hhL_messageAt : mHh := [(0, 10, 13, 24)]
abbrev mL_matchOf : mM := (yL_matchOf, cL_matchOf, 5, (some .int), { frames := 8, cells := 2, slots := 12, locals := 125 })
abbrev hhL_matchOf : mHh := [(0, 10, 13, 24), (0, 10, 17, 13)]
abbrev mL_fireRule : mM := (yL_fireRule, cL_fireRule, 4, (some .int), { frames := 8, cells := 2, slots := 12, locals := 133 })
abbrev hhL_fireRule : mHh := [(0, 9, 12, 24), (0, 9, 15, 15)]
abbrev mL_run : mM := (yL_run, cL_run, 4, (some .int), { frames := 7, cells := 1, slots := 6, locals := 159 })
abbrev hhL_run : mHh := [(0, 9, 12, 13)]
abbrev mL_ticketState : mM := (yL_ticketState, cL_ticketState, 4, (some .int), { frames := 8, cells := 1, slots := 6, locals := 124 })
abbrev hhL_ticketState : mHh := [(0, 9, 12, 24)]
abbrev mL_replyOf : mM := (yL_replyOf, cL_replyOf, 4, (some .int), { frames := 8, cells := 2, slots := 12, locals := 124 })
abbrev hhL_replyOf : mHh := [(0, 9, 12, 24), (0, 9, 15, 15)]
abbrev mL_firings : mM := (yL_firings, cL_firings, 4, (some .int), { frames := 8, cells := 1, slots := 6, locals := 124 })
abbrev hhL_firings : mHh := [(0, 9, 12, 24)]
abbrev mL_consumed : mM := (yL_consumed, cL_consumed, 4, (some .int), { frames := 8, cells := 1, slots := 6, locals := 123 })
abbrev hhL_consumed : mHh := [(0, 9, 12, 24)]
abbrev mL_meanWait : mM := (yL_meanWait, cL_meanWait, 4, (some .int), { frames := 8, cells := 1, slots := 6, locals := 124 })
abbrev hhL_meanWait : mHh := [(0, 8, 11, 24)]
abbrev mL_shareOf : mM := (yL_shareOf, cL_shareOf, 4, (some .int), { frames := 8, cells := 1, slots := 6, locals := 126 })
abbrev hhL_shareOf : mHh := [(0, 9, 12, 24)]
abbrev mL_restore : mM := (yL_restore, cL_restore, 3, (some .int), { frames := 7, cells := 1, slots := 6, locals := 102 })
abbrev hhL_restore : mHh := [(0, 8, 11, 15)]
abbrev mL_law : mM := (yL_law, cL_law, 9, (some .boolean), { frames := 11, cells := 607087, slots := 7274842, locals := 386 })
theorem lL_7 : mLV RL 7 mX5_append 1 := ⟨⟨mTB_t 523 (by decide +kernel) (by decide +kernel), mTB_t 1 (by decide +kernel) (by decide +kernel), mTB_t 526 (by decide +kernel) (by decide +kernel), ⟨by decide +kernel, by decide +kernel, by decide +kernel⟩⟩, mTB_t 524 (by decide +kernel) (by decide +kernel), mTB_t 525 (by decide +kernel) (by decide +kernel)⟩
theorem lL_17 : mLV RL 17 mX5_addRule 0 := ⟨⟨mTB_t 614 (by decide +kernel) (by decide +kernel), mTB_t 1 (by decide +kernel) (by decide +kernel), mTB_t 617 (by decide +kernel) (by decide +kernel), ⟨by decide +kernel, by decide +kernel, by decide +kernel⟩⟩, mTB_t 615 (by decide +kernel) (by decide +kernel), mTB_t 616 (by decide +kernel) (by decide +kernel)⟩
theorem lL_21 : mLV RL 21 mX5_removeRule 1 := ⟨⟨mTB_t 632 (by decide +kernel) (by decide +kernel), mTB_t 1 (by decide +kernel) (by decide +kernel), mTB_t 635 (by decide +kernel) (by decide +kernel), ⟨by decide +kernel, by decide +kernel, by decide +kernel⟩⟩, mTB_t 633 (by decide +kernel) (by decide +kernel), mTB_t 634 (by decide +kernel) (by decide +kernel)⟩
theorem lL_26 : mLV RL 26 mX5_patternOf 1 := ⟨⟨mTB_t 659 (by decide +kernel) (by decide +kernel), mTB_t 1 (by decide +kernel) (by decide +kernel), mTB_t 662 (by decide +kernel) (by decide +kernel), ⟨by decide +kernel, by decide +kernel, by decide +kernel⟩⟩, mTB_t 660 (by decide +kernel) (by decide +kernel), mTB_t 661 (by decide +kernel) (by decide +kernel)⟩
theorem lL_29 : mLV RL 29 mX5_setPolicy 1 := ⟨⟨mTB_t 666 (by decide +kernel) (by decide +kernel), mTB_t 1 (by decide +kernel) (by decide +kernel), mTB_t 669 (by decide +kernel) (by decide +kernel), ⟨by decide +kernel, by decide +kernel, by decide +kernel⟩⟩, mTB_t 667 (by decide +kernel) (by decide +kernel), mTB_t 668 (by decide +kernel) (by decide +kernel)⟩
theorem lL_32 : mLV RL 32 mX5_send 2 := ⟨⟨mTB_t 674 (by decide +kernel) (by decide +kernel), mTB_t 1 (by decide +kernel) (by decide +kernel), mTB_t 677 (by decide +kernel) (by decide +kernel), ⟨by decide +kernel, by decide +kernel, by decide +kernel⟩⟩, mTB_t 675 (by decide +kernel) (by decide +kernel), mTB_t 676 (by decide +kernel) (by decide +kernel)⟩
theorem lL_36 : mLV RL 36 mX5_queueLength 1 := ⟨⟨mTB_t 692 (by decide +kernel) (by decide +kernel), mTB_t 1 (by decide +kernel) (by decide +kernel), mTB_t 695 (by decide +kernel) (by decide +kernel), ⟨by decide +kernel, by decide +kernel, by decide +kernel⟩⟩, mTB_t 693 (by decide +kernel) (by decide +kernel), mTB_t 694 (by decide +kernel) (by decide +kernel)⟩
theorem lL_39 : mLV RL 39 mX5_messageAt 2 := ⟨⟨mTB_t 699 (by decide +kernel) (by decide +kernel), mTB_t 1 (by decide +kernel) (by decide +kernel), mTB_t 702 (by decide +kernel) (by decide +kernel), ⟨by decide +kernel, by decide +kernel, by decide +kernel⟩⟩, mTB_t 700 (by decide +kernel) (by decide +kernel), mTB_t 701 (by decide +kernel) (by decide +kernel)⟩
theorem lL_42 : mLV RL 42 mX5_matchOf 2 := ⟨⟨mTB_t 708 (by decide +kernel) (by decide +kernel), mTB_t 1 (by decide +kernel) (by decide +kernel), mTB_t 711 (by decide +kernel) (by decide +kernel), ⟨by decide +kernel, by decide +kernel, by decide +kernel⟩⟩, mTB_t 709 (by decide +kernel) (by decide +kernel), mTB_t 710 (by decide +kernel) (by decide +kernel)⟩
theorem lL_45 : mLV RL 45 mX5_fireRule 1 := ⟨⟨mTB_t 716 (by decide +kernel) (by decide +kernel), mTB_t 1 (by decide +kernel) (by decide +kernel), mTB_t 719 (by decide +kernel) (by decide +kernel), ⟨by decide +kernel, by decide +kernel, by decide +kernel⟩⟩, mTB_t 717 (by decide +kernel) (by decide +kernel), mTB_t 718 (by decide +kernel) (by decide +kernel)⟩
theorem lL_48 : mLV RL 48 mX5_run 1 := ⟨⟨mTB_t 724 (by decide +kernel) (by decide +kernel), mTB_t 1 (by decide +kernel) (by decide +kernel), mTB_t 727 (by decide +kernel) (by decide +kernel), ⟨by decide +kernel, by decide +kernel, by decide +kernel⟩⟩, mTB_t 725 (by decide +kernel) (by decide +kernel), mTB_t 726 (by decide +kernel) (by decide +kernel)⟩
theorem lL_51 : mLV RL 51 mX5_ticketState 1 := ⟨⟨mTB_t 733 (by decide +kernel) (by decide +kernel), mTB_t 1 (by decide +kernel) (by decide +kernel), mTB_t 736 (by decide +kernel) (by decide +kernel), ⟨by decide +kernel, by decide +kernel, by decide +kernel⟩⟩, mTB_t 734 (by decide +kernel) (by decide +kernel), mTB_t 735 (by decide +kernel) (by decide +kernel)⟩
theorem lL_54 : mLV RL 54 mX5_replyOf 1 := ⟨⟨mTB_t 747 (by decide +kernel) (by decide +kernel), mTB_t 1 (by decide +kernel) (by decide +kernel), mTB_t 750 (by decide +kernel) (by decide +kernel), ⟨by decide +kernel, by decide +kernel, by decide +kernel⟩⟩, mTB_t 748 (by decide +kernel) (by decide +kernel), mTB_t 749 (by decide +kernel) (by decide +kernel)⟩
theorem lL_57 : mLV RL 57 mX5_firings 1 := ⟨⟨mTB_t 756 (by decide +kernel) (by decide +kernel), mTB_t 1 (by decide +kernel) (by decide +kernel), mTB_t 759 (by decide +kernel) (by decide +kernel), ⟨by decide +kernel, by decide +kernel, by decide +kernel⟩⟩, mTB_t 757 (by decide +kernel) (by decide +kernel), mTB_t 758 (by decide +kernel) (by decide +kernel)⟩
theorem lL_60 : mLV RL 60 mX5_consumed 1 := ⟨⟨mTB_t 763 (by decide +kernel) (by decide +kernel), mTB_t 1 (by decide +kernel) (by decide +kernel), mTB_t 766 (by decide +kernel) (by decide +kernel), ⟨by decide +kernel, by decide +kernel, by decide +kernel⟩⟩, mTB_t 764 (by decide +kernel) (by decide +kernel), mTB_t 765 (by decide +kernel) (by decide +kernel)⟩
theorem lL_63 : mLV RL 63 mX5_meanWait 1 := ⟨⟨mTB_t 770 (by decide +kernel) (by decide +kernel), mTB_t 1 (by decide +kernel) (by decide +kernel), mTB_t 773 (by decide +kernel) (by decide +kernel), ⟨by decide +kernel, by decide +kernel, by decide +kernel⟩⟩, mTB_t 771 (by decide +kernel) (by decide +kernel), mTB_t 772 (by decide +kernel) (by decide +kernel)⟩
theorem lL_67 : mLV RL 67 mX5_shareOf 1 := ⟨⟨mTB_t 777 (by decide +kernel) (by decide +kernel), mTB_t 1 (by decide +kernel) (by decide +kernel), mTB_t 780 (by decide +kernel) (by decide +kernel), ⟨by decide +kernel, by decide +kernel, by decide +kernel⟩⟩, mTB_t 778 (by decide +kernel) (by decide +kernel), mTB_t 779 (by decide +kernel) (by decide +kernel)⟩
theorem lL_71 : mLV RL 71 mX5_restore 0 := ⟨⟨mTB_t 784 (by decide +kernel) (by decide +kernel), mTB_t 1 (by decide +kernel) (by decide +kernel), mTB_t 787 (by decide +kernel) (by decide +kernel), ⟨by decide +kernel, by decide +kernel, by decide +kernel⟩⟩, mTB_t 785 (by decide +kernel) (by decide +kernel), mTB_t 786 (by decide +kernel) (by decide +kernel)⟩
theorem lL_78 : mLH RL 78 mL_append hhL_append 3 := ⟨mTB_t 518 (by decide +kernel) (by decide +kernel), mTB_t 0 (by decide +kernel) (by decide +kernel), mTB_t 520 (by decide +kernel) (by decide +kernel), ⟨by decide +kernel, by decide +kernel, by decide +kernel⟩, mTB_t 519 (by decide +kernel) (by decide +kernel)⟩
theorem lL_83 : mLV RL 83 mX6_append 1 := ⟨⟨mTB_t 960 (by decide +kernel) (by decide +kernel), mTB_t 7 (by decide +kernel) (by decide +kernel), mTB_t 963 (by decide +kernel) (by decide +kernel), ⟨by decide +kernel, by decide +kernel, by decide +kernel⟩⟩, mTB_t 961 (by decide +kernel) (by decide +kernel), mTB_t 962 (by decide +kernel) (by decide +kernel)⟩
theorem lL_84 : mLV RL 84 mX6_thrown 0 := ⟨⟨mTB_t 956 (by decide +kernel) (by decide +kernel), mTB_t 7 (by decide +kernel) (by decide +kernel), mTB_t 959 (by decide +kernel) (by decide +kernel), ⟨by decide +kernel, by decide +kernel, by decide +kernel⟩⟩, mTB_t 957 (by decide +kernel) (by decide +kernel), mTB_t 958 (by decide +kernel) (by decide +kernel)⟩
theorem lL_87 : mLV RL 87 mX5_clearBuffer 0 := ⟨⟨mTB_t 208 (by decide +kernel) (by decide +kernel), mTB_t 1 (by decide +kernel) (by decide +kernel), mTB_t 211 (by decide +kernel) (by decide +kernel), ⟨by decide +kernel, by decide +kernel, by decide +kernel⟩⟩, mTB_t 209 (by decide +kernel) (by decide +kernel), mTB_t 210 (by decide +kernel) (by decide +kernel)⟩
theorem lL_90 : mLV RL 90 mX6_clearBuffer 0 := ⟨⟨mTB_t 967 (by decide +kernel) (by decide +kernel), mTB_t 7 (by decide +kernel) (by decide +kernel), mTB_t 970 (by decide +kernel) (by decide +kernel), ⟨by decide +kernel, by decide +kernel, by decide +kernel⟩⟩, mTB_t 968 (by decide +kernel) (by decide +kernel), mTB_t 969 (by decide +kernel) (by decide +kernel)⟩
theorem lL_91 : mLV RL 91 mX5_firstError 0 := ⟨⟨mTB_t 212 (by decide +kernel) (by decide +kernel), mTB_t 1 (by decide +kernel) (by decide +kernel), mTB_t 215 (by decide +kernel) (by decide +kernel), ⟨by decide +kernel, by decide +kernel, by decide +kernel⟩⟩, mTB_t 213 (by decide +kernel) (by decide +kernel), mTB_t 214 (by decide +kernel) (by decide +kernel)⟩
theorem lL_94 : mLV RL 94 mX6_firstError 0 := ⟨⟨mTB_t 971 (by decide +kernel) (by decide +kernel), mTB_t 7 (by decide +kernel) (by decide +kernel), mTB_t 974 (by decide +kernel) (by decide +kernel), ⟨by decide +kernel, by decide +kernel, by decide +kernel⟩⟩, mTB_t 972 (by decide +kernel) (by decide +kernel), mTB_t 973 (by decide +kernel) (by decide +kernel)⟩
theorem lL_95 : mLH RL 95 mL_addRule hhL_addRule 2 := ⟨mTB_t 611 (by decide +kernel) (by decide +kernel), mTB_t 0 (by decide +kernel) (by decide +kernel), mTB_t 613 (by decide +kernel) (by decide +kernel), ⟨by decide +kernel, by decide +kernel, by decide +kernel⟩, mTB_t 612 (by decide +kernel) (by decide +kernel)⟩
theorem lL_98 : mLV RL 98 mX6_addRule 0 := ⟨⟨mTB_t 1018 (by decide +kernel) (by decide +kernel), mTB_t 7 (by decide +kernel) (by decide +kernel), mTB_t 1021 (by decide +kernel) (by decide +kernel), ⟨by decide +kernel, by decide +kernel, by decide +kernel⟩⟩, mTB_t 1019 (by decide +kernel) (by decide +kernel), mTB_t 1020 (by decide +kernel) (by decide +kernel)⟩
theorem lL_99 : mLH RL 99 mL_removeRule hhL_removeRule 3 := ⟨mTB_t 628 (by decide +kernel) (by decide +kernel), mTB_t 0 (by decide +kernel) (by decide +kernel), mTB_t 630 (by decide +kernel) (by decide +kernel), ⟨by decide +kernel, by decide +kernel, by decide +kernel⟩, mTB_t 629 (by decide +kernel) (by decide +kernel)⟩
theorem lL_101 : mLV RL 101 mX6_removeRule 1 := ⟨⟨mTB_t 1026 (by decide +kernel) (by decide +kernel), mTB_t 7 (by decide +kernel) (by decide +kernel), mTB_t 1029 (by decide +kernel) (by decide +kernel), ⟨by decide +kernel, by decide +kernel, by decide +kernel⟩⟩, mTB_t 1027 (by decide +kernel) (by decide +kernel), mTB_t 1028 (by decide +kernel) (by decide +kernel)⟩
theorem lL_102 : mLV RL 102 mX5_ruleCount 0 := ⟨⟨mTB_t 313 (by decide +kernel) (by decide +kernel), mTB_t 1 (by decide +kernel) (by decide +kernel), mTB_t 316 (by decide +kernel) (by decide +kernel), ⟨by decide +kernel, by decide +kernel, by decide +kernel⟩⟩, mTB_t 314 (by decide +kernel) (by decide +kernel), mTB_t 315 (by decide +kernel) (by decide +kernel)⟩
theorem lL_105 : mLV RL 105 mX6_ruleCount 0 := ⟨⟨mTB_t 1038 (by decide +kernel) (by decide +kernel), mTB_t 7 (by decide +kernel) (by decide +kernel), mTB_t 1041 (by decide +kernel) (by decide +kernel), ⟨by decide +kernel, by decide +kernel, by decide +kernel⟩⟩, mTB_t 1039 (by decide +kernel) (by decide +kernel), mTB_t 1040 (by decide +kernel) (by decide +kernel)⟩
theorem lL_106 : mLH RL 106 mL_patternOf hhL_patternOf 3 := ⟨mTB_t 656 (by decide +kernel) (by decide +kernel), mTB_t 0 (by decide +kernel) (by decide +kernel), mTB_t 658 (by decide +kernel) (by decide +kernel), ⟨by decide +kernel, by decide +kernel, by decide +kernel⟩, mTB_t 657 (by decide +kernel) (by decide +kernel)⟩
theorem lL_108 : mLV RL 108 mX6_patternOf 1 := ⟨⟨mTB_t 1042 (by decide +kernel) (by decide +kernel), mTB_t 7 (by decide +kernel) (by decide +kernel), mTB_t 1045 (by decide +kernel) (by decide +kernel), ⟨by decide +kernel, by decide +kernel, by decide +kernel⟩⟩, mTB_t 1043 (by decide +kernel) (by decide +kernel), mTB_t 1044 (by decide +kernel) (by decide +kernel)⟩
theorem lL_109 : mLH RL 109 mL_setPolicy hhL_setPolicy 3 := ⟨mTB_t 663 (by decide +kernel) (by decide +kernel), mTB_t 0 (by decide +kernel) (by decide +kernel), mTB_t 665 (by decide +kernel) (by decide +kernel), ⟨by decide +kernel, by decide +kernel, by decide +kernel⟩, mTB_t 664 (by decide +kernel) (by decide +kernel)⟩
theorem lL_111 : mLV RL 111 mX6_setPolicy 1 := ⟨⟨mTB_t 1046 (by decide +kernel) (by decide +kernel), mTB_t 7 (by decide +kernel) (by decide +kernel), mTB_t 1049 (by decide +kernel) (by decide +kernel), ⟨by decide +kernel, by decide +kernel, by decide +kernel⟩⟩, mTB_t 1047 (by decide +kernel) (by decide +kernel), mTB_t 1048 (by decide +kernel) (by decide +kernel)⟩
theorem lL_112 : mLH RL 112 mL_send hhL_send 4 := ⟨mTB_t 671 (by decide +kernel) (by decide +kernel), mTB_t 0 (by decide +kernel) (by decide +kernel), mTB_t 673 (by decide +kernel) (by decide +kernel), ⟨by decide +kernel, by decide +kernel, by decide +kernel⟩, mTB_t 672 (by decide +kernel) (by decide +kernel)⟩
theorem lL_115 : mLV RL 115 mX6_send 2 := ⟨⟨mTB_t 1050 (by decide +kernel) (by decide +kernel), mTB_t 7 (by decide +kernel) (by decide +kernel), mTB_t 1053 (by decide +kernel) (by decide +kernel), ⟨by decide +kernel, by decide +kernel, by decide +kernel⟩⟩, mTB_t 1051 (by decide +kernel) (by decide +kernel), mTB_t 1052 (by decide +kernel) (by decide +kernel)⟩
theorem lL_116 : mLH RL 116 mL_queueLength hhL_queueLength 3 := ⟨mTB_t 689 (by decide +kernel) (by decide +kernel), mTB_t 0 (by decide +kernel) (by decide +kernel), mTB_t 691 (by decide +kernel) (by decide +kernel), ⟨by decide +kernel, by decide +kernel, by decide +kernel⟩, mTB_t 690 (by decide +kernel) (by decide +kernel)⟩
theorem lL_118 : mLV RL 118 mX6_queueLength 1 := ⟨⟨mTB_t 1061 (by decide +kernel) (by decide +kernel), mTB_t 7 (by decide +kernel) (by decide +kernel), mTB_t 1064 (by decide +kernel) (by decide +kernel), ⟨by decide +kernel, by decide +kernel, by decide +kernel⟩⟩, mTB_t 1062 (by decide +kernel) (by decide +kernel), mTB_t 1063 (by decide +kernel) (by decide +kernel)⟩
theorem lL_119 : mLH RL 119 mL_messageAt hhL_messageAt 4 := ⟨mTB_t 696 (by decide +kernel) (by decide +kernel), mTB_t 0 (by decide +kernel) (by decide +kernel), mTB_t 698 (by decide +kernel) (by decide +kernel), ⟨by decide +kernel, by decide +kernel, by decide +kernel⟩, mTB_t 697 (by decide +kernel) (by decide +kernel)⟩
theorem lL_121 : mLV RL 121 mX6_messageAt 2 := ⟨⟨mTB_t 1065 (by decide +kernel) (by decide +kernel), mTB_t 7 (by decide +kernel) (by decide +kernel), mTB_t 1068 (by decide +kernel) (by decide +kernel), ⟨by decide +kernel, by decide +kernel, by decide +kernel⟩⟩, mTB_t 1066 (by decide +kernel) (by decide +kernel), mTB_t 1067 (by decide +kernel) (by decide +kernel)⟩
theorem lL_122 : mLV RL 122 mX5_waitingChannels 0 := ⟨⟨mTB_t 317 (by decide +kernel) (by decide +kernel), mTB_t 1 (by decide +kernel) (by decide +kernel), mTB_t 320 (by decide +kernel) (by decide +kernel), ⟨by decide +kernel, by decide +kernel, by decide +kernel⟩⟩, mTB_t 318 (by decide +kernel) (by decide +kernel), mTB_t 319 (by decide +kernel) (by decide +kernel)⟩
theorem lL_125 : mLV RL 125 mX6_waitingChannels 0 := ⟨⟨mTB_t 1069 (by decide +kernel) (by decide +kernel), mTB_t 7 (by decide +kernel) (by decide +kernel), mTB_t 1072 (by decide +kernel) (by decide +kernel), ⟨by decide +kernel, by decide +kernel, by decide +kernel⟩⟩, mTB_t 1070 (by decide +kernel) (by decide +kernel), mTB_t 1071 (by decide +kernel) (by decide +kernel)⟩
theorem lL_126 : mLV RL 126 mX5_readyRules 0 := ⟨⟨mTB_t 321 (by decide +kernel) (by decide +kernel), mTB_t 1 (by decide +kernel) (by decide +kernel), mTB_t 324 (by decide +kernel) (by decide +kernel), ⟨by decide +kernel, by decide +kernel, by decide +kernel⟩⟩, mTB_t 322 (by decide +kernel) (by decide +kernel), mTB_t 323 (by decide +kernel) (by decide +kernel)⟩
theorem lL_129 : mLV RL 129 mX6_readyRules 0 := ⟨⟨mTB_t 1077 (by decide +kernel) (by decide +kernel), mTB_t 7 (by decide +kernel) (by decide +kernel), mTB_t 1080 (by decide +kernel) (by decide +kernel), ⟨by decide +kernel, by decide +kernel, by decide +kernel⟩⟩, mTB_t 1078 (by decide +kernel) (by decide +kernel), mTB_t 1079 (by decide +kernel) (by decide +kernel)⟩
theorem lL_130 : mLV RL 130 mX5_enabledRules 0 := ⟨⟨mTB_t 330 (by decide +kernel) (by decide +kernel), mTB_t 1 (by decide +kernel) (by decide +kernel), mTB_t 333 (by decide +kernel) (by decide +kernel), ⟨by decide +kernel, by decide +kernel, by decide +kernel⟩⟩, mTB_t 331 (by decide +kernel) (by decide +kernel), mTB_t 332 (by decide +kernel) (by decide +kernel)⟩
theorem lL_133 : mLV RL 133 mX6_enabledRules 0 := ⟨⟨mTB_t 1085 (by decide +kernel) (by decide +kernel), mTB_t 7 (by decide +kernel) (by decide +kernel), mTB_t 1088 (by decide +kernel) (by decide +kernel), ⟨by decide +kernel, by decide +kernel, by decide +kernel⟩⟩, mTB_t 1086 (by decide +kernel) (by decide +kernel), mTB_t 1087 (by decide +kernel) (by decide +kernel)⟩
theorem lL_134 : mLH RL 134 mL_matchOf hhL_matchOf 4 := ⟨mTB_t 705 (by decide +kernel) (by decide +kernel), mTB_t 0 (by decide +kernel) (by decide +kernel), mTB_t 707 (by decide +kernel) (by decide +kernel), ⟨by decide +kernel, by decide +kernel, by decide +kernel⟩, mTB_t 706 (by decide +kernel) (by decide +kernel)⟩
theorem lL_136 : mLV RL 136 mX6_matchOf 2 := ⟨⟨mTB_t 1117 (by decide +kernel) (by decide +kernel), mTB_t 7 (by decide +kernel) (by decide +kernel), mTB_t 1120 (by decide +kernel) (by decide +kernel), ⟨by decide +kernel, by decide +kernel, by decide +kernel⟩⟩, mTB_t 1118 (by decide +kernel) (by decide +kernel), mTB_t 1119 (by decide +kernel) (by decide +kernel)⟩
theorem lL_137 : mLV RL 137 mX5_nextRule 0 := ⟨⟨mTB_t 375 (by decide +kernel) (by decide +kernel), mTB_t 1 (by decide +kernel) (by decide +kernel), mTB_t 378 (by decide +kernel) (by decide +kernel), ⟨by decide +kernel, by decide +kernel, by decide +kernel⟩⟩, mTB_t 376 (by decide +kernel) (by decide +kernel), mTB_t 377 (by decide +kernel) (by decide +kernel)⟩
theorem lL_140 : mLV RL 140 mX6_nextRule 0 := ⟨⟨mTB_t 1121 (by decide +kernel) (by decide +kernel), mTB_t 7 (by decide +kernel) (by decide +kernel), mTB_t 1124 (by decide +kernel) (by decide +kernel), ⟨by decide +kernel, by decide +kernel, by decide +kernel⟩⟩, mTB_t 1122 (by decide +kernel) (by decide +kernel), mTB_t 1123 (by decide +kernel) (by decide +kernel)⟩
theorem lL_141 : mLV RL 141 mX5_fire 0 := ⟨⟨mTB_t 379 (by decide +kernel) (by decide +kernel), mTB_t 1 (by decide +kernel) (by decide +kernel), mTB_t 382 (by decide +kernel) (by decide +kernel), ⟨by decide +kernel, by decide +kernel, by decide +kernel⟩⟩, mTB_t 380 (by decide +kernel) (by decide +kernel), mTB_t 381 (by decide +kernel) (by decide +kernel)⟩
theorem lL_144 : mLV RL 144 mX6_fire 0 := ⟨⟨mTB_t 1129 (by decide +kernel) (by decide +kernel), mTB_t 7 (by decide +kernel) (by decide +kernel), mTB_t 1132 (by decide +kernel) (by decide +kernel), ⟨by decide +kernel, by decide +kernel, by decide +kernel⟩⟩, mTB_t 1130 (by decide +kernel) (by decide +kernel), mTB_t 1131 (by decide +kernel) (by decide +kernel)⟩
theorem lL_145 : mLH RL 145 mL_fireRule hhL_fireRule 3 := ⟨mTB_t 713 (by decide +kernel) (by decide +kernel), mTB_t 0 (by decide +kernel) (by decide +kernel), mTB_t 715 (by decide +kernel) (by decide +kernel), ⟨by decide +kernel, by decide +kernel, by decide +kernel⟩, mTB_t 714 (by decide +kernel) (by decide +kernel)⟩
theorem lL_147 : mLV RL 147 mX6_fireRule 1 := ⟨⟨mTB_t 1155 (by decide +kernel) (by decide +kernel), mTB_t 7 (by decide +kernel) (by decide +kernel), mTB_t 1158 (by decide +kernel) (by decide +kernel), ⟨by decide +kernel, by decide +kernel, by decide +kernel⟩⟩, mTB_t 1156 (by decide +kernel) (by decide +kernel), mTB_t 1157 (by decide +kernel) (by decide +kernel)⟩
theorem lL_148 : mLH RL 148 mL_run hhL_run 3 := ⟨mTB_t 721 (by decide +kernel) (by decide +kernel), mTB_t 0 (by decide +kernel) (by decide +kernel), mTB_t 723 (by decide +kernel) (by decide +kernel), ⟨by decide +kernel, by decide +kernel, by decide +kernel⟩, mTB_t 722 (by decide +kernel) (by decide +kernel)⟩
theorem lL_150 : mLV RL 150 mX6_run 1 := ⟨⟨mTB_t 1159 (by decide +kernel) (by decide +kernel), mTB_t 7 (by decide +kernel) (by decide +kernel), mTB_t 1162 (by decide +kernel) (by decide +kernel), ⟨by decide +kernel, by decide +kernel, by decide +kernel⟩⟩, mTB_t 1160 (by decide +kernel) (by decide +kernel), mTB_t 1161 (by decide +kernel) (by decide +kernel)⟩
theorem lL_151 : mLV RL 151 mX5_isStuck 0 := ⟨⟨mTB_t 448 (by decide +kernel) (by decide +kernel), mTB_t 1 (by decide +kernel) (by decide +kernel), mTB_t 451 (by decide +kernel) (by decide +kernel), ⟨by decide +kernel, by decide +kernel, by decide +kernel⟩⟩, mTB_t 449 (by decide +kernel) (by decide +kernel), mTB_t 450 (by decide +kernel) (by decide +kernel)⟩
theorem lL_155 : mLV RL 155 mX6_isStuck 0 := ⟨⟨mTB_t 1163 (by decide +kernel) (by decide +kernel), mTB_t 7 (by decide +kernel) (by decide +kernel), mTB_t 1166 (by decide +kernel) (by decide +kernel), ⟨by decide +kernel, by decide +kernel, by decide +kernel⟩⟩, mTB_t 1164 (by decide +kernel) (by decide +kernel), mTB_t 1165 (by decide +kernel) (by decide +kernel)⟩
theorem lL_156 : mLH RL 156 mL_ticketState hhL_ticketState 3 := ⟨mTB_t 730 (by decide +kernel) (by decide +kernel), mTB_t 0 (by decide +kernel) (by decide +kernel), mTB_t 732 (by decide +kernel) (by decide +kernel), ⟨by decide +kernel, by decide +kernel, by decide +kernel⟩, mTB_t 731 (by decide +kernel) (by decide +kernel)⟩
theorem lL_158 : mLV RL 158 mX6_ticketState 1 := ⟨⟨mTB_t 1167 (by decide +kernel) (by decide +kernel), mTB_t 7 (by decide +kernel) (by decide +kernel), mTB_t 1170 (by decide +kernel) (by decide +kernel), ⟨by decide +kernel, by decide +kernel, by decide +kernel⟩⟩, mTB_t 1168 (by decide +kernel) (by decide +kernel), mTB_t 1169 (by decide +kernel) (by decide +kernel)⟩
theorem lL_159 : mLH RL 159 mL_replyOf hhL_replyOf 3 := ⟨mTB_t 744 (by decide +kernel) (by decide +kernel), mTB_t 0 (by decide +kernel) (by decide +kernel), mTB_t 746 (by decide +kernel) (by decide +kernel), ⟨by decide +kernel, by decide +kernel, by decide +kernel⟩, mTB_t 745 (by decide +kernel) (by decide +kernel)⟩
theorem lL_161 : mLV RL 161 mX6_replyOf 1 := ⟨⟨mTB_t 1171 (by decide +kernel) (by decide +kernel), mTB_t 7 (by decide +kernel) (by decide +kernel), mTB_t 1174 (by decide +kernel) (by decide +kernel), ⟨by decide +kernel, by decide +kernel, by decide +kernel⟩⟩, mTB_t 1172 (by decide +kernel) (by decide +kernel), mTB_t 1173 (by decide +kernel) (by decide +kernel)⟩
theorem lL_162 : mLH RL 162 mL_firings hhL_firings 3 := ⟨mTB_t 753 (by decide +kernel) (by decide +kernel), mTB_t 0 (by decide +kernel) (by decide +kernel), mTB_t 755 (by decide +kernel) (by decide +kernel), ⟨by decide +kernel, by decide +kernel, by decide +kernel⟩, mTB_t 754 (by decide +kernel) (by decide +kernel)⟩
theorem lL_164 : mLV RL 164 mX6_firings 1 := ⟨⟨mTB_t 1175 (by decide +kernel) (by decide +kernel), mTB_t 7 (by decide +kernel) (by decide +kernel), mTB_t 1178 (by decide +kernel) (by decide +kernel), ⟨by decide +kernel, by decide +kernel, by decide +kernel⟩⟩, mTB_t 1176 (by decide +kernel) (by decide +kernel), mTB_t 1177 (by decide +kernel) (by decide +kernel)⟩
theorem lL_165 : mLH RL 165 mL_consumed hhL_consumed 3 := ⟨mTB_t 760 (by decide +kernel) (by decide +kernel), mTB_t 0 (by decide +kernel) (by decide +kernel), mTB_t 762 (by decide +kernel) (by decide +kernel), ⟨by decide +kernel, by decide +kernel, by decide +kernel⟩, mTB_t 761 (by decide +kernel) (by decide +kernel)⟩
theorem lL_167 : mLV RL 167 mX6_consumed 1 := ⟨⟨mTB_t 1179 (by decide +kernel) (by decide +kernel), mTB_t 7 (by decide +kernel) (by decide +kernel), mTB_t 1182 (by decide +kernel) (by decide +kernel), ⟨by decide +kernel, by decide +kernel, by decide +kernel⟩⟩, mTB_t 1180 (by decide +kernel) (by decide +kernel), mTB_t 1181 (by decide +kernel) (by decide +kernel)⟩
theorem lL_168 : mLH RL 168 mL_meanWait hhL_meanWait 3 := ⟨mTB_t 767 (by decide +kernel) (by decide +kernel), mTB_t 0 (by decide +kernel) (by decide +kernel), mTB_t 769 (by decide +kernel) (by decide +kernel), ⟨by decide +kernel, by decide +kernel, by decide +kernel⟩, mTB_t 768 (by decide +kernel) (by decide +kernel)⟩
theorem lL_171 : mLV RL 171 mX6_meanWait 1 := ⟨⟨mTB_t 1183 (by decide +kernel) (by decide +kernel), mTB_t 7 (by decide +kernel) (by decide +kernel), mTB_t 1186 (by decide +kernel) (by decide +kernel), ⟨by decide +kernel, by decide +kernel, by decide +kernel⟩⟩, mTB_t 1184 (by decide +kernel) (by decide +kernel), mTB_t 1185 (by decide +kernel) (by decide +kernel)⟩
theorem lL_172 : mLH RL 172 mL_shareOf hhL_shareOf 3 := ⟨mTB_t 774 (by decide +kernel) (by decide +kernel), mTB_t 0 (by decide +kernel) (by decide +kernel), mTB_t 776 (by decide +kernel) (by decide +kernel), ⟨by decide +kernel, by decide +kernel, by decide +kernel⟩, mTB_t 775 (by decide +kernel) (by decide +kernel)⟩
theorem lL_174 : mLV RL 174 mX6_shareOf 1 := ⟨⟨mTB_t 1187 (by decide +kernel) (by decide +kernel), mTB_t 7 (by decide +kernel) (by decide +kernel), mTB_t 1190 (by decide +kernel) (by decide +kernel), ⟨by decide +kernel, by decide +kernel, by decide +kernel⟩⟩, mTB_t 1188 (by decide +kernel) (by decide +kernel), mTB_t 1189 (by decide +kernel) (by decide +kernel)⟩
theorem lL_175 : mLV RL 175 mX5_clock 0 := ⟨⟨mTB_t 453 (by decide +kernel) (by decide +kernel), mTB_t 1 (by decide +kernel) (by decide +kernel), mTB_t 456 (by decide +kernel) (by decide +kernel), ⟨by decide +kernel, by decide +kernel, by decide +kernel⟩⟩, mTB_t 454 (by decide +kernel) (by decide +kernel), mTB_t 455 (by decide +kernel) (by decide +kernel)⟩
theorem lL_178 : mLV RL 178 mX6_clock 0 := ⟨⟨mTB_t 1191 (by decide +kernel) (by decide +kernel), mTB_t 7 (by decide +kernel) (by decide +kernel), mTB_t 1194 (by decide +kernel) (by decide +kernel), ⟨by decide +kernel, by decide +kernel, by decide +kernel⟩⟩, mTB_t 1192 (by decide +kernel) (by decide +kernel), mTB_t 1193 (by decide +kernel) (by decide +kernel)⟩
theorem lL_179 : mLV RL 179 mX5_save 0 := ⟨⟨mTB_t 457 (by decide +kernel) (by decide +kernel), mTB_t 1 (by decide +kernel) (by decide +kernel), mTB_t 460 (by decide +kernel) (by decide +kernel), ⟨by decide +kernel, by decide +kernel, by decide +kernel⟩⟩, mTB_t 458 (by decide +kernel) (by decide +kernel), mTB_t 459 (by decide +kernel) (by decide +kernel)⟩
theorem lL_182 : mLV RL 182 mX6_save 0 := ⟨⟨mTB_t 1195 (by decide +kernel) (by decide +kernel), mTB_t 7 (by decide +kernel) (by decide +kernel), mTB_t 1198 (by decide +kernel) (by decide +kernel), ⟨by decide +kernel, by decide +kernel, by decide +kernel⟩⟩, mTB_t 1196 (by decide +kernel) (by decide +kernel), mTB_t 1197 (by decide +kernel) (by decide +kernel)⟩
theorem lL_183 : mLH RL 183 mL_restore hhL_restore 2 := ⟨mTB_t 781 (by decide +kernel) (by decide +kernel), mTB_t 0 (by decide +kernel) (by decide +kernel), mTB_t 783 (by decide +kernel) (by decide +kernel), ⟨by decide +kernel, by decide +kernel, by decide +kernel⟩, mTB_t 782 (by decide +kernel) (by decide +kernel)⟩
theorem lL_185 : mLV RL 185 mX6_restore 0 := ⟨⟨mTB_t 1209 (by decide +kernel) (by decide +kernel), mTB_t 7 (by decide +kernel) (by decide +kernel), mTB_t 1212 (by decide +kernel) (by decide +kernel), ⟨by decide +kernel, by decide +kernel, by decide +kernel⟩⟩, mTB_t 1210 (by decide +kernel) (by decide +kernel), mTB_t 1211 (by decide +kernel) (by decide +kernel)⟩
theorem lL_186 : mLV RL 186 mX5_digest 0 := ⟨⟨mTB_t 482 (by decide +kernel) (by decide +kernel), mTB_t 1 (by decide +kernel) (by decide +kernel), mTB_t 485 (by decide +kernel) (by decide +kernel), ⟨by decide +kernel, by decide +kernel, by decide +kernel⟩⟩, mTB_t 483 (by decide +kernel) (by decide +kernel), mTB_t 484 (by decide +kernel) (by decide +kernel)⟩
theorem lL_190 : mLV RL 190 mX6_digest 0 := ⟨⟨mTB_t 1213 (by decide +kernel) (by decide +kernel), mTB_t 7 (by decide +kernel) (by decide +kernel), mTB_t 1216 (by decide +kernel) (by decide +kernel), ⟨by decide +kernel, by decide +kernel, by decide +kernel⟩⟩, mTB_t 1214 (by decide +kernel) (by decide +kernel), mTB_t 1215 (by decide +kernel) (by decide +kernel)⟩
theorem kL_13 : Cond.classLink RL 13 "java/lang/IllegalArgumentException" ∈ mTB := mTB_t 521 (by decide +kernel) (by decide +kernel)
theorem kL_15 : Cond.classLink RL 15 "java/lang/IllegalStateException" ∈ mTB := mTB_t 522 (by decide +kernel) (by decide +kernel)
theorem kL_24 : Cond.classLink RL 24 "java/lang/IndexOutOfBoundsException" ∈ mTB := mTB_t 631 (by decide +kernel) (by decide +kernel)
