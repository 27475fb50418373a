def mNon (l : Launch) (D : va_G) (aC : Nat → ClassId) (μ : mM) (vs : List Value) (h : mH) (Q : Option Value → mH → Prop) : Prop := ∀ (w : va_W) (sz : Nat), mSub aC h w → Met l μ.1 (mWs μ) (mRm μ) (va_Pc vs (mPreH l D aC w sz)) (mQc D aC Q (va_A w sz)) (mRm μ).cells (mRm μ).slots (va_A w sz)
theorem mNon.of {l : Launch} {D : va_G} {aC : Nat → ClassId} {μ : mM} {vs : List Value} {h : mH} {Q : Option Value → mH → Prop} (L : List (Option Value)) (hy : plainName μ.1.cls = true) (hL : mEnt vs μ.2.2.1 = L) (hlen : (lg_sl vs).length ≤ μ.2.2.1) (hnm : μ.1.name = "<init>")
    (body : ∀ K : mK, kl K = l → kD K = D → kC K = aC → mCx K μ → mRt K μ Q → mNo (kD K) (kC K) (ks K) → (kme K).name = "<init>" → mJ K 0 0 0 L [] h) : mNon l D aC μ vs h Q := by
  intro w sz hs
  refine Met.ofW (cc := μ.2.1) (maxL := μ.2.2.1) (ret := μ.2.2.2.1) hy rfl ?_
  intro p e s m args below meth c s₁ B hml hv
  obtain ⟨rfl, ⟨hsz, hP, hD, hE⟩, hNo⟩ := hv
  subst hsz
  have hts := mTB_tail (atoms_spec (ws := mWs μ) B.pre)
  have hown : s.vm.findClass μ.1.cls = some m.cls := findClass_of_methodNamed B.named
  have hin : meth.name = μ.1.name := (name_of_methodNamed B.named B.method).1
  have hb := body (p, l, e, mRm μ, s, m, vs.toArray, below, meth, c, D, aC, va_A w s.heap.size, MQ below (mQc D aC Q (va_A w s.heap.size)) vs.toArray s (mRm μ).cells (mRm μ).slots (va_A w s.heap.size)) rfl rfl rfl
    ⟨B.exec, B.bytes, hml, B.returns, hown, hts, B.notSynchronized, rfl, hE, fun q hq => Or.inr hq⟩ (fun t ht => ht) hNo (hin.trans hnm)
  rw [lg_entry_eq]
  refine hb s.heap [] _ (mHR_self hP hD hs) va_S.rf ?_
  show mLR _ c.maxLocals L
  rw [hml, ← hL]
  exact mLR.of (lv_entry vs (n := μ.2.2.1) hlen) (fun i v hi => by have := mEnt_in vs μ.2.2.1 0 i v hi; rwa [Nat.zero_add] at this)
theorem mSub.push {aC : Nat → ClassId} {h : mH} {ws : va_W} {a : Nat} {e : mC} (hs : mSub aC h ws) : mSub aC (mset h a e) (ws ++ [(a, mE aC e)]) := by
  intro b x hb
  by_cases hba : b = a
  · subst hba
    rw [mset_s] at hb
    cases hb
    exact ⟨ws.length, by rw [List.getElem?_append_right (Nat.le_refl _), Nat.sub_self]; rfl⟩
  · rw [mset_n hba] at hb
    obtain ⟨j, hj⟩ := hs b x hb
    have hl := (List.getElem?_eq_some_iff.mp hj).1
    exact ⟨j, by rw [List.getElem?_append_left hl]; exact hj⟩
theorem mSub.fresh {aC : Nat → ClassId} {h : mH} {ws : va_W} {A : Nat → Prop} {a : Nat} {e : va_E} (hs : mSub aC h ws) (hD : va_D A (ws ++ [(a, e)])) : h a = none := by
  cases hh : h a with
  | none => rfl
  | some x =>
    obtain ⟨j, hj⟩ := hs a x hh
    have hl := (List.getElem?_eq_some_iff.mp hj).1
    have h1 : (ws ++ [(a, e)])[j]? = some (a, mE aC x) := by rw [List.getElem?_append_left hl]; exact hj
    have h2 : (ws ++ [(a, e)])[ws.length]? = some (a, e) := by rw [List.getElem?_append_right (Nat.le_refl _), Nat.sub_self]; rfl
    have := hD.1 _ _ _ _ h1 h2 rfl
    omega
section
variable {K : mK} {μ ν : mM} {cells slots pc : Nat} {L : List (Option Value)} {S st : List Value} {h : mH}
/-- what a new object wants -/
def mNw (own : String) (idx ci : Nat) (fs : List Value) : Prop := ∃ (C : String) (T : u_T) (N : Nat) (ty : Nat → FieldType), vwCl[ci]? = some (C, T, N) ∧ fs.length = N ∧ (∀ w ∈ u_ws C T N, w ∈ mTB) ∧ (∀ k, k < N → parseFieldDescriptor (T k).2.2.1 = some (ty k)) ∧ Cond.classLink own idx C ∈ mTB ∧ Cond.instantiable C N ∈ mTB ∧ Cond.initialized C ∈ mTB ∧ ∀ j, j < N → defaultValue (ty j) = vp_V fs j
theorem mJ_new {idx ci : Nat} {fs : List Value} (hK : mCx K μ) (hd : decode μ.2.1 pc = .ok (.new idx, 3)) (hn : mNw μ.1.cls idx ci fs) (hc : cells + 1 ≤ (mRm μ).cells) (hs9 : slots + fs.length ≤ (mRm μ).slots) (kk : ∀ a, h a = none → mJ K (cells + 1) (slots + fs.length) (pc + 3) L (.ref a :: S) (mset h a (.inr (ci, fs)))) : mJ K cells slots pc L S h := by
  intro H locs ls hH hS hL
  obtain ⟨ws, hP, hD, hs⟩ := id hH
  obtain ⟨C, T, N, ty, n1, rfl, n3, n4, n5, n6, n7, n8⟩ := hn
  have hw := hK.2.2.2.2.2.1
  have hR := hK.2.2.2.2.2.2.2.1
  exact va_new hK.1 hK.2.1 hw n3 ty n4 hK.2.2.2.2.1 (hw _ n5) (hw _ n6) (hw _ n7) hK.2.2.2.2.2.2.2.2.1.2.1 hP hD hS hK.2.2.2.2.2.2.2.2.2 n1 n8 (by rw [hR]; exact hc) (by rw [hR]; exact hs9) hd (fun q H1 hP1 hD1 hS1 => kk q (hs.fresh hD1) H1 locs ls ⟨_, hP1, hD1, hs.push (e := .inr (ci, fs))⟩ hS1 hL)
def mTy (t : Nat) : FieldType := match t with
  | 0 => .int
  | 1 => .long
  | 2 => .boolean
  | _ => .double
theorem mJ_newa {atype : ArrayType} {n : Int32} {a0 : vp_A} (t N : Nat) (hNo : mNo (kD K) (kC K) (ks K)) (ht : t = 0 ∨ t = 1 ∨ t = 2 ∨ t = 5) (hty : newarray.typeOf atype = mTy t) (ha : ∀ cA : ClassId, vp_cell cA a0 = arrV cA N (fun _ => defaultValue (mTy t))) (hw9 : Cond.arrayClass (newarray.typeOf atype) ∈ mTB) (hK : mCx K μ) (hd : decode μ.2.1 pc = .ok (.newarray atype, 2)) (hn : n = nI N) (hN : N < 1000) (hc : cells + 1 ≤ (mRm μ).cells) (hs9 : slots + N ≤ (mRm μ).slots) (kk : ∀ a, h a = none → mJ K (cells + 1) (slots + N) (pc + 2) L (.ref a :: S) (mset h a (.inl (t, a0)))) : mJ K cells slots pc L (.int n :: S) h := by
  intro H locs ls hH hS hL
  obtain ⟨ws, hP, hD, hs⟩ := id hH
  have hw := hK.2.2.2.2.2.1
  have hR := hK.2.2.2.2.2.2.2.1
  have hE := hK.2.2.2.2.2.2.2.2.1
  subst hn
  have hb : N * componentBytes (mTy t) ≤ 536870912 := by
    rcases ht with rfl | rfl | rfl | rfl
    · have e9 : componentBytes (mTy 0) = 4 := by decide
      rw [e9]
      omega
    · have e9 : componentBytes (mTy 1) = 8 := by decide
      rw [e9]
      omega
    · have e9 : componentBytes (mTy 2) = 1 := by decide
      rw [e9]
      omega
    · have e9 : componentBytes (mTy 5) = 8 := by decide
      rw [e9]
      omega
  refine va_newa hK.1 hK.2.1 (hw _ hw9) hty hE.2.1 hP hD hS hK.2.2.2.2.2.2.2.2.2 ha (nI_pos (by omega)) (nI_clamp (by omega)) hb (by rw [hR]; exact hc) (by rw [hR]; exact hs9) hd (fun q cA H1 hK1 hP1 hD1 hS1 => ?_)
  have hra : va_RA (ks K) cA (mTy t) := (hK1.2 5 (cA, mTy t) rfl).2
  have ec : cA = kC K t := by
    rcases ht with rfl | rfl | rfl | rfl
    · exact Option.some.inj ((va_nm_int hra).symm.trans (va_nm_int (hE.2.1.2 0 _ rfl).2))
    · exact Option.some.inj ((va_nm_long hra).symm.trans (va_nm_long (hE.2.1.2 1 _ rfl).2))
    · exact Option.some.inj ((va_nm_boolean hra).symm.trans (va_nm_boolean (hE.2.1.2 2 _ rfl).2))
    · exact Option.some.inj ((va_nm_double hra).symm.trans (va_nm_double (hNo.2.2.2.2 0 _ rfl).2))
  subst ec
  exact kk q (hs.fresh hD1) H1 locs ls ⟨_, hP1, hD1, hs.push (e := .inl (t, a0))⟩ hS1 hL
theorem mJ_newq {idx : Nat} {n : Int32} {C : String} (t N : Nat) (ht : (t = 3 ∧ C = RX1) ∨ (t = 4 ∧ C = RX0)) (hao : va_AO C (ks K)) (hl : Cond.classLink μ.1.cls idx C ∈ mTB) (hK : mCx K μ) (hd : decode μ.2.1 pc = .ok (.anewarray idx, 3)) (hn : n = nI N) (hN : N < 1000) (hc : cells + 1 ≤ (mRm μ).cells) (hs9 : slots + N ≤ (mRm μ).slots) (kk : ∀ a, h a = none → mJ K (cells + 1) (slots + N) (pc + 3) L (.ref a :: S) (mset h a (.inl (t, N, .inr (.inr (.inr (.inr (fun _ => none)))))))) : mJ K cells slots pc L (.int n :: S) h := by
  intro H locs ls hH hS hL
  obtain ⟨ws, hP, hD, hs⟩ := id hH
  have hw := hK.2.2.2.2.2.1
  have hR := hK.2.2.2.2.2.2.2.1
  have hE := hK.2.2.2.2.2.2.2.2.1
  subst hn
  refine va_newq hK.1 hK.2.1 hK.2.2.2.2.1 (hw _ hl) hao hE.2.1 hP hD hS hK.2.2.2.2.2.2.2.2.2 (nI_pos (by omega)) (nI_clamp (by omega)) (by omega) (by rw [hR]; exact hc) (by rw [hR]; exact hs9) hd (fun q cA H1 hK1 hP1 hD1 hS1 => ?_)
  obtain ⟨-, -, -, -, -, f1⟩ := (hK1.2 5 (cA, .object C) rfl).2
  have ec : cA = kC K t := by
    rcases ht with ⟨rfl, rfl⟩ | ⟨rfl, rfl⟩
    · obtain ⟨-, -, -, -, -, f2⟩ := (hE.2.1.2 3 _ rfl).2
      exact Option.some.inj (f1.symm.trans f2)
    · obtain ⟨-, -, -, -, -, f2⟩ := (hE.2.1.2 4 _ rfl).2
      exact Option.some.inj (f1.symm.trans f2)
  subst ec
  exact kk q (hs.fresh hD1) H1 locs ls ⟨_, hP1, hD1, hs.push (e := .inl (t, N, .inr (.inr (.inr (.inr (fun _ => none))))))⟩ hS1 hL
theorem mJ_aastC {a n v : Nat} {f : Nat → Option Nat} {i : Int32} {vs : List Value} (hK : mCx K μ) (hd : decode μ.2.1 pc = .ok (.aastore, 1)) (ha : h a = some (.inl (4, n, .inr (.inr (.inr (.inr f)))))) (hv : h v = some (.inr (0, vs))) (hin : vp_in i n) (kk : mJ K cells slots (pc + 1) L S (mset h a (.inl (4, n, .inr (.inr (.inr (.inr (va_up f i.toNatClampNeg (some v))))))))) : mJ K cells slots pc L (.ref v :: .int i :: .ref a :: S) h := by
  intro H locs ls hH hS hL
  obtain ⟨ws, hP, hD, hs⟩ := id hH
  obtain ⟨q, hq⟩ := hs a _ ha
  obtain ⟨q2, hq2⟩ := hs v _ hv
  exact va_astq hK.1 hK.2.1 hK.2.2.2.2.2.2.2.2.1.2.1 hP hD hS q 4 q2 0 (r := (RX0, TX0, 6)) hq rfl hq2 rfl hin hd (fun H1 locs1 hP1 hD1 hS1 => kk H1 locs1 ls ⟨_, hP1, hD1, hs.set (e := .inl (4, n, .inr (.inr (.inr (.inr (va_up f i.toNatClampNeg (some v))))))) hq⟩ hS1 hL)
/-- a final field's store in a constructor -/
def mFN (own : String) (idx ci k : Nat) (ty : FieldType) : Prop := ∃ (C : String) (T : u_T) (N : Nat) (ty0 : Nat → FieldType), vwCl[ci]? = some (C, T, N) ∧ k < N ∧ (∀ w ∈ u_ws C T N, w ∈ mTB) ∧ Cond.fieldLink own idx (T k).1 (T k).2.1 (T k).2.2.1 ∈ mTB ∧ (∀ k, k < N → parseFieldDescriptor (T k).2.2.1 = some (ty0 k)) ∧ (∀ a, a < N → ∀ b, b < N → a ≠ b → (T a).2.1 ≠ (T b).2.1) ∧ (T k).2.2.2 = true ∧ (T k).1 = own ∧ parseFieldDescriptor (T k).2.2.1 = some ty
theorem mJ_putF {idx ci k a : Nat} {fs : List Value} {v : Value} {ty : FieldType} (hin : (kme K).name = "<init>") (hK : mCx K μ) (hd : decode μ.2.1 pc = .ok (.putfield idx, 3)) (hl : mFN μ.1.cls idx ci k ty) (hn : narrow ty v = v) (hfit : fits ty v = true) (ha : h a = some (.inr (ci, fs))) (hk9 : k < fs.length) (kk : mJ K cells slots (pc + 3) L S (mset h a (.inr (ci, fs.set k v)))) : mJ K cells slots pc L (v :: .ref a :: S) h := by
  intro H locs ls hH hS hL
  obtain ⟨ws, hP, hD, hs⟩ := id hH
  obtain ⟨q, hq⟩ := hs a _ ha
  obtain ⟨C, T, N, ty0, hc, hk, hin9, hlk, h1, h2, h3, h4, h5⟩ := hl
  have hE := hK.2.2.2.2.2.2.2.2.1
  exact va_putF hK.1 hK.2.1 hK.2.2.2.2.2.1 hin9 ty0 h1 h2 hK.2.2.2.2.1 hE.2.1 hP hD hS q hq hc k hk (hK.2.2.2.2.2.1 _ hlk) (fun _ h9 => h9) h3 hin h4 h5 hn hfit hk9 hd (fun H1 locs1 hP1 hD1 hS1 => kk H1 locs1 ls ⟨_, hP1, hD1, hs.set (e := .inr (ci, fs.set k v)) hq⟩ hS1 hL)
theorem mJ_obj {idx a : Nat} (hK : mCx K μ) (hd : decode μ.2.1 pc = .ok (.invokespecial idx, 3)) (h1 : Cond.methodLink μ.1.cls idx Lib.objectInit ∈ mTB) (h2 : Cond.instanceMethod Lib.objectInit ∈ mTB) (h3 : Cond.code Lib.objectInit ⟨#[0xb1]⟩ 1 none ∈ mTB) (hf : 1 ≤ (mRm μ).frames) (hlo : (S.map fun v => v.category).sum + 12 ≤ (mRm μ).locals) (kk : mJ K cells slots (pc + 3) L S h) : mJ K cells slots pc L (.ref a :: S) h := by
  intro H locs ls hH hS hL
  have hw := hK.2.2.2.2.2.1
  have hR := hK.2.2.2.2.2.2.2.1
  exact W.objInit hK.1 hK.2.1 hK.2.2.2.2.1 (hw _ h1) (hw _ h2) (hw _ h3) rfl hL.1 rfl hd (by rw [hR]; exact hf) (by rw [hR]; show 2 * 0 + _ + 12 ≤ _; omega) (kk H locs ls hH hS hL)
def mLI (own : String) (idx : Nat) (ν : mM) : Prop := mLB own idx ν 0 ∧ Cond.instanceMethod ν.1 ∈ mTB ∧ ν.1.name = "<init>" ∧ ν.2.2.2.1 = none
def mLIN (own : String) (idx : Nat) (ν : mM) : Prop := ((∃ host : String, (own, idx, ν.1, host) ∈ mNM) ∧ Cond.initialized ν.1.cls ∈ mTB ∧ Cond.code ν.1 ν.2.1 ν.2.2.1 ν.2.2.2.1 ∈ mTB ∧ (ν.1.cls ≠ "java/lang/invoke/MethodHandle" ∧ ν.1.cls ≠ "java/lang/invoke/VarHandle" ∧ (parseMethodDescriptor ν.1.desc).map (fun d => d.parameters.length) = some 0)) ∧ Cond.instanceMethod ν.1 ∈ mTB ∧ ν.1.name = "<init>" ∧ ν.2.2.2.1 = none
theorem mJ_callI {idx b : Nat} {Q' : Option Value → mH → Prop} (hNo : mNo (kD K) (kC K) (ks K)) (hK : mCx K μ) (hd : decode μ.2.1 pc = .ok (.invokespecial idx, 3)) (hl : mLI μ.1.cls idx ν) (hR : mFit μ ν) (hf : cells + (mRm ν).cells ≤ (mRm μ).cells ∧ slots + (mRm ν).slots ≤ (mRm μ).slots) (h8 : (S.map fun v => v.category).sum ≤ 8)
    (hM : mNon (kl K) (kD K) (kC K) ν [.ref b] h (fun r h' => r = none ∧ Q' r h')) (kk : ∀ (h' : mH), Q' none h' → mJ K (cells + (mRm ν).cells) (slots + (mRm ν).slots) (pc + 3) L S h') : mJ K cells slots pc L (.ref b :: S) h := by
  intro H locs ls hH hS hL
  obtain ⟨ws, hP, hD, hs⟩ := id hH
  have hE := hK.2.2.2.2.2.2.2.2.1
  have hw := hK.2.2.2.2.2.1
  have hfree := mFree hD hS hK.2.2.2.2.2.2.2.2.2
  obtain ⟨⟨y, bts, mx, rt, rm⟩, hν⟩ : ∃ z : mM, z = ν := ⟨ν, rfl⟩
  subst hν
  obtain ⟨l1, l2, l3, l4⟩ := hl
  dsimp only at l4
  subst l4
  exact mJ_run (ν := (y, bts, mx, none, rm)) (h := h) hS hL hfree (va_runI (cc := μ.2.1) (nL := μ.2.2.1) (Ts := mTB) (b := b) (As := []) (rest := S) ⟨hK.1, hK.2.1, hK.2.2.1, hK.2.2.2.2.1, hw⟩ (hM ws H.size hs) ⟨mCB hK l1 hR, l3, hw _ l2⟩
    ⟨mPreH.blind, fun U hU hW => ⟨rfl, ⟨by rw [hU], by rw [hU]; exact hP, hD.weaken (fun _ _ _ _ => trivial), hE.next hS hU hW hfree⟩, hNo.next hW⟩⟩ rfl rfl (hL.1.trans hK.2.2.1) rfl (lv_room h8) hd (by rw [hK.2.2.2.2.2.2.2.1]; exact hf)) (fun r h' hq => by
      obtain ⟨rfl, hq⟩ := hq
      exact kk h' hq)
theorem mJ_callIN {idx b : Nat} {Q' : Option Value → mH → Prop} (hNo : mNo (kD K) (kC K) (ks K)) (hK : mCx K μ) (hd : decode μ.2.1 pc = .ok (.invokespecial idx, 3)) (hl : mLIN μ.1.cls idx ν) (hR : mFit μ ν) (hf : cells + (mRm ν).cells ≤ (mRm μ).cells ∧ slots + (mRm ν).slots ≤ (mRm μ).slots) (h8 : (S.map fun v => v.category).sum ≤ 8)
    (hM : mNon (kl K) (kD K) (kC K) ν [.ref b] h (fun r h' => r = none ∧ Q' r h')) (kk : ∀ (h' : mH), Q' none h' → mJ K (cells + (mRm ν).cells) (slots + (mRm ν).slots) (pc + 3) L S h') : mJ K cells slots pc L (.ref b :: S) h := by
  intro H locs ls hH hS hL
  obtain ⟨ws, hP, hD, hs⟩ := id hH
  have hE := hK.2.2.2.2.2.2.2.2.1
  have hw := hK.2.2.2.2.2.1
  have hfree := mFree hD hS hK.2.2.2.2.2.2.2.2.2
  obtain ⟨⟨y, bts, mx, rt, rm⟩, hν⟩ : ∃ z : mM, z = ν := ⟨ν, rfl⟩
  subst hν
  obtain ⟨⟨⟨host, l1⟩, l2, l3, l4⟩, l5, l6, l7⟩ := hl
  dsimp only at l7
  subst l7
  exact mJ_run (ν := (y, bts, mx, none, rm)) (h := h) hS hL hfree (va_runIN (cc := μ.2.1) (nL := μ.2.2.1) (Ts := mTB) (host := host) (b := b) (As := []) (rest := S) ⟨hK.1, hK.2.1, hK.2.2.1, hK.2.2.2.2.1, hw⟩ (hM ws H.size hs) ⟨va_cnB 0 hw (mGI (mWs_in l3)) rfl rfl rfl (hE.2.2.2.1 _ l1) (hw _ l2) l4 (by rw [hK.2.2.2.2.2.2.2.1]; exact hR), l6, hw _ l5⟩
    ⟨mPreH.blind, fun U hU hW => ⟨rfl, ⟨by rw [hU], by rw [hU]; exact hP, hD.weaken (fun _ _ _ _ => trivial), hE.next hS hU hW hfree⟩, hNo.next hW⟩⟩ rfl rfl (hL.1.trans hK.2.2.1) rfl (lv_room h8) hd (by rw [hK.2.2.2.2.2.2.2.1]; exact hf)) (fun r h' hq => by
      obtain ⟨rfl, hq⟩ := hq
      exact kk h' hq)
/-- a row of references read otherwise behind its end -/
theorem mJ_ext {a t n : Nat} {f f' : Nat → Option Nat} (ha : h a = some (.inl (t, n, .inr (.inr (.inr (.inr f)))))) (hf : ∀ j, j < n → f j = f' j) (kk : mJ K cells slots pc L S (mset h a (.inl (t, n, .inr (.inr (.inr (.inr f'))))))) : mJ K cells slots pc L S h := by
  intro H locs ls hH hS hL
  obtain ⟨ws, hP, hD, hs⟩ := id hH
  obtain ⟨q, hq⟩ := hs a _ ha
  refine kk H locs ls ⟨ws.set q (a, mE (kC K) (.inl (t, n, .inr (.inr (.inr (.inr f')))))), fun k x hx => ?_, hD.set hq, hs.set hq⟩ hS hL
  rw [List.getElem?_set] at hx
  split at hx
  · split at hx
    · cases hx
      have h0 := hP q _ hq
      have e : vp_cell (kC K t) (n, .inr (.inr (.inr (.inr f')))) = vp_cell (kC K t) (n, .inr (.inr (.inr (.inr f)))) := by
        have e8 : (fun j : Fin n => va_rf (f' j.val)) = (fun j : Fin n => va_rf (f j.val)) := funext (fun j => by rw [hf j.val j.isLt])
        rw [vp_cell_q, vp_cell_q]
        unfold arrV
        rw [e8]
      show H[a]? = some (vp_cell (kC K t) (n, .inr (.inr (.inr (.inr f')))))
      rw [e]
      exact h0
    · cases hx
  · exact hP k x hx
end
abbrev mX0_init : mM := (yX0_init, cX0_init, 1, none, { frames := 1, cells := 3, slots := 24, locals := 12 })
abbrev mX1_init : mM := (yX1_init, cX1_init, 1, none, { frames := 1, cells := 5, slots := 36, locals := 12 })
abbrev mX4_init : mM := (yX4_init, cX4_init, 1, none, { frames := 1, cells := 2, slots := 48, locals := 12 })
abbrev mX2_init : mM := (yX2_init, cX2_init, 1, none, { frames := 2, cells := 6, slots := 47, locals := 32 })
abbrev mX3_init : mM := (yX3_init, cX3_init, 2, none, { frames := 2, cells := 37, slots := 307, locals := 32 })
abbrev mX5_init : mM := (yX5_init, cX5_init, 2, none, { frames := 3, cells := 136, slots := 1123, locals := 53 })
abbrev mX6_init : mM := (yX6_init, cX6_init, 1, none, { frames := 1, cells := 34, slots := 939, locals := 12 })
theorem ob_2 : Cond.instanceMethod Lib.objectInit ∈ mTB := mTB_t 24 (by decide +kernel) (by decide +kernel)
theorem ob_3 : Cond.code Lib.objectInit ⟨#[0xb1]⟩ 1 none ∈ mTB := mTB_t 25 (by decide +kernel) (by decide +kernel)
abbrev fz0 : List Value := [.null, .null, .null, .int 0, .int 0, .long 0]
abbrev fz1 : List Value := [.int 0, .int 0, .int 0, .int 0, .int 0, .int 0, .null, .null, .null, .null, .null]
abbrev fz2 : List Value := [.null, .int 0, .int 0, .int 0]
abbrev fz3 : List Value := [.null, .null, .null, .int 0, .int 0]
abbrev fz4 : List Value := [.null, .null, .int 0]
abbrev fz5 : List Value := [.null, .int 0, .null, .null, .int 0, .int 0, .null, .null, .int 0, .null, .null, .null]
abbrev fz6 : List Value := [.int 0, .int 0, .null, .int 0, .null, .null, .null, .null, .null, .null, .null, .null, .int 0, .int 0, .null, .null, .null, .null, .int 0, .int 0, .null, .null, .null, .null, .int 0, .int 0, .int 0, .int 0, .null, .int 0, .int 0, .int 0, .null, .null, .null, .null, .null, .null, .null, .int 0, .int 0, .int 0, .int 0, .null, .null, .null, .null, .null, .null, .null, .null, .null, .long 0]
theorem obX0_3 : Cond.methodLink RX0 3 Lib.objectInit ∈ mTB := mTB_t 125 (by decide +kernel) (by decide +kernel)
theorem pfX0_9 : mFN RX0 9 0 0 (.array .int) := ⟨RX0, TX0, 6, tyX0, rfl, by decide, iX0, mTB_t 126 (by decide +kernel) (by decide +kernel), tyX0_ok, nmX0, rfl, by decide +kernel, by decide +kernel⟩
theorem pfX0_15 : mFN RX0 15 0 1 (.array .int) := ⟨RX0, TX0, 6, tyX0, rfl, by decide, iX0, mTB_t 127 (by decide +kernel) (by decide +kernel), tyX0_ok, nmX0, rfl, by decide +kernel, by decide +kernel⟩
theorem pfX0_18 : mFN RX0 18 0 2 (.array .int) := ⟨RX0, TX0, 6, tyX0, rfl, by decide, iX0, mTB_t 128 (by decide +kernel) (by decide +kernel), tyX0_ok, nmX0, rfl, by decide +kernel, by decide +kernel⟩
theorem obX1_3 : Cond.methodLink RX1 3 Lib.objectInit ∈ mTB := mTB_t 37 (by decide +kernel) (by decide +kernel)
theorem pfX1_9 : mFN RX1 9 1 6 (.array .int) := ⟨RX1, TX1, 11, tyX1, rfl, by decide, iX1, mTB_t 50 (by decide +kernel) (by decide +kernel), tyX1_ok, nmX1, rfl, by decide +kernel, by decide +kernel⟩
theorem pfX1_15 : mFN RX1 15 1 7 (.array .boolean) := ⟨RX1, TX1, 11, tyX1, rfl, by decide, iX1, mTB_t 52 (by decide +kernel) (by decide +kernel), tyX1_ok, nmX1, rfl, by decide +kernel, by decide +kernel⟩
theorem pfX1_19 : mFN RX1 19 1 8 (.array .int) := ⟨RX1, TX1, 11, tyX1, rfl, by decide, iX1, mTB_t 54 (by decide +kernel) (by decide +kernel), tyX1_ok, nmX1, rfl, by decide +kernel, by decide +kernel⟩
theorem pfX1_22 : mFN RX1 22 1 9 (.array .int) := ⟨RX1, TX1, 11, tyX1, rfl, by decide, iX1, mTB_t 55 (by decide +kernel) (by decide +kernel), tyX1_ok, nmX1, rfl, by decide +kernel, by decide +kernel⟩
theorem pfX1_25 : mFN RX1 25 1 10 (.array .int) := ⟨RX1, TX1, 11, tyX1, rfl, by decide, iX1, mTB_t 56 (by decide +kernel) (by decide +kernel), tyX1_ok, nmX1, rfl, by decide +kernel, by decide +kernel⟩
theorem obX2_3 : Cond.methodLink RX2 3 Lib.objectInit ∈ mTB := mTB_t 31 (by decide +kernel) (by decide +kernel)
theorem nwX2_9 : mNw RX2 9 1 fz1 := ⟨RX1, TX1, 11, tyX1, rfl, rfl, iX1, tyX1_ok, mTB_t 32 (by decide +kernel) (by decide +kernel), mTB_t 33 (by decide +kernel) (by decide +kernel), mTB_t 3 (by decide +kernel) (by decide +kernel), fun j hj => match j, hj with | 0, _ => rfl | 1, _ => rfl | 2, _ => rfl | 3, _ => rfl | 4, _ => rfl | 5, _ => rfl | 6, _ => rfl | 7, _ => rfl | 8, _ => rfl | 9, _ => rfl | 10, _ => rfl | n + 11, h => absurd h (by omega)⟩
theorem icX2_11 : mLIN RX2 11 mX1_init := ⟨⟨⟨"JoinRuntime", by decide +kernel⟩, mTB_t 3 (by decide +kernel) (by decide +kernel), mTB_t 36 (by decide +kernel) (by decide +kernel), ⟨by decide +kernel, by decide +kernel, by decide +kernel⟩⟩, mTB_t 35 (by decide +kernel) (by decide +kernel), by decide +kernel, rfl⟩
theorem obX3_3 : Cond.methodLink RX3 3 Lib.objectInit ∈ mTB := mTB_t 102 (by decide +kernel) (by decide +kernel)
theorem nqX3_9 : Cond.classLink RX3 9 RX0 ∈ mTB := mTB_t 103 (by decide +kernel) (by decide +kernel)
theorem pfX3_11 : mFN RX3 11 3 0 (.array (.object "JoinRuntime$Channel")) := ⟨RX3, TX3, 5, tyX3, rfl, by decide, iX3, mTB_t 149 (by decide +kernel) (by decide +kernel), tyX3_ok, nmX3, rfl, by decide +kernel, by decide +kernel⟩
theorem nwX3_17 : mNw RX3 17 4 fz4 := ⟨RX4, TX4, 3, tyX4, rfl, rfl, iX4, tyX4_ok, mTB_t 105 (by decide +kernel) (by decide +kernel), mTB_t 106 (by decide +kernel) (by decide +kernel), mTB_t 5 (by decide +kernel) (by decide +kernel), fun j hj => match j, hj with | 0, _ => rfl | 1, _ => rfl | 2, _ => rfl | n + 3, h => absurd h (by omega)⟩
theorem icX3_19 : mLIN RX3 19 mX4_init := ⟨⟨⟨"JoinRuntime", by decide +kernel⟩, mTB_t 5 (by decide +kernel) (by decide +kernel), mTB_t 109 (by decide +kernel) (by decide +kernel), ⟨by decide +kernel, by decide +kernel, by decide +kernel⟩⟩, mTB_t 108 (by decide +kernel) (by decide +kernel), by decide +kernel, rfl⟩
theorem pfX3_20 : mFN RX3 20 3 1 (.object "JoinRuntime$Tickets") := ⟨RX3, TX3, 5, tyX3, rfl, by decide, iX3, mTB_t 151 (by decide +kernel) (by decide +kernel), tyX3_ok, nmX3, rfl, by decide +kernel, by decide +kernel⟩
theorem pfX3_24 : mFN RX3 24 3 2 (.array .int) := ⟨RX3, TX3, 5, tyX3, rfl, by decide, iX3, mTB_t 153 (by decide +kernel) (by decide +kernel), tyX3_ok, nmX3, rfl, by decide +kernel, by decide +kernel⟩
theorem nwX3_9 : mNw RX3 9 0 fz0 := ⟨RX0, TX0, 6, tyX0, rfl, rfl, iX0, tyX0_ok, mTB_t 103 (by decide +kernel) (by decide +kernel), mTB_t 121 (by decide +kernel) (by decide +kernel), mTB_t 6 (by decide +kernel) (by decide +kernel), fun j hj => match j, hj with | 0, _ => rfl | 1, _ => rfl | 2, _ => rfl | 3, _ => rfl | 4, _ => rfl | 5, _ => rfl | n + 6, h => absurd h (by omega)⟩
theorem icX3_32 : mLIN RX3 32 mX0_init := ⟨⟨⟨"JoinRuntime", by decide +kernel⟩, mTB_t 6 (by decide +kernel) (by decide +kernel), mTB_t 124 (by decide +kernel) (by decide +kernel), ⟨by decide +kernel, by decide +kernel, by decide +kernel⟩⟩, mTB_t 123 (by decide +kernel) (by decide +kernel), by decide +kernel, rfl⟩
theorem obX4_3 : Cond.methodLink RX4 3 Lib.objectInit ∈ mTB := mTB_t 110 (by decide +kernel) (by decide +kernel)
theorem pfX4_9 : mFN RX4 9 4 0 (.array .int) := ⟨RX4, TX4, 3, tyX4, rfl, by decide, iX4, mTB_t 111 (by decide +kernel) (by decide +kernel), tyX4_ok, nmX4, rfl, by decide +kernel, by decide +kernel⟩
theorem pfX4_15 : mFN RX4 15 4 1 (.array .int) := ⟨RX4, TX4, 3, tyX4, rfl, by decide, iX4, mTB_t 112 (by decide +kernel) (by decide +kernel), tyX4_ok, nmX4, rfl, by decide +kernel, by decide +kernel⟩
theorem obX5_1 : Cond.methodLink RX5 1 Lib.objectInit ∈ mTB := mTB_t 23 (by decide +kernel) (by decide +kernel)
theorem pfX5_9 : mFN RX5 9 5 0 (.array .int) := ⟨RX5, TX5, 12, tyX5, rfl, by decide, iX5, mTB_t 171 (by decide +kernel) (by decide +kernel), tyX5_ok, nmX5, rfl, by decide +kernel, by decide +kernel⟩
theorem nwX5_13 : mNw RX5 13 2 fz2 := ⟨RX2, TX2, 4, tyX2, rfl, rfl, iX2, tyX2_ok, mTB_t 26 (by decide +kernel) (by decide +kernel), mTB_t 27 (by decide +kernel) (by decide +kernel), mTB_t 2 (by decide +kernel) (by decide +kernel), fun j hj => match j, hj with | 0, _ => rfl | 1, _ => rfl | 2, _ => rfl | 3, _ => rfl | n + 4, h => absurd h (by omega)⟩
theorem icX5_15 : mLIN RX5 15 mX2_init := ⟨⟨⟨"JoinRuntime", by decide +kernel⟩, mTB_t 2 (by decide +kernel) (by decide +kernel), mTB_t 30 (by decide +kernel) (by decide +kernel), ⟨by decide +kernel, by decide +kernel, by decide +kernel⟩⟩, mTB_t 29 (by decide +kernel) (by decide +kernel), by decide +kernel, rfl⟩
theorem pfX5_16 : mFN RX5 16 5 2 (.object "JoinRuntime$RuleReader") := ⟨RX5, TX5, 12, tyX5, rfl, by decide, iX5, mTB_t 173 (by decide +kernel) (by decide +kernel), tyX5_ok, nmX5, rfl, by decide +kernel, by decide +kernel⟩
theorem nqX5_20 : Cond.classLink RX5 20 RX1 ∈ mTB := mTB_t 95 (by decide +kernel) (by decide +kernel)
theorem pfX5_22 : mFN RX5 22 5 3 (.array (.object "JoinRuntime$Rule")) := ⟨RX5, TX5, 12, tyX5, rfl, by decide, iX5, mTB_t 174 (by decide +kernel) (by decide +kernel), tyX5_ok, nmX5, rfl, by decide +kernel, by decide +kernel⟩
theorem nwX5_26 : mNw RX5 26 3 fz3 := ⟨RX3, TX3, 5, tyX3, rfl, rfl, iX3, tyX3_ok, mTB_t 97 (by decide +kernel) (by decide +kernel), mTB_t 98 (by decide +kernel) (by decide +kernel), mTB_t 4 (by decide +kernel) (by decide +kernel), fun j hj => match j, hj with | 0, _ => rfl | 1, _ => rfl | 2, _ => rfl | 3, _ => rfl | 4, _ => rfl | n + 5, h => absurd h (by omega)⟩
theorem icX5_28 : mLI RX5 28 mX3_init := ⟨⟨mTB_t 99 (by decide +kernel) (by decide +kernel), mTB_t 4 (by decide +kernel) (by decide +kernel), mTB_t 101 (by decide +kernel) (by decide +kernel), ⟨by decide +kernel, by decide +kernel, by decide +kernel⟩⟩, mTB_t 100 (by decide +kernel) (by decide +kernel), by decide +kernel, rfl⟩
theorem pfX5_29 : mFN RX5 29 5 6 (.object "JoinRuntime$State") := ⟨RX5, TX5, 12, tyX5, rfl, by decide, iX5, mTB_t 177 (by decide +kernel) (by decide +kernel), tyX5_ok, nmX5, rfl, by decide +kernel, by decide +kernel⟩
theorem pfX5_33 : mFN RX5 33 5 7 (.object "JoinRuntime$State") := ⟨RX5, TX5, 12, tyX5, rfl, by decide, iX5, mTB_t 178 (by decide +kernel) (by decide +kernel), tyX5_ok, nmX5, rfl, by decide +kernel, by decide +kernel⟩
theorem pfX5_36 : mFN RX5 36 5 9 (.array .int) := ⟨RX5, TX5, 12, tyX5, rfl, by decide, iX5, mTB_t 180 (by decide +kernel) (by decide +kernel), tyX5_ok, nmX5, rfl, by decide +kernel, by decide +kernel⟩
theorem pfX5_39 : mFN RX5 39 5 10 (.array .int) := ⟨RX5, TX5, 12, tyX5, rfl, by decide, iX5, mTB_t 181 (by decide +kernel) (by decide +kernel), tyX5_ok, nmX5, rfl, by decide +kernel, by decide +kernel⟩
theorem pfX5_42 : mFN RX5 42 5 11 (.array .int) := ⟨RX5, TX5, 12, tyX5, rfl, by decide, iX5, mTB_t 182 (by decide +kernel) (by decide +kernel), tyX5_ok, nmX5, rfl, by decide +kernel, by decide +kernel⟩
theorem nwX5_20 : mNw RX5 20 1 fz1 := ⟨RX1, TX1, 11, tyX1, rfl, rfl, iX1, tyX1_ok, mTB_t 95 (by decide +kernel) (by decide +kernel), mTB_t 33 (by decide +kernel) (by decide +kernel), mTB_t 3 (by decide +kernel) (by decide +kernel), fun j hj => match j, hj with | 0, _ => rfl | 1, _ => rfl | 2, _ => rfl | 3, _ => rfl | 4, _ => rfl | 5, _ => rfl | 6, _ => rfl | 7, _ => rfl | 8, _ => rfl | 9, _ => rfl | 10, _ => rfl | n + 11, h => absurd h (by omega)⟩
theorem icX5_45 : mLIN RX5 45 mX1_init := ⟨⟨⟨"JoinRuntime", by decide +kernel⟩, mTB_t 3 (by decide +kernel) (by decide +kernel), mTB_t 36 (by decide +kernel) (by decide +kernel), ⟨by decide +kernel, by decide +kernel, by decide +kernel⟩⟩, mTB_t 35 (by decide +kernel) (by decide +kernel), by decide +kernel, rfl⟩
theorem obX6_1 : Cond.methodLink RX6 1 Lib.objectInit ∈ mTB := mTB_t 794 (by decide +kernel) (by decide +kernel)
theorem pfX6_7 : mFN RX6 7 6 2 (.array .int) := ⟨RX6, TX6, 53, tyX6, rfl, by decide, iX6, mTB_t 797 (by decide +kernel) (by decide +kernel), tyX6_ok, nmX6, rfl, by decide +kernel, by decide +kernel⟩
theorem pfX6_13 : mFN RX6 13 6 4 (.array .int) := ⟨RX6, TX6, 53, tyX6, rfl, by decide, iX6, mTB_t 799 (by decide +kernel) (by decide +kernel), tyX6_ok, nmX6, rfl, by decide +kernel, by decide +kernel⟩
theorem pfX6_16 : mFN RX6 16 6 5 (.array .int) := ⟨RX6, TX6, 53, tyX6, rfl, by decide, iX6, mTB_t 800 (by decide +kernel) (by decide +kernel), tyX6_ok, nmX6, rfl, by decide +kernel, by decide +kernel⟩
theorem pfX6_19 : mFN RX6 19 6 6 (.array .int) := ⟨RX6, TX6, 53, tyX6, rfl, by decide, iX6, mTB_t 801 (by decide +kernel) (by decide +kernel), tyX6_ok, nmX6, rfl, by decide +kernel, by decide +kernel⟩
theorem pfX6_22 : mFN RX6 22 6 7 (.array .int) := ⟨RX6, TX6, 53, tyX6, rfl, by decide, iX6, mTB_t 802 (by decide +kernel) (by decide +kernel), tyX6_ok, nmX6, rfl, by decide +kernel, by decide +kernel⟩
theorem pfX6_25 : mFN RX6 25 6 8 (.array .int) := ⟨RX6, TX6, 53, tyX6, rfl, by decide, iX6, mTB_t 803 (by decide +kernel) (by decide +kernel), tyX6_ok, nmX6, rfl, by decide +kernel, by decide +kernel⟩
theorem pfX6_28 : mFN RX6 28 6 9 (.array .int) := ⟨RX6, TX6, 53, tyX6, rfl, by decide, iX6, mTB_t 804 (by decide +kernel) (by decide +kernel), tyX6_ok, nmX6, rfl, by decide +kernel, by decide +kernel⟩
theorem pfX6_31 : mFN RX6 31 6 10 (.array .int) := ⟨RX6, TX6, 53, tyX6, rfl, by decide, iX6, mTB_t 805 (by decide +kernel) (by decide +kernel), tyX6_ok, nmX6, rfl, by decide +kernel, by decide +kernel⟩
theorem pfX6_34 : mFN RX6 34 6 11 (.array .int) := ⟨RX6, TX6, 53, tyX6, rfl, by decide, iX6, mTB_t 806 (by decide +kernel) (by decide +kernel), tyX6_ok, nmX6, rfl, by decide +kernel, by decide +kernel⟩
theorem pfX6_41 : mFN RX6 41 6 14 (.array .int) := ⟨RX6, TX6, 53, tyX6, rfl, by decide, iX6, mTB_t 809 (by decide +kernel) (by decide +kernel), tyX6_ok, nmX6, rfl, by decide +kernel, by decide +kernel⟩
theorem pfX6_44 : mFN RX6 44 6 15 (.array .int) := ⟨RX6, TX6, 53, tyX6, rfl, by decide, iX6, mTB_t 810 (by decide +kernel) (by decide +kernel), tyX6_ok, nmX6, rfl, by decide +kernel, by decide +kernel⟩
theorem pfX6_47 : mFN RX6 47 6 16 (.array .int) := ⟨RX6, TX6, 53, tyX6, rfl, by decide, iX6, mTB_t 811 (by decide +kernel) (by decide +kernel), tyX6_ok, nmX6, rfl, by decide +kernel, by decide +kernel⟩
theorem pfX6_50 : mFN RX6 50 6 17 (.array .int) := ⟨RX6, TX6, 53, tyX6, rfl, by decide, iX6, mTB_t 812 (by decide +kernel) (by decide +kernel), tyX6_ok, nmX6, rfl, by decide +kernel, by decide +kernel⟩
theorem pfX6_53 : mFN RX6 53 6 20 (.array .int) := ⟨RX6, TX6, 53, tyX6, rfl, by decide, iX6, mTB_t 815 (by decide +kernel) (by decide +kernel), tyX6_ok, nmX6, rfl, by decide +kernel, by decide +kernel⟩
theorem pfX6_56 : mFN RX6 56 6 21 (.array .int) := ⟨RX6, TX6, 53, tyX6, rfl, by decide, iX6, mTB_t 816 (by decide +kernel) (by decide +kernel), tyX6_ok, nmX6, rfl, by decide +kernel, by decide +kernel⟩
theorem pfX6_59 : mFN RX6 59 6 22 (.array .int) := ⟨RX6, TX6, 53, tyX6, rfl, by decide, iX6, mTB_t 817 (by decide +kernel) (by decide +kernel), tyX6_ok, nmX6, rfl, by decide +kernel, by decide +kernel⟩
theorem pfX6_62 : mFN RX6 62 6 23 (.array .long) := ⟨RX6, TX6, 53, tyX6, rfl, by decide, iX6, mTB_t 818 (by decide +kernel) (by decide +kernel), tyX6_ok, nmX6, rfl, by decide +kernel, by decide +kernel⟩
theorem pfX6_66 : mFN RX6 66 6 28 (.array .int) := ⟨RX6, TX6, 53, tyX6, rfl, by decide, iX6, mTB_t 823 (by decide +kernel) (by decide +kernel), tyX6_ok, nmX6, rfl, by decide +kernel, by decide +kernel⟩
theorem pfX6_69 : mFN RX6 69 6 32 (.array .int) := ⟨RX6, TX6, 53, tyX6, rfl, by decide, iX6, mTB_t 827 (by decide +kernel) (by decide +kernel), tyX6_ok, nmX6, rfl, by decide +kernel, by decide +kernel⟩
theorem pfX6_72 : mFN RX6 72 6 33 (.array .int) := ⟨RX6, TX6, 53, tyX6, rfl, by decide, iX6, mTB_t 828 (by decide +kernel) (by decide +kernel), tyX6_ok, nmX6, rfl, by decide +kernel, by decide +kernel⟩
theorem pfX6_75 : mFN RX6 75 6 34 (.array .int) := ⟨RX6, TX6, 53, tyX6, rfl, by decide, iX6, mTB_t 829 (by decide +kernel) (by decide +kernel), tyX6_ok, nmX6, rfl, by decide +kernel, by decide +kernel⟩
theorem pfX6_78 : mFN RX6 78 6 35 (.array .int) := ⟨RX6, TX6, 53, tyX6, rfl, by decide, iX6, mTB_t 830 (by decide +kernel) (by decide +kernel), tyX6_ok, nmX6, rfl, by decide +kernel, by decide +kernel⟩
theorem pfX6_81 : mFN RX6 81 6 36 (.array .int) := ⟨RX6, TX6, 53, tyX6, rfl, by decide, iX6, mTB_t 831 (by decide +kernel) (by decide +kernel), tyX6_ok, nmX6, rfl, by decide +kernel, by decide +kernel⟩
theorem pfX6_84 : mFN RX6 84 6 37 (.array .int) := ⟨RX6, TX6, 53, tyX6, rfl, by decide, iX6, mTB_t 832 (by decide +kernel) (by decide +kernel), tyX6_ok, nmX6, rfl, by decide +kernel, by decide +kernel⟩
theorem pfX6_87 : mFN RX6 87 6 38 (.array .int) := ⟨RX6, TX6, 53, tyX6, rfl, by decide, iX6, mTB_t 833 (by decide +kernel) (by decide +kernel), tyX6_ok, nmX6, rfl, by decide +kernel, by decide +kernel⟩
theorem pfX6_90 : mFN RX6 90 6 43 (.array .int) := ⟨RX6, TX6, 53, tyX6, rfl, by decide, iX6, mTB_t 838 (by decide +kernel) (by decide +kernel), tyX6_ok, nmX6, rfl, by decide +kernel, by decide +kernel⟩
theorem pfX6_93 : mFN RX6 93 6 44 (.array .int) := ⟨RX6, TX6, 53, tyX6, rfl, by decide, iX6, mTB_t 839 (by decide +kernel) (by decide +kernel), tyX6_ok, nmX6, rfl, by decide +kernel, by decide +kernel⟩
theorem pfX6_96 : mFN RX6 96 6 45 (.array .int) := ⟨RX6, TX6, 53, tyX6, rfl, by decide, iX6, mTB_t 840 (by decide +kernel) (by decide +kernel), tyX6_ok, nmX6, rfl, by decide +kernel, by decide +kernel⟩
theorem pfX6_99 : mFN RX6 99 6 46 (.array .int) := ⟨RX6, TX6, 53, tyX6, rfl, by decide, iX6, mTB_t 841 (by decide +kernel) (by decide +kernel), tyX6_ok, nmX6, rfl, by decide +kernel, by decide +kernel⟩
theorem pfX6_102 : mFN RX6 102 6 47 (.array .int) := ⟨RX6, TX6, 53, tyX6, rfl, by decide, iX6, mTB_t 842 (by decide +kernel) (by decide +kernel), tyX6_ok, nmX6, rfl, by decide +kernel, by decide +kernel⟩
theorem pfX6_105 : mFN RX6 105 6 48 (.array .int) := ⟨RX6, TX6, 53, tyX6, rfl, by decide, iX6, mTB_t 843 (by decide +kernel) (by decide +kernel), tyX6_ok, nmX6, rfl, by decide +kernel, by decide +kernel⟩
theorem pfX6_108 : mFN RX6 108 6 49 (.array .int) := ⟨RX6, TX6, 53, tyX6, rfl, by decide, iX6, mTB_t 844 (by decide +kernel) (by decide +kernel), tyX6_ok, nmX6, rfl, by decide +kernel, by decide +kernel⟩
theorem pfX6_111 : mFN RX6 111 6 50 (.array .int) := ⟨RX6, TX6, 53, tyX6, rfl, by decide, iX6, mTB_t 845 (by decide +kernel) (by decide +kernel), tyX6_ok, nmX6, rfl, by decide +kernel, by decide +kernel⟩
theorem pfX6_114 : mFN RX6 114 6 51 (.array .long) := ⟨RX6, TX6, 53, tyX6, rfl, by decide, iX6, mTB_t 846 (by decide +kernel) (by decide +kernel), tyX6_ok, nmX6, rfl, by decide +kernel, by decide +kernel⟩
theorem nwL_8 : mNw RL 8 5 fz5 := ⟨RX5, TX5, 12, tyX5, rfl, rfl, iX5, tyX5_ok, mTB_t 18 (by decide +kernel) (by decide +kernel), mTB_t 19 (by decide +kernel) (by decide +kernel), mTB_t 1 (by decide +kernel) (by decide +kernel), fun j hj => match j, hj with | 0, _ => rfl | 1, _ => rfl | 2, _ => rfl | 3, _ => rfl | 4, _ => rfl | 5, _ => rfl | 6, _ => rfl | 7, _ => rfl | 8, _ => rfl | 9, _ => rfl | 10, _ => rfl | 11, _ => rfl | n + 12, h => absurd h (by omega)⟩
theorem icL_74 : mLI RL 74 mX5_init := ⟨⟨mTB_t 20 (by decide +kernel) (by decide +kernel), mTB_t 1 (by decide +kernel) (by decide +kernel), mTB_t 22 (by decide +kernel) (by decide +kernel), ⟨by decide +kernel, by decide +kernel, by decide +kernel⟩⟩, mTB_t 21 (by decide +kernel) (by decide +kernel), by decide +kernel, rfl⟩
theorem nwL_75 : mNw RL 75 6 fz6 := ⟨RX6, TX6, 53, tyX6, rfl, rfl, iX6, tyX6_ok, mTB_t 789 (by decide +kernel) (by decide +kernel), mTB_t 790 (by decide +kernel) (by decide +kernel), mTB_t 7 (by decide +kernel) (by decide +kernel), fun j hj => match j, hj with | 0, _ => rfl | 1, _ => rfl | 2, _ => rfl | 3, _ => rfl | 4, _ => rfl | 5, _ => rfl | 6, _ => rfl | 7, _ => rfl | 8, _ => rfl | 9, _ => rfl | 10, _ => rfl | 11, _ => rfl | 12, _ => rfl | 13, _ => rfl | 14, _ => rfl | 15, _ => rfl | 16, _ => rfl | 17, _ => rfl | 18, _ => rfl | 19, _ => rfl | 20, _ => rfl | 21, _ => rfl | 22, _ => rfl | 23, _ => rfl | 24, _ => rfl | 25, _ => rfl | 26, _ => rfl | 27, _ => rfl | 28, _ => rfl | 29, _ => rfl | 30, _ => rfl | 31, _ => rfl | 32, _ => rfl | 33, _ => rfl | 34, _ => rfl | 35, _ => rfl | 36, _ => rfl | 37, _ => rfl | 38, _ => rfl | 39, _ => rfl | 40, _ => rfl | 41, _ => rfl | 42, _ => rfl | 43, _ => rfl | 44, _ => rfl | 45, _ => rfl | 46, _ => rfl | 47, _ => rfl | 48, _ => rfl | 49, _ => rfl | 50, _ => rfl | 51, _ => rfl | 52, _ => rfl | n + 53, h => absurd h (by omega)⟩
theorem icL_77 : mLI RL 77 mX6_init := ⟨⟨mTB_t 791 (by decide +kernel) (by decide +kernel), mTB_t 7 (by decide +kernel) (by decide +kernel), mTB_t 793 (by decide +kernel) (by decide +kernel), ⟨by decide +kernel, by decide +kernel, by decide +kernel⟩⟩, mTB_t 792 (by decide +kernel) (by decide +kernel), by decide +kernel, rfl⟩
theorem ac_int : Cond.arrayClass .int ∈ mTB := mTB_t 80 (by decide +kernel) (by decide +kernel)
theorem ac_boolean : Cond.arrayClass .boolean ∈ mTB := mTB_t 81 (by decide +kernel) (by decide +kernel)
theorem ac_long : Cond.arrayClass .long ∈ mTB := mTB_t 955 (by decide +kernel) (by decide +kernel)
theorem ac_double : Cond.arrayClass .double ∈ mTB := mTB_t 1231 (by decide +kernel) (by decide +kernel)
