theorem mJ_dconst0 {K : mK} {μ : mM} {cells slots pc : Nat} {L : List (Option Value)} {S : List Value} {h : mH}  (hK : mCx K μ) (hd : decode μ.2.1 pc = .ok (.dconst 0, 1))  (k : mJ K cells slots (pc + 1) L (.double FP.dconst0 :: S) h) : mJ K cells slots pc L (S) h := fun H locs ls hH hS hL => lv_dconst0 hK.1 hK.2.1 hd  (k H locs ls hH hS hL)
theorem mJ_fconst0 {K : mK} {μ : mM} {cells slots pc : Nat} {L : List (Option Value)} {S : List Value} {h : mH}  (hK : mCx K μ) (hd : decode μ.2.1 pc = .ok (.fconst 0, 1))  (k : mJ K cells slots (pc + 1) L (.float FP.fconst0 :: S) h) : mJ K cells slots pc L (S) h := fun H locs ls hH hS hL => lv_fconst0 hK.1 hK.2.1 hd  (k H locs ls hH hS hL)
theorem mJ_l2d {K : mK} {μ : mM} {cells slots pc : Nat} {L : List (Option Value)} {S : List Value} {h : mH} {x : Int64} (hK : mCx K μ) (hd : decode μ.2.1 pc = .ok (.l2d, 1))  (k : mJ K cells slots (pc + 1) L (.double (FP.l2d x) :: S) h) : mJ K cells slots pc L (.long x :: S) h := fun H locs ls hH hS hL => lv_l2d hK.1 hK.2.1 hd  (k H locs ls hH hS hL)
theorem mJ_i2d {K : mK} {μ : mM} {cells slots pc : Nat} {L : List (Option Value)} {S : List Value} {h : mH} {x : Int32} (hK : mCx K μ) (hd : decode μ.2.1 pc = .ok (.i2d, 1))  (k : mJ K cells slots (pc + 1) L (.double (FP.i2d x) :: S) h) : mJ K cells slots pc L (.int x :: S) h := fun H locs ls hH hS hL => lv_i2d hK.1 hK.2.1 hd  (k H locs ls hH hS hL)
theorem mJ_i2f {K : mK} {μ : mM} {cells slots pc : Nat} {L : List (Option Value)} {S : List Value} {h : mH} {x : Int32} (hK : mCx K μ) (hd : decode μ.2.1 pc = .ok (.i2f, 1))  (k : mJ K cells slots (pc + 1) L (.float (FP.i2f x) :: S) h) : mJ K cells slots pc L (.int x :: S) h := fun H locs ls hH hS hL => lv_i2f hK.1 hK.2.1 hd  (k H locs ls hH hS hL)
theorem mJ_ddiv {K : mK} {μ : mM} {cells slots pc : Nat} {L : List (Option Value)} {S : List Value} {h : mH} {x y : UInt64} (hK : mCx K μ) (hd : decode μ.2.1 pc = .ok (.ddiv, 1)) (hne : vf_n64 (FP.ddiv x y)) (k : mJ K cells slots (pc + 1) L (.double (FP.ddiv x y) :: S) h) : mJ K cells slots pc L (.double y :: .double x :: S) h := fun H locs ls hH hS hL => lv_ddiv hK.1 hK.2.1 hd hne (k H locs ls hH hS hL)
theorem mJ_fdiv {K : mK} {μ : mM} {cells slots pc : Nat} {L : List (Option Value)} {S : List Value} {h : mH} {x y : UInt32} (hK : mCx K μ) (hd : decode μ.2.1 pc = .ok (.fdiv, 1)) (hne : vf_n32 (FP.fdiv x y)) (k : mJ K cells slots (pc + 1) L (.float (FP.fdiv x y) :: S) h) : mJ K cells slots pc L (.float y :: .float x :: S) h := fun H locs ls hH hS hL => lv_fdiv hK.1 hK.2.1 hd hne (k H locs ls hH hS hL)
theorem mJ_f2d {K : mK} {μ : mM} {cells slots pc : Nat} {L : List (Option Value)} {S : List Value} {h : mH} {x : UInt32} (hK : mCx K μ) (hd : decode μ.2.1 pc = .ok (.f2d, 1)) (hne : vf_n64 (FP.f2d x)) (k : mJ K cells slots (pc + 1) L (.double (FP.f2d x) :: S) h) : mJ K cells slots pc L (.float x :: S) h := fun H locs ls hH hS hL => lv_f2d hK.1 hK.2.1 hd hne (k H locs ls hH hS hL)
theorem mJ_dcmp {K : mK} {μ : mM} {cells slots pc : Nat} {L : List (Option Value)} {S : List Value} {h : mH} {x y : UInt64} {op : CmpOp} (hK : mCx K μ) (hd : decode μ.2.1 pc = .ok (.dcmp op, 1))  (k : mJ K cells slots (pc + 1) L (.int (Op.cmpValue (FP.dcmp x y) op) :: S) h) : mJ K cells slots pc L (.double y :: .double x :: S) h := fun H locs ls hH hS hL => lv_dcmp hK.1 hK.2.1 hd  (k H locs ls hH hS hL)
theorem mJ_dload_n {K : mK} {μ : mM} {cells slots pc : Nat} {L : List (Option Value)} {S : List Value} {h : mH} {k : Fin 4} {x : UInt64} (hK : mCx K μ) (hd : decode μ.2.1 pc = .ok (.dload_n k, 1)) (hl : L[(k : Nat)]? = some (some (.double x))) (k : mJ K cells slots (pc + 1) L (.double x :: S) h) : mJ K cells slots pc L (S) h := fun H locs ls hH hS hL => lv_dload_n hK.1 hK.2.1 hd rfl (hL.at hl) (k H locs ls hH hS hL)
theorem mJ_dload {K : mK} {μ : mM} {cells slots pc : Nat} {L : List (Option Value)} {S : List Value} {h : mH} {i : Nat} {x : UInt64} (hK : mCx K μ) (hd : decode μ.2.1 pc = .ok (.dload i, 2)) (hl : L[i]? = some (some (.double x))) (k : mJ K cells slots (pc + 2) L (.double x :: S) h) : mJ K cells slots pc L (S) h := fun H locs ls hH hS hL => lv_dload hK.1 hK.2.1 hd (hL.at hl) (k H locs ls hH hS hL)
theorem mJ_fload_n {K : mK} {μ : mM} {cells slots pc : Nat} {L : List (Option Value)} {S : List Value} {h : mH} {k : Fin 4} {x : UInt32} (hK : mCx K μ) (hd : decode μ.2.1 pc = .ok (.fload_n k, 1)) (hl : L[(k : Nat)]? = some (some (.float x))) (k : mJ K cells slots (pc + 1) L (.float x :: S) h) : mJ K cells slots pc L (S) h := fun H locs ls hH hS hL => lv_fload_n hK.1 hK.2.1 hd rfl (hL.at hl) (k H locs ls hH hS hL)
theorem mJ_fload {K : mK} {μ : mM} {cells slots pc : Nat} {L : List (Option Value)} {S : List Value} {h : mH} {i : Nat} {x : UInt32} (hK : mCx K μ) (hd : decode μ.2.1 pc = .ok (.fload i, 2)) (hl : L[i]? = some (some (.float x))) (k : mJ K cells slots (pc + 2) L (.float x :: S) h) : mJ K cells slots pc L (S) h := fun H locs ls hH hS hL => lv_fload hK.1 hK.2.1 hd (hL.at hl) (k H locs ls hH hS hL)
theorem mJ_fstore {K : mK} {μ : mM} {cells slots pc : Nat} {L : List (Option Value)} {S : List Value} {h : mH} {i : Nat} {x : UInt32} (hK : mCx K μ) (hd : decode μ.2.1 pc = .ok (.fstore i, 2)) (hn : i < μ.2.2.1) (ho : mOk L i = true) (kk : mJ K cells slots (pc + 2) (L.set i (some (.float x))) S h) : mJ K cells slots pc L (.float x :: S) h := fun H locs ls hH hS hL => lv_fstore hK.1 hK.2.1 hd hL (by rw [hK.2.2.1]; exact hn) rfl (fun ls9 hl9 => kk H locs ls9 hH hS (mSt1 ho hl9))
theorem mJ_dstore {K : mK} {μ : mM} {cells slots pc : Nat} {L : List (Option Value)} {S : List Value} {h : mH} {i : Nat} {x : UInt64} (hK : mCx K μ) (hd : decode μ.2.1 pc = .ok (.dstore i, 2)) (hn : i + 1 < μ.2.2.1) (ho : mOk L i = true) (kk : mJ K cells slots (pc + 2) ((L.set i (some (.double x))).set (i + 1) none) S h) : mJ K cells slots pc L (.double x :: S) h := fun H locs ls hH hS hL => lv_dstore hK.1 hK.2.1 hd hL (by rw [hK.2.2.1]; exact hn) rfl (fun ls9 hl9 => kk H locs ls9 hH hS (mSt2 ho hl9))
theorem mJ_dret {K : mK} {μ : mM} {cells slots pc : Nat} {L : List (Option Value)} {h : mH} {Q : Option Value → mH → Prop} {v : UInt64} (hK : mCx K μ) (hd : decode μ.2.1 pc = .ok (.dreturn, 1)) (hr : μ.2.2.2.1 = some .double) (hZ : mRt K μ Q) (hc : cells ≤ (mRm μ).cells) (hs9 : slots ≤ (mRm μ).slots) (hq : Q (some (.double v)) h) : mJ K cells slots pc L [.double v] h := by
  intro H locs ls hH hS hL
  refine mW_mono hZ (W.widen hc hs9 ?_)
  exact W.dret hK.1 hK.2.1 (hK.2.2.2.1.trans hr) (fun t ht hW => ⟨_, h, rfl, hq, by rw [ht]; exact hH, hS.F ht⟩) hS.2.2 hd hK.2.2.2.2.2.2.1
theorem mJ_fret {K : mK} {μ : mM} {cells slots pc : Nat} {L : List (Option Value)} {h : mH} {Q : Option Value → mH → Prop} {v : UInt32} (hK : mCx K μ) (hd : decode μ.2.1 pc = .ok (.freturn, 1)) (hr : μ.2.2.2.1 = some .float) (hZ : mRt K μ Q) (hc : cells ≤ (mRm μ).cells) (hs9 : slots ≤ (mRm μ).slots) (hq : Q (some (.float v)) h) : mJ K cells slots pc L [.float v] h := by
  intro H locs ls hH hS hL
  refine mW_mono hZ (W.widen hc hs9 ?_)
  exact W.fret hK.1 hK.2.1 (hK.2.2.2.1.trans hr) (fun t ht hW => ⟨_, h, rfl, hq, by rw [ht]; exact hH, hS.F ht⟩) hS.2.2 hd hK.2.2.2.2.2.2.1
def mRd (x : UInt64) (P : mH → Prop) : Option Value → mH → Prop := fun r h' => r = some (.double x) ∧ P h'
def mRf (x : UInt32) (P : mH → Prop) : Option Value → mH → Prop := fun r h' => r = some (.float x) ∧ P h'
/-! ===== arrays of doubles: kind 5 ===== -/
theorem mJ_dald {K : mK} {μ : mM} {cells slots pc : Nat} {L : List (Option Value)} {S : List Value} {h : mH} {a n : Nat} {f : Nat → UInt64} {i : Int32} (j : Nat) (hNo : mNo (kD K) (kC K) (ks K)) (hK : mCx K μ) (hd : decode μ.2.1 pc = .ok (.daload, 1)) (ha : h a = some (.inl (5, n, .inr (.inr (.inr (.inl f)))))) (hi : i = nI j) (hj : j < n) (hn : n < 2 ^ 31) (kk : mJ K cells slots (pc + 1) L (.double (f j) :: S) h) : mJ K cells slots pc L (.int i :: .ref a :: S) h := by
  intro H locs ls hH hS hL
  obtain ⟨ws, hP, hD, hs⟩ := id hH
  obtain ⟨q, hq⟩ := hs a _ ha
  subst hi
  refine va_dald hK.1 hK.2.1 hNo.2.2.2 hP q 0 hq rfl (nI_in hj hn) hd ?_
  rw [nI_clamp (by omega)]
  exact kk H locs ls hH hS hL
theorem mJ_dast {K : mK} {μ : mM} {cells slots pc : Nat} {L : List (Option Value)} {S : List Value} {h : mH} {a n : Nat} {f : Nat → UInt64} {i : Int32} {x : UInt64} (j : Nat) (hNo : mNo (kD K) (kC K) (ks K)) (hK : mCx K μ) (hd : decode μ.2.1 pc = .ok (.dastore, 1)) (ha : h a = some (.inl (5, n, .inr (.inr (.inr (.inl f)))))) (hi : i = nI j) (hj : j < n) (hn : n < 2 ^ 31) (kk : mJ K cells slots (pc + 1) L S (mset h a (.inl (5, n, .inr (.inr (.inr (.inl (vf_upd f j x)))))))) : mJ K cells slots pc L (.double x :: .int i :: .ref a :: S) h := by
  intro H locs ls hH hS hL
  obtain ⟨ws, hP, hD, hs⟩ := id hH
  obtain ⟨q, hq⟩ := hs a _ ha
  subst hi
  refine va_dast hK.1 hK.2.1 hNo.2.2.2 hP hD hS q 0 hq rfl (nI_in hj hn) hd (fun H1 locs1 hP1 hD1 hS1 => ?_)
  rw [nI_clamp (by omega)] at hP1 hD1
  exact kk H1 locs1 ls ⟨_, hP1, hD1, hs.set (e := .inl (5, n, .inr (.inr (.inr (.inl (vf_upd f j x)))))) hq⟩ hS1 hL
/-! ===== no NaN ===== -/
theorem n64_of {x : UInt64} (h : Jvm.FP.Core.dIsNaN x = false) : vf_n64 x := by
  rw [← Bool.not_eq_true, Jvm.FP.Core.isNaN_bits] at h
  unfold vf_n64
  rw [UInt64.le_iff_toNat_le, UInt64.toNat_and]
  have h1 : (0x7fffffffffffffff : UInt64).toNat = 2 ^ 63 - 1 := by decide
  have h2 : (0x7ff0000000000000 : UInt64).toNat = 9218868437227405312 := by decide
  rw [h1, h2, Nat.and_two_pow_sub_one_eq_mod]
  omega
theorem n32_of {x : UInt32} (h : Jvm.FP.Core.fIsNaN x = false) : vf_n32 x := by
  rw [← Bool.not_eq_true, Jvm.FP.Core.isNaN_bits32] at h
  unfold vf_n32
  rw [UInt32.le_iff_toNat_le, UInt32.toNat_and]
  have h1 : (0x7fffffff : UInt32).toNat = 2 ^ 31 - 1 := by decide
  have h2 : (0x7f800000 : UInt32).toNat = 2139095040 := by decide
  rw [h1, h2, Nat.and_two_pow_sub_one_eq_mod]
  omega
theorem dv_n {w : Int64} {n : Int32} (h : ¬ n = 0) : Jvm.FP.Core.dIsNaN (FP.ddiv (FP.l2d w) (FP.i2d n)) = false :=
  Jvm.FP.Core.ddiv_out (Jvm.FP.Core.l2d_fin w).notNaN (Jvm.FP.Core.i2d_fin n) (fun z => Jvm.FP.Core.i2d_ne_zero h ((Jvm.FP.Core.zero_bits2 _).mp z))
theorem fv_n {m n : Int32} (h : ¬ n = 0) : Jvm.FP.Core.fIsNaN (FP.fdiv (FP.i2f m) (FP.i2f n)) = false :=
  Jvm.FP.Core.fdiv_out (Jvm.FP.Core.i2f_fin m).notNaN (Jvm.FP.Core.i2f_fin n) (fun z => Jvm.FP.Core.i2f_ne_zero h ((Jvm.FP.Core.zero_bits232 _).mp z))
def mwV (n : Int32) (w : Int64) : UInt64 := if n = 0 then FP.dconst0 else FP.ddiv (FP.l2d w) (FP.i2d n)
def shV (m n : Int32) : UInt32 := if n = 0 then FP.fconst0 else FP.fdiv (FP.i2f m) (FP.i2f n)
theorem mwV_n {n : Int32} {w : Int64} : Jvm.FP.Core.dIsNaN (mwV n w) = false := by
  unfold mwV
  split
  · decide +kernel
  · rename_i h
    exact dv_n h
theorem shV_n {m n : Int32} : Jvm.FP.Core.fIsNaN (shV m n) = false := by
  unfold shV
  split
  · decide +kernel
  · rename_i h
    exact fv_n h
theorem f2d_n {x : UInt32} (h : Jvm.FP.Core.fIsNaN x = false) : Jvm.FP.Core.dIsNaN (FP.f2d x) = false := by
  rw [show Jvm.FP.Core.dIsNaN (FP.f2d x) = Jvm.FP.Core.fIsNaN x from Jvm.FP.f2d_nan x]
  exact h
theorem dc_self {x : UInt64} (h : Jvm.FP.Core.dIsNaN x = false) {op : CmpOp} : Op.cmpValue (FP.dcmp x x) op = 0 := by
  rw [show FP.dcmp x x = some .eq from Jvm.FP.Core.dcmp_self ((Jvm.FP.Core.notNaN_iff x).mp h)]
  cases op <;> rfl
set_option maxRecDepth 100000 in
set_option maxHeartbeats 4000000 in
theorem k_X5_meanWait {l : Launch} {D : va_G} {aC : Nat → ClassId} {ad : xAd} {h0 h : mH} {F : xFm} {W : xWm} {pm : Nat → Nat} (hR : xR xV ad h0 F W pm h) {c : Nat} (hc : c < 8) : mCon l D aC mX5_meanWait [.ref (ad 0 0 0), .int (nI c)] h (mRd (mwV (F 13 0 c 4) (W 13 0 c 0)) (fun h' => h' = h)) := by
  refine mCon.of [some (.ref (ad 0 0 0)), some (.int (nI c)), none] (by decide +kernel) rfl (Nat.le_of_ble_eq_true rfl) ?_
  intro K el eD eC hK hZ
  subst el eD eC
  refine mJ_iload_n hK dX5_meanWait_0 rfl ?_
  refine mJ_cSv hK dX5_meanWait_1 lX5_103 (by unfold mFit; decide) (by decide) (k_X5_requireChannel hc) rfl rfl (Nat.le_of_ble_eq_true rfl) (fun h e9 => ?_)
  subst e9
  refine mJ_aload_n hK dX5_meanWait_4 rfl ?_
  refine xJ_getr hR hK dX5_meanWait_5 fX5_29 (by unfold xV; omega) (fun _ _ => rfl) (by decide) (fun _ _ => rfl) ?_
  refine xJ_getr hR hK dX5_meanWait_8 fX5_108 (by unfold xV; omega) (fun _ _ => rfl) (by decide) (fun _ _ => rfl) ?_
  refine mJ_iload_n hK dX5_meanWait_11 rfl ?_
  refine xJ_aldC c hR hK dX5_meanWait_12 (by unfold xV; omega) rfl (by omega) ?_
  refine mJ_astore_n hK dX5_meanWait_13 (by decide) rfl ?_
  refine mJ_aload_n hK dX5_meanWait_14 rfl ?_
  refine xJ_geti hR hK dX5_meanWait_15 fX5_199 (by unfold xV; omega) (fun _ _ => rfl) (by decide) rfl ?_
  refine mJ_if_ne (tgt := 23) hK dX5_meanWait_18 (by decide) (fun c_18 => ?_) (fun c_18 => ?_)
  · refine mJ_aload_n hK dX5_meanWait_23 rfl ?_
    refine xJ_getl hR hK dX5_meanWait_24 fX5_202 (by unfold xV; omega) (fun _ _ => rfl) (by decide) (fun _ _ => rfl) ?_
    refine mJ_l2d hK dX5_meanWait_27 ?_
    refine mJ_aload_n hK dX5_meanWait_28 rfl ?_
    refine xJ_geti hR hK dX5_meanWait_29 fX5_199 (by unfold xV; omega) (fun _ _ => rfl) (by decide) rfl ?_
    refine mJ_i2d hK dX5_meanWait_32 ?_
    refine mJ_ddiv hK dX5_meanWait_33 (n64_of (dv_n c_18)) ?_
    refine mJ_dret hK dX5_meanWait_34 rfl hZ (by decide) (by decide) ?_
    exact ⟨congrArg (fun z9 => some (Value.double z9)) (by unfold mwV; first | rw [if_pos c_18] | rw [if_neg c_18]), rfl⟩
  · refine mJ_dconst0 hK dX5_meanWait_21 ?_
    refine mJ_dret hK dX5_meanWait_22 rfl hZ (by decide) (by decide) ?_
    exact ⟨congrArg (fun z9 => some (Value.double z9)) (by unfold mwV; first | rw [if_pos c_18] | rw [if_neg c_18]), rfl⟩

set_option maxRecDepth 100000 in
set_option maxHeartbeats 4000000 in
theorem k_X5_meanWait_x {l : Launch} {D : va_G} {aC : Nat → ClassId} {ad : xAd} {h0 h : mH} {F : xFm} {W : xWm} {pm : Nat → Nat} (hR : xR xV ad h0 F W pm h) {x : Int32} (hx : ¬ (0 ≤ x ∧ x < nI 8)) : mXon l D aC mX5_meanWait [.ref (ad 0 0 0), .int x] h (fun _ _ => False) (fun E h' => E = "java/lang/IndexOutOfBoundsException" ∧ h' = h) := by
  refine mXon.of [some (.ref (ad 0 0 0)), some (.int x), none] (by decide +kernel) rfl (Nat.le_of_ble_eq_true rfl) ?_
  intro K el eD eC hK hZ hX
  subst el eD eC
  refine mJ_iload_n hK dX5_meanWait_0 rfl ?_
  exact mJ_xS hK hX dX5_meanWait_1 lX5_103 (by unfold mFit; decide) (by decide) (k_X5_requireChannel_x hx) (fun _ _ z => z) rfl rfl (Nat.le_of_ble_eq_true rfl)

set_option maxRecDepth 100000 in
set_option maxHeartbeats 4000000 in
theorem lp_X5_shareOf {K : mK} (hK : mCx K mX5_shareOf) {ad : xAd} {h0 : mH} {F : xFm} {W : xWm} {pm : Nat → Nat} {rn : Nat} (hrn : F 0 0 0 4 = nI rn) (hrn8 : rn ≤ 8) {i : Nat} (hi : i < rn) {h9 : mH} (hZ : mRt K mX5_shareOf (mRf (shV (F 12 0 0 i) (msm (F 12 0 0) rn)) (fun h' => h' = h9))) : ∀ (fu : Nat) (e : Nat) (h : mH), rn - e < fu → (e ≤ rn) → (h = h9) → (xR xV ad h0 F W pm h) → mJ K (0 + 1) (0 + 6) 9 [some (.ref (ad 0 0 0)), some (.int (nI i)), some (.int (msm (F 12 0 0) e)), some (.int (nI e))] [] h := by
  intro fu
  induction fu with
  | zero =>
    intro e h hm0
    exact absurd hm0 (by omega)
  | succ fu ih =>
    intro e h hm0 he eh hR
    refine mJ_iload_n hK dX5_shareOf_9 rfl ?_
    refine mJ_aload_n hK dX5_shareOf_10 rfl ?_
    refine xJ_getx (nI rn) hR hK dX5_shareOf_11 fX5_72 (by unfold xV; omega) (fun _ _ => rfl) (by decide) rfl (by first | exact hrn | (simp [fr, upd]; exact hrn)) ?_
    refine mJ_nge (tgt := 35) hK dX5_shareOf_14 (by decide) (by omega) (by omega) (fun c_14 => ?_) (fun c_14 => ?_)
    · refine mJ_iload_n hK dX5_shareOf_35 rfl ?_
      refine mJ_if_ne (tgt := 41) hK dX5_shareOf_36 (by decide) (fun c_36 => ?_) (fun c_36 => ?_)
      · refine mJ_aload_n hK dX5_shareOf_41 rfl ?_
        refine xJ_getr hR hK dX5_shareOf_42 fX5_29 (by unfold xV; omega) (fun _ _ => rfl) (by decide) (fun _ _ => rfl) ?_
        refine xJ_getr hR hK dX5_shareOf_45 fX5_81 (by unfold xV; omega) (fun _ _ => rfl) (by decide) (fun _ _ => rfl) ?_
        refine mJ_iload_n hK dX5_shareOf_48 rfl ?_
        refine xJ_iald i hR hK dX5_shareOf_49 (by unfold xV; omega) (fun _ _ => rfl) rfl (by omega) (by decide) ?_
        refine mJ_i2f hK dX5_shareOf_50 ?_
        refine mJ_iload_n hK dX5_shareOf_51 rfl ?_
        refine mJ_i2f hK dX5_shareOf_52 ?_
        refine mJ_fdiv hK dX5_shareOf_53 (n32_of (fv_n c_36)) ?_
        refine mJ_fret hK dX5_shareOf_54 rfl hZ (by decide) (by decide) ?_
        have : e = rn := by omega
        subst this
        exact ⟨congrArg (fun z9 => some (Value.float z9)) (by unfold shV; first | rw [if_pos c_36] | rw [if_neg c_36]), eh⟩
      · refine mJ_fconst0 hK dX5_shareOf_39 ?_
        refine mJ_fret hK dX5_shareOf_40 rfl hZ (by decide) (by decide) ?_
        have : e = rn := by omega
        subst this
        exact ⟨congrArg (fun z9 => some (Value.float z9)) (by unfold shV; first | rw [if_pos c_36] | rw [if_neg c_36]), eh⟩
    · refine mJ_iload_n hK dX5_shareOf_17 rfl ?_
      refine mJ_aload_n hK dX5_shareOf_18 rfl ?_
      refine xJ_getr hR hK dX5_shareOf_19 fX5_29 (by unfold xV; omega) (fun _ _ => rfl) (by decide) (fun _ _ => rfl) ?_
      refine xJ_getr hR hK dX5_shareOf_22 fX5_81 (by unfold xV; omega) (fun _ _ => rfl) (by decide) (fun _ _ => rfl) ?_
      refine mJ_iload_n hK dX5_shareOf_25 rfl ?_
      refine xJ_iald e hR hK dX5_shareOf_26 (by unfold xV; omega) (fun _ _ => rfl) rfl (by omega) (by decide) ?_
      refine mJ_iadd hK dX5_shareOf_27 ?_
      refine mJ_istore_n hK dX5_shareOf_28 (by decide) rfl ?_
      refine mJ_iincN hK dX5_shareOf_29 rfl rfl (by decide) rfl ?_
      refine mJ_goto (tgt := 9) hK dX5_shareOf_32 (by decide) ?_
      exact ih (e + 1) _ (by omega) (by omega) eh hR

set_option maxRecDepth 100000 in
set_option maxHeartbeats 4000000 in
theorem k_X5_shareOf {l : Launch} {D : va_G} {aC : Nat → ClassId} {ad : xAd} {h0 h : mH} {F : xFm} {W : xWm} {pm : Nat → Nat} (hR : xR xV ad h0 F W pm h) {rn : Nat} (hrn : F 0 0 0 4 = nI rn) (hrn8 : rn ≤ 8) {i : Nat} (hi : i < rn) : mCon l D aC mX5_shareOf [.ref (ad 0 0 0), .int (nI i)] h (mRf (shV (F 12 0 0 i) (msm (F 12 0 0) rn)) (fun h' => h' = h)) := by
  refine mCon.of [some (.ref (ad 0 0 0)), some (.int (nI i)), none, none] (by decide +kernel) rfl (Nat.le_of_ble_eq_true rfl) ?_
  intro K el eD eC hK hZ
  subst el eD eC
  refine mJ_aload_n hK dX5_shareOf_0 rfl ?_
  refine mJ_iload_n hK dX5_shareOf_1 rfl ?_
  refine mJ_cVv hK dX5_shareOf_2 lX5_88 (by unfold mFit; decide) (by decide) (k_X5_requireRule hR hrn hrn8 hi) rfl rfl (Nat.le_of_ble_eq_true rfl) (hR.1 _ _ _ (by unfold xV; omega)) ⟨_, _, rfl⟩ (fun h e9 => ?_)
  subst e9
  refine mJ_iconst (v := nI 0) hK dX5_shareOf_5 (by decide) ?_
  refine mJ_istore_n hK dX5_shareOf_6 (by decide) rfl ?_
  refine mJ_iconst (v := nI 0) hK dX5_shareOf_7 (by decide) ?_
  refine mJ_istore_n hK dX5_shareOf_8 (by decide) rfl ?_
  exact lp_X5_shareOf hK hrn hrn8 hi hZ (rn + 1) 0 _ (by omega) (by omega) rfl hR

set_option maxRecDepth 100000 in
set_option maxHeartbeats 4000000 in
theorem k_X5_shareOf_x {l : Launch} {D : va_G} {aC : Nat → ClassId} {ad : xAd} {h0 h : mH} {F : xFm} {W : xWm} {pm : Nat → Nat} (hR : xR xV ad h0 F W pm h) {rn : Nat} (hrn : F 0 0 0 4 = nI rn) (hrn8 : rn ≤ 8) {x : Int32} (hx : ¬ (0 ≤ x ∧ x < nI rn)) : mXon l D aC mX5_shareOf [.ref (ad 0 0 0), .int x] h (fun _ _ => False) (fun E h' => E = "java/lang/IndexOutOfBoundsException" ∧ h' = h) := by
  refine mXon.of [some (.ref (ad 0 0 0)), some (.int x), none, none] (by decide +kernel) rfl (Nat.le_of_ble_eq_true rfl) ?_
  intro K el eD eC hK hZ hX
  subst el eD eC
  refine mJ_aload_n hK dX5_shareOf_0 rfl ?_
  refine mJ_iload_n hK dX5_shareOf_1 rfl ?_
  exact mJ_xV hK hX dX5_shareOf_2 lX5_88 (by unfold mFit; decide) (by decide) (k_X5_requireRule_x hR hrn hrn8 hx) (fun _ _ z => z) rfl rfl (Nat.le_of_ble_eq_true rfl) (hR.1 _ _ _ (by unfold xV; omega)) ⟨_, _, rfl⟩

set_option maxRecDepth 100000 in
set_option maxHeartbeats 4000000 in
theorem k_X6_meanWait {l : Launch} {D : va_G} {aC : Nat → ClassId} {ad : xAd} {h0 h : mH} {F : xFm} {W : xWm} {pm : Nat → Nat} (hR : xR yV ad h0 F W pm h) {c : Nat} (hc : c < 8) : mCon l D aC mX6_meanWait [.ref (ad 30 0 0), .int (nI c)] h (mRd (mwV (F 52 0 0 c) (W 53 0 0 c)) (fun h' => xR yV ad h0 (tS F (nI 0)) W pm h')) := by
  refine mCon.of [some (.ref (ad 30 0 0)), some (.int (nI c))] (by decide +kernel) rfl (Nat.le_of_ble_eq_true rfl) ?_
  intro K el eD eC hK hZ
  subst el eD eC
  refine mJ_aload_n hK dX6_meanWait_0 rfl ?_
  refine mJ_iload_n hK dX6_meanWait_1 rfl ?_
  refine mJ_cSi hK dX6_meanWait_2 lX6_207 (by unfold mFit; decide) (by decide) (k_X6_isChannelN (by omega)) rfl rfl (Nat.le_of_ble_eq_true rfl) (fun h e9 => ?_)
  subst e9
  refine mJ_ifb_eq (tgt := 12) hK dX6_meanWait_5 (by decide) (fun c_5 => ?_) (fun c_5 => ?_)
  · exact absurd c_5 (by omega)
  · refine mJ_iconst (v := nI 0) hK dX6_meanWait_8 (by decide) ?_
    refine mJ_goto (tgt := 13) hK dX6_meanWait_9 (by decide) ?_
    refine xJ_puti hR hK dX6_meanWait_13 fX6_117 sX6_0 rfl rfl (by unfold yV; omega) (fun _ _ => rfl) (by decide) rfl (fun h hR => ?_)
    refine mJ_aload_n hK dX6_meanWait_16 rfl ?_
    refine xJ_getx (nI 0) hR hK dX6_meanWait_17 fX6_117 (by unfold yV; omega) (fun _ _ => rfl) (by decide) rfl (by simp [fr, upd]) ?_
    refine mJ_nif_gt (tgt := 32) hK dX6_meanWait_20 (by decide) (by omega) (fun c_20 => ?_) (fun c_20 => ?_)
    · exact absurd c_20 (by omega)
    · refine mJ_aload_n hK dX6_meanWait_23 rfl ?_
      refine xJ_getr hR hK dX6_meanWait_24 fX6_59 (by unfold yV; omega) (fun _ _ => rfl) (by decide) (fun _ _ => rfl) ?_
      refine mJ_iload_n hK dX6_meanWait_27 rfl ?_
      refine xJ_iald c hR hK dX6_meanWait_28 (by unfold yV; omega) (fun _ _ => rfl) rfl (by omega) (by decide) ?_
      refine mJ_if_ne (tgt := 36) hK dX6_meanWait_29 (by decide) (fun c_29 => ?_) (fun c_29 => ?_)
      · refine mJ_aload_n hK dX6_meanWait_36 rfl ?_
        refine xJ_getr hR hK dX6_meanWait_37 fX6_62 (by unfold yV; omega) (fun _ _ => rfl) (by decide) (fun _ _ => rfl) ?_
        refine mJ_iload_n hK dX6_meanWait_40 rfl ?_
        refine xJ_lald c hR hK dX6_meanWait_41 (by unfold yV; omega) (fun _ _ => rfl) rfl (by omega) (by decide) ?_
        refine mJ_l2d hK dX6_meanWait_42 ?_
        refine mJ_aload_n hK dX6_meanWait_43 rfl ?_
        refine xJ_getr hR hK dX6_meanWait_44 fX6_59 (by unfold yV; omega) (fun _ _ => rfl) (by decide) (fun _ _ => rfl) ?_
        refine mJ_iload_n hK dX6_meanWait_47 rfl ?_
        refine xJ_iald c hR hK dX6_meanWait_48 (by unfold yV; omega) (fun _ _ => rfl) rfl (by omega) (by decide) ?_
        refine mJ_i2d hK dX6_meanWait_49 ?_
        refine mJ_ddiv hK dX6_meanWait_50 (n64_of (dv_n c_29)) ?_
        refine mJ_dret hK dX6_meanWait_51 rfl hZ (by decide) (by decide) ?_
        exact ⟨congrArg (fun z9 => some (Value.double z9)) (by unfold mwV; first | rw [if_pos (show F 52 0 0 c = 0 from c_29)] | (rw [if_neg (show ¬ F 52 0 0 c = 0 from c_29)]; rfl)), hR⟩
      · refine mJ_dconst0 hK dX6_meanWait_32 ?_
        refine mJ_goto (tgt := 51) hK dX6_meanWait_33 (by decide) ?_
        refine mJ_dret hK dX6_meanWait_51 rfl hZ (by decide) (by decide) ?_
        exact ⟨congrArg (fun z9 => some (Value.double z9)) (by unfold mwV; first | rw [if_pos (show F 52 0 0 c = 0 from c_29)] | (rw [if_neg (show ¬ F 52 0 0 c = 0 from c_29)]; rfl)), hR⟩

set_option maxRecDepth 100000 in
set_option maxHeartbeats 4000000 in
theorem k_X6_meanWait_x {l : Launch} {D : va_G} {aC : Nat → ClassId} {ad : xAd} {h0 h : mH} {F : xFm} {W : xWm} {pm : Nat → Nat} (hR : xR yV ad h0 F W pm h) {x : Int32} (hx : ¬ (0 ≤ x ∧ x < nI 8)) : mCon l D aC mX6_meanWait [.ref (ad 30 0 0), .int x] h (mRd FP.dconst0 (fun h' => xR yV ad h0 (tS F (nI 1)) W pm h')) := by
  refine mCon.of [some (.ref (ad 30 0 0)), some (.int x)] (by decide +kernel) rfl (Nat.le_of_ble_eq_true rfl) ?_
  intro K el eD eC hK hZ
  subst el eD eC
  refine mJ_aload_n hK dX6_meanWait_0 rfl ?_
  refine mJ_iload_n hK dX6_meanWait_1 rfl ?_
  refine mJ_cSi hK dX6_meanWait_2 lX6_207 (by unfold mFit; decide) (by decide) (k_X6_isChannel _) rfl rfl (Nat.le_of_ble_eq_true rfl) (fun h e9 => ?_)
  subst e9
  refine mJ_ifb_eq (tgt := 12) hK dX6_meanWait_5 (by decide) (fun c_5 => ?_) (fun c_5 => ?_)
  · refine mJ_iconst (v := nI 1) hK dX6_meanWait_12 (by decide) ?_
    refine xJ_puti hR hK dX6_meanWait_13 fX6_117 sX6_0 rfl rfl (by unfold yV; omega) (fun _ _ => rfl) (by decide) rfl (fun h hR => ?_)
    refine mJ_aload_n hK dX6_meanWait_16 rfl ?_
    refine xJ_getx (nI 1) hR hK dX6_meanWait_17 fX6_117 (by unfold yV; omega) (fun _ _ => rfl) (by decide) rfl (by simp [fr, upd]) ?_
    refine mJ_nif_gt (tgt := 32) hK dX6_meanWait_20 (by decide) (by omega) (fun c_20 => ?_) (fun c_20 => ?_)
    · refine mJ_dconst0 hK dX6_meanWait_32 ?_
      refine mJ_goto (tgt := 51) hK dX6_meanWait_33 (by decide) ?_
      refine mJ_dret hK dX6_meanWait_51 rfl hZ (by decide) (by decide) ?_
      exact ⟨rfl, hR⟩
    · exact absurd c_20 (by omega)
  · exact absurd c_5 hx

set_option maxRecDepth 100000 in
set_option maxHeartbeats 4000000 in
theorem lp_X6_shareOf {K : mK} (hK : mCx K mX6_shareOf) {ad : xAd} {h0 : mH} {F : xFm} {W : xWm} {pm : Nat → Nat} {rn : Nat} (hrn : F 30 0 0 3 = nI rn) (hrn8 : rn ≤ 8) {i : Nat} (hi : i < rn) (ht0 : F 30 0 0 0 = nI 0) {P : mH → Prop} (hP : ∀ {h'}, xR yV ad h0 F W pm h' → P h') (hZ : mRt K mX6_shareOf (mRf (shV (F 41 0 0 i) (msm (F 41 0 0) rn)) P)) : ∀ (fu : Nat) (e : Nat) (h : mH), rn - e < fu → (e ≤ rn) → (xR yV ad h0 F W pm h) → mJ K 0 0 21 [some (.ref (ad 30 0 0)), some (.int (nI i)), some (.int (msm (F 41 0 0) e)), some (.int (nI e))] [] h := by
  intro fu
  induction fu with
  | zero =>
    intro e h hm0
    exact absurd hm0 (by omega)
  | succ fu ih =>
    intro e h hm0 he hR
    refine mJ_iload_n hK dX6_shareOf_21 rfl ?_
    refine mJ_aload_n hK dX6_shareOf_22 rfl ?_
    refine xJ_getx (nI rn) hR hK dX6_shareOf_23 fX6_188 (by unfold yV; omega) (fun _ _ => rfl) (by decide) rfl (hrn) ?_
    refine mJ_nge (tgt := 44) hK dX6_shareOf_26 (by decide) (by omega) (by omega) (fun c_26 => ?_) (fun c_26 => ?_)
    · refine mJ_aload_n hK dX6_shareOf_44 rfl ?_
      refine xJ_getx (nI 0) hR hK dX6_shareOf_45 fX6_117 (by unfold yV; omega) (fun _ _ => rfl) (by decide) rfl (ht0) ?_
      refine mJ_nif_gt (tgt := 55) hK dX6_shareOf_48 (by decide) (by omega) (fun c_48 => ?_) (fun c_48 => ?_)
      · exact absurd c_48 (by omega)
      · refine mJ_iload_n hK dX6_shareOf_51 rfl ?_
        refine mJ_if_ne (tgt := 59) hK dX6_shareOf_52 (by decide) (fun c_52 => ?_) (fun c_52 => ?_)
        · refine mJ_aload_n hK dX6_shareOf_59 rfl ?_
          refine xJ_getr hR hK dX6_shareOf_60 fX6_34 (by unfold yV; omega) (fun _ _ => rfl) (by decide) (fun _ _ => rfl) ?_
          refine mJ_iload_n hK dX6_shareOf_63 rfl ?_
          refine xJ_iald i hR hK dX6_shareOf_64 (by unfold yV; omega) (fun _ _ => rfl) rfl (by omega) (by decide) ?_
          refine mJ_i2f hK dX6_shareOf_65 ?_
          refine mJ_iload_n hK dX6_shareOf_66 rfl ?_
          refine mJ_i2f hK dX6_shareOf_67 ?_
          refine mJ_fdiv hK dX6_shareOf_68 (n32_of (fv_n c_52)) ?_
          refine mJ_fret hK dX6_shareOf_69 rfl hZ (by decide) (by decide) ?_
          have : e = rn := by omega
          subst this
          exact ⟨congrArg (fun z9 => some (Value.float z9)) (by unfold shV; first | rw [if_pos c_52] | rw [if_neg c_52]), hP hR⟩
        · refine mJ_fconst0 hK dX6_shareOf_55 ?_
          refine mJ_goto (tgt := 69) hK dX6_shareOf_56 (by decide) ?_
          refine mJ_fret hK dX6_shareOf_69 rfl hZ (by decide) (by decide) ?_
          have : e = rn := by omega
          subst this
          exact ⟨congrArg (fun z9 => some (Value.float z9)) (by unfold shV; first | rw [if_pos c_52] | rw [if_neg c_52]), hP hR⟩
    · refine mJ_iload_n hK dX6_shareOf_29 rfl ?_
      refine mJ_aload_n hK dX6_shareOf_30 rfl ?_
      refine xJ_getr hR hK dX6_shareOf_31 fX6_34 (by unfold yV; omega) (fun _ _ => rfl) (by decide) (fun _ _ => rfl) ?_
      refine mJ_iload_n hK dX6_shareOf_34 rfl ?_
      refine xJ_iald e hR hK dX6_shareOf_35 (by unfold yV; omega) (fun _ _ => rfl) rfl (by omega) (by decide) ?_
      refine mJ_iadd hK dX6_shareOf_36 ?_
      refine mJ_istore_n hK dX6_shareOf_37 (by decide) rfl ?_
      refine mJ_iincN hK dX6_shareOf_38 rfl rfl (by decide) rfl ?_
      refine mJ_goto (tgt := 21) hK dX6_shareOf_41 (by decide) ?_
      exact ih (e + 1) _ (by omega) (by omega) hR

set_option maxRecDepth 100000 in
set_option maxHeartbeats 4000000 in
theorem lp_X6_shareOfx {K : mK} (hK : mCx K mX6_shareOf) {ad : xAd} {h0 : mH} {F : xFm} {W : xWm} {pm : Nat → Nat} {rn : Nat} (hrn : F 30 0 0 3 = nI rn) (hrn8 : rn ≤ 8) {x : Int32} (ht0 : F 30 0 0 0 = nI 1) {P : mH → Prop} (hP : ∀ {h'}, xR yV ad h0 F W pm h' → P h') (hZ : mRt K mX6_shareOf (mRf FP.fconst0 P)) : ∀ (fu : Nat) (e : Nat) (h : mH), rn - e < fu → (e ≤ rn) → (xR yV ad h0 F W pm h) → mJ K 0 0 21 [some (.ref (ad 30 0 0)), some (.int (x)), some (.int (msm (F 41 0 0) e)), some (.int (nI e))] [] h := by
  intro fu
  induction fu with
  | zero =>
    intro e h hm0
    exact absurd hm0 (by omega)
  | succ fu ih =>
    intro e h hm0 he hR
    refine mJ_iload_n hK dX6_shareOf_21 rfl ?_
    refine mJ_aload_n hK dX6_shareOf_22 rfl ?_
    refine xJ_getx (nI rn) hR hK dX6_shareOf_23 fX6_188 (by unfold yV; omega) (fun _ _ => rfl) (by decide) rfl (hrn) ?_
    refine mJ_nge (tgt := 44) hK dX6_shareOf_26 (by decide) (by omega) (by omega) (fun c_26 => ?_) (fun c_26 => ?_)
    · refine mJ_aload_n hK dX6_shareOf_44 rfl ?_
      refine xJ_getx (nI 1) hR hK dX6_shareOf_45 fX6_117 (by unfold yV; omega) (fun _ _ => rfl) (by decide) rfl (ht0) ?_
      refine mJ_nif_gt (tgt := 55) hK dX6_shareOf_48 (by decide) (by omega) (fun c_48 => ?_) (fun c_48 => ?_)
      · refine mJ_fconst0 hK dX6_shareOf_55 ?_
        refine mJ_goto (tgt := 69) hK dX6_shareOf_56 (by decide) ?_
        refine mJ_fret hK dX6_shareOf_69 rfl hZ (by decide) (by decide) ?_
        have : e = rn := by omega
        subst this
        exact ⟨rfl, hP hR⟩
      · exact absurd c_48 (by omega)
    · refine mJ_iload_n hK dX6_shareOf_29 rfl ?_
      refine mJ_aload_n hK dX6_shareOf_30 rfl ?_
      refine xJ_getr hR hK dX6_shareOf_31 fX6_34 (by unfold yV; omega) (fun _ _ => rfl) (by decide) (fun _ _ => rfl) ?_
      refine mJ_iload_n hK dX6_shareOf_34 rfl ?_
      refine xJ_iald e hR hK dX6_shareOf_35 (by unfold yV; omega) (fun _ _ => rfl) rfl (by omega) (by decide) ?_
      refine mJ_iadd hK dX6_shareOf_36 ?_
      refine mJ_istore_n hK dX6_shareOf_37 (by decide) rfl ?_
      refine mJ_iincN hK dX6_shareOf_38 rfl rfl (by decide) rfl ?_
      refine mJ_goto (tgt := 21) hK dX6_shareOf_41 (by decide) ?_
      exact ih (e + 1) _ (by omega) (by omega) hR

set_option maxRecDepth 100000 in
set_option maxHeartbeats 4000000 in
theorem k_X6_shareOf {l : Launch} {D : va_G} {aC : Nat → ClassId} {ad : xAd} {h0 h : mH} {F : xFm} {W : xWm} {pm : Nat → Nat} (hR : xR yV ad h0 F W pm h) {rn : Nat} (hrn : F 30 0 0 3 = nI rn) (hrn8 : rn ≤ 8) {i : Nat} (hi : i < rn) : mCon l D aC mX6_shareOf [.ref (ad 30 0 0), .int (nI i)] h (mRf (shV (F 41 0 0 i) (msm (F 41 0 0) rn)) (fun h' => xR yV ad h0 (tS F (nI 0)) W pm h')) := by
  refine mCon.of [some (.ref (ad 30 0 0)), some (.int (nI i)), none, none] (by decide +kernel) rfl (Nat.le_of_ble_eq_true rfl) ?_
  intro K el eD eC hK hZ
  subst el eD eC
  refine mJ_aload_n hK dX6_shareOf_0 rfl ?_
  refine mJ_aload_n hK dX6_shareOf_1 rfl ?_
  refine mJ_iload_n hK dX6_shareOf_2 rfl ?_
  refine mJ_cVi hK dX6_shareOf_3 lX6_194 (by unfold mFit; decide) (by decide) (k_X6_isRule hR hrn hrn8 _) rfl rfl (Nat.le_of_ble_eq_true rfl) (hR.1 _ _ _ (by unfold yV; omega)) ⟨_, _, rfl⟩ (fun h e9 => ?_)
  subst e9
  refine mJ_ifb_eq (tgt := 13) hK dX6_shareOf_6 (by decide) (fun c_6 => ?_) (fun c_6 => ?_)
  · exact (c_6 ⟨nI_pos' (by omega), nI_lt hi (by omega)⟩).elim
  · refine mJ_iconst (v := nI 0) hK dX6_shareOf_9 (by decide) ?_
    refine mJ_goto (tgt := 14) hK dX6_shareOf_10 (by decide) ?_
    refine xJ_puti hR hK dX6_shareOf_14 fX6_117 sX6_0 rfl rfl (by unfold yV; omega) (fun _ _ => rfl) (by decide) rfl (fun h hR => ?_)
    refine mJ_iconst (v := nI 0) hK dX6_shareOf_17 (by decide) ?_
    refine mJ_istore_n hK dX6_shareOf_18 (by decide) rfl ?_
    refine mJ_iconst (v := nI 0) hK dX6_shareOf_19 (by decide) ?_
    refine mJ_istore_n hK dX6_shareOf_20 (by decide) rfl ?_
    have hR : xR yV ad h0 (tS F (nI 0)) W pm h := hR
    exact lp_X6_shareOf hK (F := tS F (nI 0)) hrn hrn8 hi rfl (fun z => z) hZ (rn + 1) 0 _ (by omega) (by omega) hR

set_option maxRecDepth 100000 in
set_option maxHeartbeats 4000000 in
theorem k_X6_shareOf_x {l : Launch} {D : va_G} {aC : Nat → ClassId} {ad : xAd} {h0 h : mH} {F : xFm} {W : xWm} {pm : Nat → Nat} (hR : xR yV ad h0 F W pm h) {rn : Nat} (hrn : F 30 0 0 3 = nI rn) (hrn8 : rn ≤ 8) {x : Int32} (hx : ¬ (0 ≤ x ∧ x < nI rn)) : mCon l D aC mX6_shareOf [.ref (ad 30 0 0), .int x] h (mRf FP.fconst0 (fun h' => xR yV ad h0 (tS F (nI 1)) W pm h')) := by
  refine mCon.of [some (.ref (ad 30 0 0)), some (.int x), none, none] (by decide +kernel) rfl (Nat.le_of_ble_eq_true rfl) ?_
  intro K el eD eC hK hZ
  subst el eD eC
  refine mJ_aload_n hK dX6_shareOf_0 rfl ?_
  refine mJ_aload_n hK dX6_shareOf_1 rfl ?_
  refine mJ_iload_n hK dX6_shareOf_2 rfl ?_
  refine mJ_cVi hK dX6_shareOf_3 lX6_194 (by unfold mFit; decide) (by decide) (k_X6_isRule hR hrn hrn8 _) rfl rfl (Nat.le_of_ble_eq_true rfl) (hR.1 _ _ _ (by unfold yV; omega)) ⟨_, _, rfl⟩ (fun h e9 => ?_)
  subst e9
  refine mJ_ifb_eq (tgt := 13) hK dX6_shareOf_6 (by decide) (fun c_6 => ?_) (fun c_6 => ?_)
  · refine mJ_iconst (v := nI 1) hK dX6_shareOf_13 (by decide) ?_
    refine xJ_puti hR hK dX6_shareOf_14 fX6_117 sX6_0 rfl rfl (by unfold yV; omega) (fun _ _ => rfl) (by decide) rfl (fun h hR => ?_)
    refine mJ_iconst (v := nI 0) hK dX6_shareOf_17 (by decide) ?_
    refine mJ_istore_n hK dX6_shareOf_18 (by decide) rfl ?_
    refine mJ_iconst (v := nI 0) hK dX6_shareOf_19 (by decide) ?_
    refine mJ_istore_n hK dX6_shareOf_20 (by decide) rfl ?_
    have hR : xR yV ad h0 (tS F (nI 1)) W pm h := hR
    exact lp_X6_shareOfx hK (F := tS F (nI 1)) hrn hrn8 rfl (fun z => z) hZ (rn + 1) 0 _ (by omega) (by omega) hR
  · exact absurd c_6 hx

