def xCp (F : xFm) (s t c : Nat) : xFm := fr (fr (fr (fr F 14 s c (va_cpy (F 14 t c) (F 14 s c) 0 0 8)) 15 s c (va_cpy (F 15 t c) (F 15 s c) 0 0 8)) 16 s c (va_cpy (F 16 t c) (F 16 s c) 0 0 8)) 13 s c (upd (upd (F 13 s c) 3 (F 13 t c 3)) 4 (F 13 t c 4))
def xWp (W : xWm) (s t c : Nat) : xWm := fr W 13 s c (vp_updL (W 13 s c) 0 (W 13 t c 0))
def xCpE (F : xFm) (s t e : Nat) : xFm := fun k i j => if i = s ∧ j < e ∧ (k = 14 ∨ k = 15 ∨ k = 16) then va_cpy (F k t j) (F k s j) 0 0 8 else if i = s ∧ j < e ∧ k = 13 then upd (upd (F 13 s j) 3 (F 13 t j 3)) 4 (F 13 t j 4) else F k i j
def xWpE (W : xWm) (s t e : Nat) : xWm := fun k i j => if i = s ∧ j < e ∧ k = 13 then vp_updL (W 13 s j) 0 (W 13 t j 0) else W k i j
theorem xCpE_0 {F : xFm} {s t : Nat} : xCpE F s t 0 = F := by
  funext k i j
  simp [xCpE]
theorem xWpE_0 {W : xWm} {s t : Nat} : xWpE W s t 0 = W := by
  funext k i j
  simp [xWpE]
theorem xCpE_o {F : xFm} {s t e k i j : Nat} (h : ¬ (i = s ∧ j < e)) : xCpE F s t e k i j = F k i j := by
  unfold xCpE
  rw [if_neg (fun z => h ⟨z.1, z.2.1⟩), if_neg (fun z => h ⟨z.1, z.2.1⟩)]
theorem xWpE_o {F : xWm} {s t e k i j : Nat} (h : ¬ (i = s ∧ j < e)) : xWpE F s t e k i j = F k i j := by
  unfold xWpE
  rw [if_neg (fun z => h ⟨z.1, z.2.1⟩)]
theorem xCpE_s {F : xFm} {s t e : Nat} (h : t ≠ s) : xCp (xCpE F s t e) s t e = xCpE F s t (e + 1) := by
  have h1 : ∀ k, xCpE F s t e k t e = F k t e := fun k => xCpE_o (fun z => h z.1)
  have h2 : ∀ k, xCpE F s t e k s e = F k s e := fun k => xCpE_o (fun z => absurd z.2 (Nat.lt_irrefl e))
  funext k i j
  simp only [xCp, h1, h2]
  by_cases e1 : i = s ∧ j = e
  · obtain ⟨rfl, rfl⟩ := e1
    unfold fr xCpE
    by_cases a13 : k = 13
    · subst a13; simp
    · by_cases a14 : k = 14
      · subst a14; simp
      · by_cases a15 : k = 15
        · subst a15; simp
        · by_cases a16 : k = 16
          · subst a16; simp
          · simp [a13, a14, a15, a16]
  · have e2 : ∀ z, ¬ (k = z ∧ i = s ∧ j = e) := fun z q => e1 q.2
    rw [fr_n (e2 13), fr_n (e2 16), fr_n (e2 15), fr_n (e2 14)]
    unfold xCpE
    by_cases e3 : i = s
    · have e4 : j ≠ e := fun q => e1 ⟨e3, q⟩
      have e5 : (j < e + 1) ↔ j < e := by omega
      simp only [e5]
    · simp [e3]
theorem xWpE_s {W : xWm} {s t e : Nat} (h : t ≠ s) : xWp (xWpE W s t e) s t e = xWpE W s t (e + 1) := by
  have h1 : xWpE W s t e 13 t e = W 13 t e := xWpE_o (fun z => h z.1)
  have h2 : xWpE W s t e 13 s e = W 13 s e := xWpE_o (fun z => absurd z.2 (Nat.lt_irrefl e))
  funext k i j
  simp only [xWp, h1, h2]
  by_cases e1 : i = s ∧ j = e
  · obtain ⟨rfl, rfl⟩ := e1
    unfold fr xWpE
    by_cases a13 : k = 13
    · subst a13; simp
    · simp [a13]
  · rw [fr_n (fun q => e1 q.2)]
    unfold xWpE
    by_cases e3 : i = s
    · have e4 : j ≠ e := fun q => e1 ⟨e3, q⟩
      have e5 : (j < e + 1) ↔ j < e := by omega
      simp only [e5]
    · simp [e3]
def qmx (v t k : Nat → Int32) (x : Int64) : Nat → Int64
  | 0 => x
  | i + 1 => 31 * (31 * (31 * qmx v t k x i + (v i).toInt64) + (t i).toInt64) + (k i).toInt64
def tmx (st rp : Nat → Int32) (x : Int64) (t0 : Nat) : Nat → Int64
  | 0 => x
  | i + 1 => if st ((t0 + i) % 24) = nI 1 then 31 * (31 * tmx st rp x t0 i + (st ((t0 + i) % 24)).toInt64) + (rp ((t0 + i) % 24)).toInt64 else 31 * tmx st rp x t0 i + (st ((t0 + i) % 24)).toInt64
def msm (f : Nat → Int32) : Nat → Int32
  | 0 => nI 0
  | c + 1 => msm f c + f c
theorem kn_of {a g : Nat} {x : Int32} (h : nI a ≤ x ∧ x < nI g) (ha : a < 2 ^ 31) (hg : g < 2 ^ 31) : ∃ t : Nat, a ≤ t ∧ t < g ∧ x = nI t := by
  have h0 : ¬ x < 0 := fun z => absurd (Int32.le_trans (nI_pos' ha) h.1) (Int32.not_le.mpr z)
  obtain ⟨t, h1, rfl⟩ := nI_of h0
  exact ⟨t, (nI_leI ha h1).mp h.1, (nI_ltI h1 hg).mp h.2, rfl⟩
set_option maxRecDepth 100000 in
set_option maxHeartbeats 4000000 in
theorem k_X0_copyFrom {l : Launch} {D : va_G} {aC : Nat → ClassId} {ad : xAd} {h0 h : mH} {F : xFm} {W : xWm} {pm : Nat → Nat} (hR : xR xV ad h0 F W pm h) {s t : Nat} (hs : s < 2) (ht : t < 2) (hst : t ≠ s) {c : Nat} (hc : c < 8) : mCon l D aC mX0_copyFrom [.ref (ad 13 s c), .ref (ad 13 t c)] h (mRv (fun h' => xR xV ad h0 (xCp F s t c) (xWp W s t c) pm h')) := by
  refine mCon.of [some (.ref (ad 13 s c)), some (.ref (ad 13 t c))] (by decide +kernel) rfl (Nat.le_of_ble_eq_true rfl) ?_
  intro K el eD eC hK hZ
  subst el eD eC
  refine mJ_aload_n hK dX0_copyFrom_0 rfl ?_
  refine xJ_getr hR hK dX0_copyFrom_1 fX0_9 (by unfold xV; omega) (fun _ _ => rfl) (by decide) (fun _ _ => rfl) ?_
  refine mJ_iconst (v := 0) hK dX0_copyFrom_4 (by decide) ?_
  refine mJ_aload_n hK dX0_copyFrom_5 rfl ?_
  refine xJ_getr hR hK dX0_copyFrom_6 fX0_9 (by unfold xV; omega) (fun _ _ => rfl) (by decide) (fun _ _ => rfl) ?_
  refine mJ_iconst (v := 0) hK dX0_copyFrom_9 (by decide) ?_
  refine mJ_bipush (v := nI 8) hK dX0_copyFrom_10 (by decide) ?_
  refine xJ_copy hR hK dX0_copyFrom_12 lX0_40 (by unfold xV; omega) (by unfold xV; omega) (fun _ _ => rfl) (fun _ _ => rfl) rfl (by decide) (by decide) (by decide) (by decide) (Nat.le_of_ble_eq_true rfl) (fun h hR => ?_)
  refine mJ_aload_n hK dX0_copyFrom_15 rfl ?_
  refine xJ_getr hR hK dX0_copyFrom_16 fX0_15 (by unfold xV; omega) (fun _ _ => rfl) (by decide) (fun _ _ => rfl) ?_
  refine mJ_iconst (v := 0) hK dX0_copyFrom_19 (by decide) ?_
  refine mJ_aload_n hK dX0_copyFrom_20 rfl ?_
  refine xJ_getr hR hK dX0_copyFrom_21 fX0_15 (by unfold xV; omega) (fun _ _ => rfl) (by decide) (fun _ _ => rfl) ?_
  refine mJ_iconst (v := 0) hK dX0_copyFrom_24 (by decide) ?_
  refine mJ_bipush (v := nI 8) hK dX0_copyFrom_25 (by decide) ?_
  refine xJ_copy hR hK dX0_copyFrom_27 lX0_40 (by unfold xV; omega) (by unfold xV; omega) (fun _ _ => rfl) (fun _ _ => rfl) rfl (by decide) (by decide) (by decide) (by decide) (Nat.le_of_ble_eq_true rfl) (fun h hR => ?_)
  refine mJ_aload_n hK dX0_copyFrom_30 rfl ?_
  refine xJ_getr hR hK dX0_copyFrom_31 fX0_18 (by unfold xV; omega) (fun _ _ => rfl) (by decide) (fun _ _ => rfl) ?_
  refine mJ_iconst (v := 0) hK dX0_copyFrom_34 (by decide) ?_
  refine mJ_aload_n hK dX0_copyFrom_35 rfl ?_
  refine xJ_getr hR hK dX0_copyFrom_36 fX0_18 (by unfold xV; omega) (fun _ _ => rfl) (by decide) (fun _ _ => rfl) ?_
  refine mJ_iconst (v := 0) hK dX0_copyFrom_39 (by decide) ?_
  refine mJ_bipush (v := nI 8) hK dX0_copyFrom_40 (by decide) ?_
  refine xJ_copy hR hK dX0_copyFrom_42 lX0_40 (by unfold xV; omega) (by unfold xV; omega) (fun _ _ => rfl) (fun _ _ => rfl) rfl (by decide) (by decide) (by decide) (by decide) (Nat.le_of_ble_eq_true rfl) (fun h hR => ?_)
  refine mJ_aload_n hK dX0_copyFrom_45 rfl ?_
  refine mJ_aload_n hK dX0_copyFrom_46 rfl ?_
  refine xJ_geti hR hK dX0_copyFrom_47 fX0_21 (by unfold xV; omega) (fun _ _ => rfl) (by decide) rfl ?_
  refine xJ_puti hR hK dX0_copyFrom_50 fX0_21 sX0_3 rfl rfl (by unfold xV; omega) (fun _ _ => rfl) (by decide) rfl (fun h hR => ?_)
  refine mJ_aload_n hK dX0_copyFrom_53 rfl ?_
  refine mJ_aload_n hK dX0_copyFrom_54 rfl ?_
  refine xJ_geti hR hK dX0_copyFrom_55 fX0_33 (by unfold xV; omega) (fun _ _ => rfl) (by decide) rfl ?_
  refine xJ_puti hR hK dX0_copyFrom_58 fX0_33 sX0_4 rfl rfl (by unfold xV; omega) (fun _ _ => rfl) (by decide) rfl (fun h hR => ?_)
  refine mJ_aload_n hK dX0_copyFrom_61 rfl ?_
  refine mJ_aload_n hK dX0_copyFrom_62 rfl ?_
  refine xJ_getl hR hK dX0_copyFrom_63 fX0_36 (by unfold xV; omega) (fun _ _ => rfl) (by decide) (fun _ _ => rfl) ?_
  refine xJ_putl hR hK dX0_copyFrom_66 fX0_36 sX0_5 (by unfold xV; omega) (fun _ _ => rfl) (by decide) (fun _ _ => xL_0) (fun h hR => ?_)
  refine mJ_vret hK dX0_copyFrom_69 rfl hZ (by decide) (by decide) ?_
  refine ⟨rfl, xR_ext2 hR ?_ rfl⟩
  have e9 : ∀ k (g : Nat → Int32) (G : xFm), fr G k s c g k t c = G k t c := fun k g G => fr_n (fun z => hst z.2.1)
  simp only [e9, fr_s]
  simp only [xCp]
  funext k i j
  by_cases e1 : k = 13 ∧ i = s ∧ j = c
  · obtain ⟨rfl, rfl, rfl⟩ := e1
    simp only [fr_s]
    rfl
  · rw [fr_n e1, fr_n e1, fr_n e1]
    rfl

set_option maxRecDepth 100000 in
set_option maxHeartbeats 4000000 in
theorem lp_X0_mixMessages {K : mK} (hK : mCx K mX0_mixMessages) {ad : xAd} {h0 : mH} {F : xFm} {W : xWm} {pm : Nat → Nat} {s c : Nat} (hs : s < 2) (hc : c < 8) {n : Nat} (hn : F 13 s c 3 = nI n) (hn8 : n ≤ 8) {x : Int64} {h9 : mH} (hZ : mRt K mX0_mixMessages (mRl (qmx (F 14 s c) (F 15 s c) (F 16 s c) (31 * x + (nI n).toInt64) n) (fun h' => h' = h9))) : ∀ (fu : Nat) (i : Nat) (h : mH), n - i < fu → (i ≤ n) → (h = h9) → (xR xV ad h0 F W pm h) → mJ K 0 0 13 [some (.ref (ad 13 s c)), some (.long x), none, some (.long (qmx (F 14 s c) (F 15 s c) (F 16 s c) (31 * x + (nI n).toInt64) i)), none, some (.int (nI i))] [] h := by
  intro fu
  induction fu with
  | zero =>
    intro i h hm0
    exact absurd hm0 (by omega)
  | succ fu ih =>
    intro i h hm0 hi eh hR
    refine mJ_iload hK dX0_mixMessages_13 rfl ?_
    refine mJ_aload_n hK dX0_mixMessages_15 rfl ?_
    refine xJ_getx (nI n) hR hK dX0_mixMessages_16 fX0_21 (by unfold xV; omega) (fun _ _ => rfl) (by decide) rfl (by first | exact hn | (simp [fr, upd]; exact hn)) ?_
    refine mJ_nge (tgt := 67) hK dX0_mixMessages_19 (by decide) (by omega) (by omega) (fun c_19 => ?_) (fun c_19 => ?_)
    · refine mJ_lload_n hK dX0_mixMessages_67 rfl ?_
      refine mJ_lret hK dX0_mixMessages_68 rfl hZ (by decide) (by decide) ?_
      have : i = n := by omega
      subst this
      exact ⟨rfl, eh⟩
    · refine mJ_lload_n hK dX0_mixMessages_22 rfl ?_
      refine mJ_aload_n hK dX0_mixMessages_23 rfl ?_
      refine xJ_getr hR hK dX0_mixMessages_24 fX0_9 (by unfold xV; omega) (fun _ _ => rfl) (by decide) (fun _ _ => rfl) ?_
      refine mJ_iload hK dX0_mixMessages_27 rfl ?_
      refine xJ_iald i hR hK dX0_mixMessages_29 (by unfold xV; omega) (fun _ _ => rfl) rfl (by omega) (by decide) ?_
      refine mJ_i2l hK dX0_mixMessages_30 ?_
      refine mJ_cNl hK dX0_mixMessages_31 lX0_46 (by unfold mFit; decide) (by decide) (k_X5_mix _ _) rfl rfl (Nat.le_of_ble_eq_true rfl) (fun h e9 => ?_)
      subst e9
      refine mJ_lstore_n hK dX0_mixMessages_34 (by decide) rfl ?_
      refine mJ_lload_n hK dX0_mixMessages_35 rfl ?_
      refine mJ_aload_n hK dX0_mixMessages_36 rfl ?_
      refine xJ_getr hR hK dX0_mixMessages_37 fX0_15 (by unfold xV; omega) (fun _ _ => rfl) (by decide) (fun _ _ => rfl) ?_
      refine mJ_iload hK dX0_mixMessages_40 rfl ?_
      refine xJ_iald i hR hK dX0_mixMessages_42 (by unfold xV; omega) (fun _ _ => rfl) rfl (by omega) (by decide) ?_
      refine mJ_i2l hK dX0_mixMessages_43 ?_
      refine mJ_cNl hK dX0_mixMessages_44 lX0_46 (by unfold mFit; decide) (by decide) (k_X5_mix _ _) rfl rfl (Nat.le_of_ble_eq_true rfl) (fun h e9 => ?_)
      subst e9
      refine mJ_lstore_n hK dX0_mixMessages_47 (by decide) rfl ?_
      refine mJ_lload_n hK dX0_mixMessages_48 rfl ?_
      refine mJ_aload_n hK dX0_mixMessages_49 rfl ?_
      refine xJ_getr hR hK dX0_mixMessages_50 fX0_18 (by unfold xV; omega) (fun _ _ => rfl) (by decide) (fun _ _ => rfl) ?_
      refine mJ_iload hK dX0_mixMessages_53 rfl ?_
      refine xJ_iald i hR hK dX0_mixMessages_55 (by unfold xV; omega) (fun _ _ => rfl) rfl (by omega) (by decide) ?_
      refine mJ_i2l hK dX0_mixMessages_56 ?_
      refine mJ_cNl hK dX0_mixMessages_57 lX0_46 (by unfold mFit; decide) (by decide) (k_X5_mix _ _) rfl rfl (Nat.le_of_ble_eq_true rfl) (fun h e9 => ?_)
      subst e9
      refine mJ_lstore_n hK dX0_mixMessages_60 (by decide) rfl ?_
      refine mJ_iincN hK dX0_mixMessages_61 rfl rfl (by decide) rfl ?_
      refine mJ_goto (tgt := 13) hK dX0_mixMessages_64 (by decide) ?_
      exact ih (i + 1) _ (by omega) (by omega) eh hR

set_option maxRecDepth 100000 in
set_option maxHeartbeats 4000000 in
theorem k_X0_mixMessages {l : Launch} {D : va_G} {aC : Nat → ClassId} {ad : xAd} {h0 h : mH} {F : xFm} {W : xWm} {pm : Nat → Nat} (hR : xR xV ad h0 F W pm h) {s c : Nat} (hs : s < 2) (hc : c < 8) {n : Nat} (hn : F 13 s c 3 = nI n) (hn8 : n ≤ 8) (x : Int64) : mCon l D aC mX0_mixMessages [.ref (ad 13 s c), .long x] h (mRl (qmx (F 14 s c) (F 15 s c) (F 16 s c) (31 * x + (nI n).toInt64) n) (fun h' => h' = h)) := by
  refine mCon.of [some (.ref (ad 13 s c)), some (.long x), none, none, none, none] (by decide +kernel) rfl (Nat.le_of_ble_eq_true rfl) ?_
  intro K el eD eC hK hZ
  subst el eD eC
  refine mJ_lload_n hK dX0_mixMessages_0 rfl ?_
  refine mJ_aload_n hK dX0_mixMessages_1 rfl ?_
  refine xJ_getx (nI n) hR hK dX0_mixMessages_2 fX0_21 (by unfold xV; omega) (fun _ _ => rfl) (by decide) rfl (by first | exact hn | (simp [fr, upd]; exact hn)) ?_
  refine mJ_i2l hK dX0_mixMessages_5 ?_
  refine mJ_cNl hK dX0_mixMessages_6 lX0_46 (by unfold mFit; decide) (by decide) (k_X5_mix _ _) rfl rfl (Nat.le_of_ble_eq_true rfl) (fun h e9 => ?_)
  subst e9
  refine mJ_lstore_n hK dX0_mixMessages_9 (by decide) rfl ?_
  refine mJ_iconst (v := nI 0) hK dX0_mixMessages_10 (by decide) ?_
  refine mJ_istore hK dX0_mixMessages_11 (by decide) rfl ?_
  exact lp_X0_mixMessages hK hs hc hn hn8 hZ (n + 1) 0 _ (by omega) (by omega) rfl hR

def xGv (F : xFm) (s g : Nat) : xFm := fr (fr (fr F 9 s 0 (upd (F 9 s 0) 2 (nI (g + 1)))) 10 s 0 (upd (F 10 s 0) (g % 24) (nI 0))) 11 s 0 (upd (F 11 s 0) (g % 24) (nI 0))
def xSt (F : xFm) (s g : Nat) (x a r : Int32) : xFm := if nI (g - 24) ≤ x ∧ x < nI g then fr (fr F 10 s 0 (upd (F 10 s 0) (x.toNatClampNeg % 24) a)) 11 s 0 (upd (F 11 s 0) (x.toNatClampNeg % 24) r) else F
theorem nI_xor_pos {a b : Nat} (ha : a < 2 ^ 31) (hb : b < 2 ^ 31) : (0 : Int32) ≤ nI a ^^^ nI b := by
  have hx : a ^^^ b < 2 ^ 31 := Nat.xor_lt_two_pow ha hb
  have e : nI a ^^^ nI b = nI (a ^^^ b) := by
    apply Int32.toBitVec_inj.mp
    rw [Int32.toBitVec_xor]
    apply BitVec.eq_of_toNat_eq
    show (BitVec.ofNat 32 a ^^^ BitVec.ofNat 32 b).toNat = (BitVec.ofNat 32 (a ^^^ b)).toNat
    rw [BitVec.toNat_xor, BitVec.toNat_ofNat, BitVec.toNat_ofNat, BitVec.toNat_ofNat, Nat.mod_eq_of_lt (by omega), Nat.mod_eq_of_lt (by omega), Nat.mod_eq_of_lt (by omega)]
  rw [e]
  exact nI_pos' hx
theorem mCon.ofF {l : Launch} {D : va_G} {aC : Nat → ClassId} {μ : mM} {vs : List Value} {h : mH} {Q : Option Value → mH → Prop} (L : List (Option Value)) (hy : plainFor μ.1 = true) (hL : mEnt vs μ.2.2.1 = L) (hlen : (lg_sl vs).length ≤ μ.2.2.1)
    (body : ∀ K : mK, kl K = l → kD K = D → kC K = aC → mCx K μ → mRt K μ Q → mJ K 0 0 0 L [] h) : mCon l D aC μ vs h Q := by
  intro w sz hs
  refine MetFree.of_bodySF (code := μ.2.1) (maxLocals := μ.2.2.1) (ret := μ.2.2.2.1) hy ?_ ?_
  · intro args s m h hn
    obtain ⟨meth, c, h1, h2, h3, h4, h5, h6, -, -⟩ := Cond.code_spec hn (atoms_spec (ws := mWs μ) h _ List.mem_cons_self)
    exact ⟨meth, c, h1, h2, h3, h4, h5, h6⟩
  · intro p e s m args below meth c s₁ B hml hv _
    obtain ⟨rfl, hsz, hP, hD, hE⟩ := hv
    subst hsz
    have hh0 : s₁.heap = s.heap := by rw [B.state]; rfl
    have hts := mTB_tail (atoms_spec (ws := mWs μ) B.pre)
    have hown : s.vm.findClass μ.1.cls = some m.cls := findClass_of_methodNamed B.named
    have hb := body (p, l, e, mRm μ, s, m, vs.toArray, below, meth, c, D, aC, va_A w s.heap.size, MQ below (mQc D aC Q (va_A w s.heap.size)) vs.toArray s (mRm μ).cells (mRm μ).slots (va_A w s.heap.size)) rfl rfl rfl
      ⟨B.exec, B.bytes, hml, B.returns, hown, hts, B.notSynchronized, rfl, hE, fun q hq => Or.inr hq⟩ (fun t ht => ht)
    have hlr : mLR (lg_sl vs ++ List.replicate (μ.2.2.1 - (lg_sl vs).length) Slot.unset).toArray c.maxLocals L := by
      rw [hml, ← hL]
      exact mLR.of (lv_entry vs (n := μ.2.2.1) hlen) (fun i v hi => by have := mEnt_in vs μ.2.2.1 0 i v hi; rwa [Nat.zero_add] at this)
    have hw := hb s.heap [] _ (mHR_self hP hD hs) va_S.rf hlr
    obtain ⟨t, a1, o, b1, b2, b3⟩ := hw s₁ hh0 (Stand.of_body B)
    rw [lg_entry_eq]
    exact ⟨t, o, a1, b1, b2, ⟨b3.1, b3.2⟩⟩
set_option maxRecDepth 100000 in
set_option maxHeartbeats 4000000 in
theorem k_J9_floorMod {l : Launch} {D : va_G} {aC : Nat → ClassId} {h : mH} {t : Nat} (ht : t < 1000000) : mCon l D aC mJ9_floorMod_7cf53 [.int (nI t), .int (nI 24)] h (mRi (nI (t % 24)) (fun h' => h' = h)) := by
  refine mCon.ofF [some (.int (nI t)), some (.int (nI 24)), none] (by decide +kernel) rfl (Nat.le_of_ble_eq_true rfl) ?_
  intro K el eD eC hK hZ
  subst el eD eC
  refine mJ_iload_n hK dJ9_floorMod_7cf53_0 rfl ?_
  refine mJ_iload_n hK dJ9_floorMod_7cf53_1 rfl ?_
  refine mJ_iremN hK dJ9_floorMod_7cf53_2 (by omega) (by omega) (by omega) ?_
  refine mJ_istore_n hK dJ9_floorMod_7cf53_3 (by decide) rfl ?_
  refine mJ_iload_n hK dJ9_floorMod_7cf53_4 rfl ?_
  refine mJ_iload_n hK dJ9_floorMod_7cf53_5 rfl ?_
  refine mJ_ixor hK dJ9_floorMod_7cf53_6 ?_
  refine mJ_if_ge (tgt := 18) hK dJ9_floorMod_7cf53_7 (by decide) (fun c_7 => ?_) (fun c_7 => ?_)
  · refine mJ_iload_n hK dJ9_floorMod_7cf53_18 rfl ?_
    refine mJ_iret hK dJ9_floorMod_7cf53_19 rfl hZ (by decide) (by decide) ?_
    exact ⟨rfl, rfl⟩
  · exact (c_7 (nI_xor_pos (by omega) (by omega))).elim

set_option maxRecDepth 100000 in
set_option maxHeartbeats 4000000 in
theorem k_X4_placeOf {l : Launch} {D : va_G} {aC : Nat → ClassId} {h : mH} {t : Nat} (ht : t < 1000000) : mCon l D aC mX4_placeOf [.int (nI t)] h (mRi (nI (t % 24)) (fun h' => h' = h)) := by
  refine mCon.of [some (.int (nI t))] (by decide +kernel) rfl (Nat.le_of_ble_eq_true rfl) ?_
  intro K el eD eC hK hZ
  subst el eD eC
  refine mJ_iload_n hK dX4_placeOf_0 rfl ?_
  refine mJ_bipush (v := nI 24) hK dX4_placeOf_1 (by decide) ?_
  refine mJ_cSi hK dX4_placeOf_3 lX4_26 (by unfold mFit; decide) (by decide) (k_J9_floorMod ht) rfl rfl (Nat.le_of_ble_eq_true rfl) (fun h e9 => ?_)
  subst e9
  refine mJ_iret hK dX4_placeOf_6 rfl hZ (by decide) (by decide) ?_
  exact ⟨rfl, rfl⟩

set_option maxRecDepth 100000 in
set_option maxHeartbeats 4000000 in
theorem k_X4_give {l : Launch} {D : va_G} {aC : Nat → ClassId} {ad : xAd} {h0 h : mH} {F : xFm} {W : xWm} {pm : Nat → Nat} (hR : xR xV ad h0 F W pm h) {s : Nat} (hs : s < 2) {g : Nat} (hg : F 9 s 0 2 = nI g) (hgb : g < 1000000) : mCon l D aC mX4_give [.ref (ad 9 s 0)] h (mRi (nI g) (fun h' => xR xV ad h0 (xGv F s g) W pm h')) := by
  refine mCon.of [some (.ref (ad 9 s 0)), none] (by decide +kernel) rfl (Nat.le_of_ble_eq_true rfl) ?_
  intro K el eD eC hK hZ
  subst el eD eC
  refine mJ_aload_n hK dX4_give_0 rfl ?_
  refine xJ_getx (nI g) hR hK dX4_give_1 fX4_18 (by unfold xV; omega) (fun _ _ => rfl) (by decide) rfl (by first | exact hg | (simp [fr, upd]; exact hg)) ?_
  refine mJ_istore_n hK dX4_give_4 (by decide) rfl ?_
  refine mJ_aload_n hK dX4_give_5 rfl ?_
  refine mJ_dup hK dX4_give_6 rfl ?_
  refine xJ_getx (nI g) hR hK dX4_give_7 fX4_18 (by unfold xV; omega) (fun _ _ => rfl) (by decide) rfl (by first | exact hg | (simp [fr, upd]; exact hg)) ?_
  refine mJ_iconst (v := nI 1) hK dX4_give_10 (by decide) ?_
  refine mJ_iaddN hK dX4_give_11 ?_
  refine xJ_puti hR hK dX4_give_12 fX4_18 sX4_2 rfl rfl (by unfold xV; omega) (fun _ _ => rfl) (by decide) rfl (fun h hR => ?_)
  refine mJ_aload_n hK dX4_give_15 rfl ?_
  refine xJ_getr hR hK dX4_give_16 fX4_9 (by unfold xV; omega) (fun _ _ => rfl) (by decide) (fun _ _ => rfl) ?_
  refine mJ_iload_n hK dX4_give_19 rfl ?_
  refine mJ_cSi hK dX4_give_20 lX4_22 (by unfold mFit; decide) (by decide) (k_X4_placeOf (by omega)) rfl rfl (Nat.le_of_ble_eq_true rfl) (fun h e9 => ?_)
  subst e9
  refine mJ_iconst (v := nI 0) hK dX4_give_23 (by decide) ?_
  refine xJ_iast (g % 24) hR hK dX4_give_24 (by unfold xV; omega) (fun _ _ => rfl) rfl (by omega) (by decide) (fun h hR => ?_)
  refine mJ_aload_n hK dX4_give_25 rfl ?_
  refine xJ_getr hR hK dX4_give_26 fX4_15 (by unfold xV; omega) (fun _ _ => rfl) (by decide) (fun _ _ => rfl) ?_
  refine mJ_iload_n hK dX4_give_29 rfl ?_
  refine mJ_cSi hK dX4_give_30 lX4_22 (by unfold mFit; decide) (by decide) (k_X4_placeOf (by omega)) rfl rfl (Nat.le_of_ble_eq_true rfl) (fun h e9 => ?_)
  subst e9
  refine mJ_iconst (v := nI 0) hK dX4_give_33 (by decide) ?_
  refine xJ_iast (g % 24) hR hK dX4_give_34 (by unfold xV; omega) (fun _ _ => rfl) rfl (by omega) (by decide) (fun h hR => ?_)
  refine mJ_iload_n hK dX4_give_35 rfl ?_
  refine mJ_iret hK dX4_give_36 rfl hZ (by decide) (by decide) ?_
  exact ⟨rfl, hR⟩

set_option maxRecDepth 100000 in
set_option maxHeartbeats 4000000 in
theorem k_X4_firstKnown {l : Launch} {D : va_G} {aC : Nat → ClassId} {ad : xAd} {h0 h : mH} {F : xFm} {W : xWm} {pm : Nat → Nat} (hR : xR xV ad h0 F W pm h) {s : Nat} (hs : s < 2) {g : Nat} (hg : F 9 s 0 2 = nI g) (hgb : g < 1000000) : mCon l D aC mX4_firstKnown [.ref (ad 9 s 0)] h (mRi (nI (g - 24)) (fun h' => h' = h)) := by
  refine mCon.of [some (.ref (ad 9 s 0))] (by decide +kernel) rfl (Nat.le_of_ble_eq_true rfl) ?_
  intro K el eD eC hK hZ
  subst el eD eC
  refine mJ_aload_n hK dX4_firstKnown_0 rfl ?_
  refine xJ_getx (nI g) hR hK dX4_firstKnown_1 fX4_18 (by unfold xV; omega) (fun _ _ => rfl) (by decide) rfl (by first | exact hg | (simp [fr, upd]; exact hg)) ?_
  refine mJ_bipush (v := nI 24) hK dX4_firstKnown_4 (by decide) ?_
  refine mJ_nle (tgt := 19) hK dX4_firstKnown_6 (by decide) (by omega) (by omega) (fun c_6 => ?_) (fun c_6 => ?_)
  · refine mJ_iconst (v := nI 0) hK dX4_firstKnown_19 (by decide) ?_
    refine mJ_iret hK dX4_firstKnown_20 rfl hZ (by decide) (by decide) ?_
    first | exact ⟨rfl, rfl⟩ | exact ⟨by rw [Nat.sub_eq_zero_of_le (by omega)], rfl⟩
  · refine mJ_aload_n hK dX4_firstKnown_9 rfl ?_
    refine xJ_getx (nI g) hR hK dX4_firstKnown_10 fX4_18 (by unfold xV; omega) (fun _ _ => rfl) (by decide) rfl (by first | exact hg | (simp [fr, upd]; exact hg)) ?_
    refine mJ_bipush (v := nI 24) hK dX4_firstKnown_13 (by decide) ?_
    refine mJ_isubN hK dX4_firstKnown_15 (by omega) ?_
    refine mJ_goto (tgt := 20) hK dX4_firstKnown_16 (by decide) ?_
    refine mJ_iret hK dX4_firstKnown_20 rfl hZ (by decide) (by decide) ?_
    first | exact ⟨rfl, rfl⟩ | exact ⟨by rw [Nat.sub_eq_zero_of_le (by omega)], rfl⟩

set_option maxRecDepth 100000 in
set_option maxHeartbeats 4000000 in
theorem k_X4_knows {l : Launch} {D : va_G} {aC : Nat → ClassId} {ad : xAd} {h0 h : mH} {F : xFm} {W : xWm} {pm : Nat → Nat} (hR : xR xV ad h0 F W pm h) {s : Nat} (hs : s < 2) {g : Nat} (hg : F 9 s 0 2 = nI g) (hgb : g < 1000000) (x : Int32) : mCon l D aC mX4_knows [.ref (ad 9 s 0), .int x] h (mRi (bI (nI (g - 24) ≤ x ∧ x < nI g)) (fun h' => h' = h)) := by
  refine mCon.of [some (.ref (ad 9 s 0)), some (.int x)] (by decide +kernel) rfl (Nat.le_of_ble_eq_true rfl) ?_
  intro K el eD eC hK hZ
  subst el eD eC
  refine mJ_iload_n hK dX4_knows_0 rfl ?_
  refine mJ_aload_n hK dX4_knows_1 rfl ?_
  refine mJ_cVi hK dX4_knows_2 lX4_32 (by unfold mFit; decide) (by decide) (k_X4_firstKnown hR hs hg hgb) rfl rfl (Nat.le_of_ble_eq_true rfl) (hR.1 _ _ _ (by unfold xV; omega)) ⟨_, _, rfl⟩ (fun h e9 => ?_)
  subst e9
  refine mJ_icmp_lt (tgt := 20) hK dX4_knows_5 (by decide) (fun c_5 => ?_) (fun c_5 => ?_)
  · refine mJ_iconst (v := nI 0) hK dX4_knows_20 (by decide) ?_
    refine mJ_zret hK dX4_knows_21 rfl (by decide) hZ (by decide) (by decide) ?_
    first | exact ⟨congrArg (fun z => some (Value.int z)) (b0 (by simp only [Int32.le_iff_toInt_le, Int32.lt_iff_toInt_lt] at *; omega)), rfl⟩ | exact ⟨congrArg (fun z => some (Value.int z)) (b1 (by simp only [Int32.le_iff_toInt_le, Int32.lt_iff_toInt_lt] at *; omega)), rfl⟩
  · refine mJ_iload_n hK dX4_knows_8 rfl ?_
    refine mJ_aload_n hK dX4_knows_9 rfl ?_
    refine xJ_getx (nI g) hR hK dX4_knows_10 fX4_18 (by unfold xV; omega) (fun _ _ => rfl) (by decide) rfl (by first | exact hg | (simp [fr, upd]; exact hg)) ?_
    refine mJ_icmp_ge (tgt := 20) hK dX4_knows_13 (by decide) (fun c_13 => ?_) (fun c_13 => ?_)
    · refine mJ_iconst (v := nI 0) hK dX4_knows_20 (by decide) ?_
      refine mJ_zret hK dX4_knows_21 rfl (by decide) hZ (by decide) (by decide) ?_
      first | exact ⟨congrArg (fun z => some (Value.int z)) (b0 (by simp only [Int32.le_iff_toInt_le, Int32.lt_iff_toInt_lt] at *; omega)), rfl⟩ | exact ⟨congrArg (fun z => some (Value.int z)) (b1 (by simp only [Int32.le_iff_toInt_le, Int32.lt_iff_toInt_lt] at *; omega)), rfl⟩
    · refine mJ_iconst (v := nI 1) hK dX4_knows_16 (by decide) ?_
      refine mJ_goto (tgt := 21) hK dX4_knows_17 (by decide) ?_
      refine mJ_zret hK dX4_knows_21 rfl (by decide) hZ (by decide) (by decide) ?_
      first | exact ⟨congrArg (fun z => some (Value.int z)) (b0 (by simp only [Int32.le_iff_toInt_le, Int32.lt_iff_toInt_lt] at *; omega)), rfl⟩ | exact ⟨congrArg (fun z => some (Value.int z)) (b1 (by simp only [Int32.le_iff_toInt_le, Int32.lt_iff_toInt_lt] at *; omega)), rfl⟩

set_option maxRecDepth 100000 in
set_option maxHeartbeats 4000000 in
theorem k_X4_stateOf {l : Launch} {D : va_G} {aC : Nat → ClassId} {ad : xAd} {h0 h : mH} {F : xFm} {W : xWm} {pm : Nat → Nat} (hR : xR xV ad h0 F W pm h) {s : Nat} (hs : s < 2) {g : Nat} (hg : F 9 s 0 2 = nI g) (hgb : g < 1000000) {t : Nat} (ht1 : g - 24 ≤ t) (ht2 : t < g) : mCon l D aC mX4_stateOf [.ref (ad 9 s 0), .int (nI t)] h (mRi (F 10 s 0 (t % 24)) (fun h' => h' = h)) := by
  refine mCon.of [some (.ref (ad 9 s 0)), some (.int (nI t))] (by decide +kernel) rfl (Nat.le_of_ble_eq_true rfl) ?_
  intro K el eD eC hK hZ
  subst el eD eC
  refine mJ_aload_n hK dX4_stateOf_0 rfl ?_
  refine mJ_iload_n hK dX4_stateOf_1 rfl ?_
  refine mJ_cVi hK dX4_stateOf_2 lX4_36 (by unfold mFit; decide) (by decide) (k_X4_knows hR hs hg hgb _) rfl rfl (Nat.le_of_ble_eq_true rfl) (hR.1 _ _ _ (by unfold xV; omega)) ⟨_, _, rfl⟩ (fun h e9 => ?_)
  subst e9
  refine mJ_ifb_eq (tgt := 20) hK dX4_stateOf_5 (by decide) (fun c_5 => ?_) (fun c_5 => ?_)
  · exact (c_5 ⟨nI_le ht1 (by omega), nI_lt ht2 (by omega)⟩).elim
  · refine mJ_aload_n hK dX4_stateOf_8 rfl ?_
    refine xJ_getr hR hK dX4_stateOf_9 fX4_9 (by unfold xV; omega) (fun _ _ => rfl) (by decide) (fun _ _ => rfl) ?_
    refine mJ_iload_n hK dX4_stateOf_12 rfl ?_
    refine mJ_cSi hK dX4_stateOf_13 lX4_22 (by unfold mFit; decide) (by decide) (k_X4_placeOf (by omega)) rfl rfl (Nat.le_of_ble_eq_true rfl) (fun h e9 => ?_)
    subst e9
    refine xJ_iald (t % 24) hR hK dX4_stateOf_16 (by unfold xV; omega) (fun _ _ => rfl) rfl (by omega) (by decide) ?_
    refine mJ_goto (tgt := 21) hK dX4_stateOf_17 (by decide) ?_
    refine mJ_iret hK dX4_stateOf_21 rfl hZ (by decide) (by decide) ?_
    exact ⟨rfl, rfl⟩

set_option maxRecDepth 100000 in
set_option maxHeartbeats 4000000 in
theorem k_X4_answerTo {l : Launch} {D : va_G} {aC : Nat → ClassId} {ad : xAd} {h0 h : mH} {F : xFm} {W : xWm} {pm : Nat → Nat} (hR : xR xV ad h0 F W pm h) {s : Nat} (hs : s < 2) {g : Nat} (hg : F 9 s 0 2 = nI g) (hgb : g < 1000000) {t : Nat} (ht1 : g - 24 ≤ t) (ht2 : t < g) : mCon l D aC mX4_answerTo [.ref (ad 9 s 0), .int (nI t)] h (mRi (F 11 s 0 (t % 24)) (fun h' => h' = h)) := by
  refine mCon.of [some (.ref (ad 9 s 0)), some (.int (nI t))] (by decide +kernel) rfl (Nat.le_of_ble_eq_true rfl) ?_
  intro K el eD eC hK hZ
  subst el eD eC
  refine mJ_aload_n hK dX4_answerTo_0 rfl ?_
  refine mJ_iload_n hK dX4_answerTo_1 rfl ?_
  refine mJ_cVi hK dX4_answerTo_2 lX4_36 (by unfold mFit; decide) (by decide) (k_X4_knows hR hs hg hgb _) rfl rfl (Nat.le_of_ble_eq_true rfl) (hR.1 _ _ _ (by unfold xV; omega)) ⟨_, _, rfl⟩ (fun h e9 => ?_)
  subst e9
  refine mJ_ifb_eq (tgt := 20) hK dX4_answerTo_5 (by decide) (fun c_5 => ?_) (fun c_5 => ?_)
  · exact (c_5 ⟨nI_le ht1 (by omega), nI_lt ht2 (by omega)⟩).elim
  · refine mJ_aload_n hK dX4_answerTo_8 rfl ?_
    refine xJ_getr hR hK dX4_answerTo_9 fX4_15 (by unfold xV; omega) (fun _ _ => rfl) (by decide) (fun _ _ => rfl) ?_
    refine mJ_iload_n hK dX4_answerTo_12 rfl ?_
    refine mJ_cSi hK dX4_answerTo_13 lX4_22 (by unfold mFit; decide) (by decide) (k_X4_placeOf (by omega)) rfl rfl (Nat.le_of_ble_eq_true rfl) (fun h e9 => ?_)
    subst e9
    refine xJ_iald (t % 24) hR hK dX4_answerTo_16 (by unfold xV; omega) (fun _ _ => rfl) rfl (by omega) (by decide) ?_
    refine mJ_goto (tgt := 21) hK dX4_answerTo_17 (by decide) ?_
    refine mJ_iret hK dX4_answerTo_21 rfl hZ (by decide) (by decide) ?_
    exact ⟨rfl, rfl⟩

set_option maxRecDepth 100000 in
set_option maxHeartbeats 4000000 in
theorem k_X4_settle {l : Launch} {D : va_G} {aC : Nat → ClassId} {ad : xAd} {h0 h : mH} {F : xFm} {W : xWm} {pm : Nat → Nat} (hR : xR xV ad h0 F W pm h) {s : Nat} (hs : s < 2) {g : Nat} (hg : F 9 s 0 2 = nI g) (hgb : g < 1000000) (x a r : Int32) : mCon l D aC mX4_settle [.ref (ad 9 s 0), .int x, .int a, .int r] h (mRv (fun h' => xR xV ad h0 (xSt F s g x a r) W pm h')) := by
  refine mCon.of [some (.ref (ad 9 s 0)), some (.int x), some (.int a), some (.int r)] (by decide +kernel) rfl (Nat.le_of_ble_eq_true rfl) ?_
  intro K el eD eC hK hZ
  subst el eD eC
  refine mJ_aload_n hK dX4_settle_0 rfl ?_
  refine mJ_iload_n hK dX4_settle_1 rfl ?_
  refine mJ_cVi hK dX4_settle_2 lX4_36 (by unfold mFit; decide) (by decide) (k_X4_knows hR hs hg hgb _) rfl rfl (Nat.le_of_ble_eq_true rfl) (hR.1 _ _ _ (by unfold xV; omega)) ⟨_, _, rfl⟩ (fun h e9 => ?_)
  subst e9
  refine mJ_ifb_eq (tgt := 28) hK dX4_settle_5 (by decide) (fun c_5 => ?_) (fun c_5 => ?_)
  · refine mJ_vret hK dX4_settle_28 rfl hZ (by decide) (by decide) ?_
    first | (refine ⟨rfl, xR_ext hR ?_⟩; unfold xSt; rw [if_neg c_5]) | (refine ⟨rfl, xR_ext hR ?_⟩; unfold xSt; rw [if_pos c_5, nI_clamp (by omega)]; rfl)
  · obtain ⟨t, ht1, ht2, rfl⟩ := kn_of c_5 (by omega) (by omega)
    refine mJ_aload_n hK dX4_settle_8 rfl ?_
    refine xJ_getr hR hK dX4_settle_9 fX4_9 (by unfold xV; omega) (fun _ _ => rfl) (by decide) (fun _ _ => rfl) ?_
    refine mJ_iload_n hK dX4_settle_12 rfl ?_
    refine mJ_cSi hK dX4_settle_13 lX4_22 (by unfold mFit; decide) (by decide) (k_X4_placeOf (by omega)) rfl rfl (Nat.le_of_ble_eq_true rfl) (fun h e9 => ?_)
    subst e9
    refine mJ_iload_n hK dX4_settle_16 rfl ?_
    refine xJ_iast (t % 24) hR hK dX4_settle_17 (by unfold xV; omega) (fun _ _ => rfl) rfl (by omega) (by decide) (fun h hR => ?_)
    refine mJ_aload_n hK dX4_settle_18 rfl ?_
    refine xJ_getr hR hK dX4_settle_19 fX4_15 (by unfold xV; omega) (fun _ _ => rfl) (by decide) (fun _ _ => rfl) ?_
    refine mJ_iload_n hK dX4_settle_22 rfl ?_
    refine mJ_cSi hK dX4_settle_23 lX4_22 (by unfold mFit; decide) (by decide) (k_X4_placeOf (by omega)) rfl rfl (Nat.le_of_ble_eq_true rfl) (fun h e9 => ?_)
    subst e9
    refine mJ_iload_n hK dX4_settle_26 rfl ?_
    refine xJ_iast (t % 24) hR hK dX4_settle_27 (by unfold xV; omega) (fun _ _ => rfl) rfl (by omega) (by decide) (fun h hR => ?_)
    refine mJ_vret hK dX4_settle_28 rfl hZ (by decide) (by decide) ?_
    first | (refine ⟨rfl, xR_ext hR ?_⟩; unfold xSt; rw [if_neg c_5]) | (refine ⟨rfl, xR_ext hR ?_⟩; unfold xSt; rw [if_pos c_5, nI_clamp (by omega)]; rfl)

set_option maxRecDepth 100000 in
set_option maxHeartbeats 4000000 in
theorem lp_X4_mixTickets {K : mK} (hK : mCx K mX4_mixTickets) {ad : xAd} {h0 : mH} {F : xFm} {W : xWm} {pm : Nat → Nat} {s : Nat} (hs : s < 2) {g : Nat} (hg : F 9 s 0 2 = nI g) (hgb : g < 1000000) {x : Int64} {h9 : mH} (hZ : mRt K mX4_mixTickets (mRl (tmx (F 10 s 0) (F 11 s 0) (31 * x + (nI g).toInt64) (g - 24) (g - (g - 24))) (fun h' => h' = h9))) : ∀ (fu : Nat) (i : Nat) (h : mH), g - i < fu → (i ≤ g - (g - 24)) → (h = h9) → (xR xV ad h0 F W pm h) → mJ K 0 0 16 [some (.ref (ad 9 s 0)), some (.long x), none, some (.long (tmx (F 10 s 0) (F 11 s 0) (31 * x + (nI g).toInt64) (g - 24) i)), none, some (.int (nI (g - 24 + i)))] [] h := by
  intro fu
  induction fu with
  | zero =>
    intro i h hm0
    exact absurd hm0 (by omega)
  | succ fu ih =>
    intro i h hm0 hi eh hR
    refine mJ_iload hK dX4_mixTickets_16 rfl ?_
    refine mJ_aload_n hK dX4_mixTickets_18 rfl ?_
    refine xJ_getx (nI g) hR hK dX4_mixTickets_19 fX4_18 (by unfold xV; omega) (fun _ _ => rfl) (by decide) rfl (by first | exact hg | (simp [fr, upd]; exact hg)) ?_
    refine mJ_nge (tgt := 65) hK dX4_mixTickets_22 (by decide) (by omega) (by omega) (fun c_22 => ?_) (fun c_22 => ?_)
    · refine mJ_lload_n hK dX4_mixTickets_65 rfl ?_
      refine mJ_lret hK dX4_mixTickets_66 rfl hZ (by decide) (by decide) ?_
      have : i = g - (g - 24) := by omega
      subst this
      exact ⟨rfl, eh⟩
    · refine mJ_lload_n hK dX4_mixTickets_25 rfl ?_
      refine mJ_aload_n hK dX4_mixTickets_26 rfl ?_
      refine mJ_iload hK dX4_mixTickets_27 rfl ?_
      refine mJ_cVi hK dX4_mixTickets_29 lX4_50 (by unfold mFit; decide) (by decide) (k_X4_stateOf hR hs hg hgb (t := g - 24 + i) (by omega) (by omega)) rfl rfl (Nat.le_of_ble_eq_true rfl) (hR.1 _ _ _ (by unfold xV; omega)) ⟨_, _, rfl⟩ (fun h e9 => ?_)
      subst e9
      refine mJ_i2l hK dX4_mixTickets_32 ?_
      refine mJ_cNl hK dX4_mixTickets_33 lX4_46 (by unfold mFit; decide) (by decide) (k_X5_mix _ _) rfl rfl (Nat.le_of_ble_eq_true rfl) (fun h e9 => ?_)
      subst e9
      refine mJ_lstore_n hK dX4_mixTickets_36 (by decide) rfl ?_
      refine mJ_aload_n hK dX4_mixTickets_37 rfl ?_
      refine mJ_iload hK dX4_mixTickets_38 rfl ?_
      refine mJ_cVi hK dX4_mixTickets_40 lX4_50 (by unfold mFit; decide) (by decide) (k_X4_stateOf hR hs hg hgb (t := g - 24 + i) (by omega) (by omega)) rfl rfl (Nat.le_of_ble_eq_true rfl) (hR.1 _ _ _ (by unfold xV; omega)) ⟨_, _, rfl⟩ (fun h e9 => ?_)
      subst e9
      refine mJ_iconst (v := nI 1) hK dX4_mixTickets_43 (by decide) ?_
      refine mJ_icmp_ne (tgt := 59) hK dX4_mixTickets_44 (by decide) (fun c_44 => ?_) (fun c_44 => ?_)
      · refine mJ_iincN hK dX4_mixTickets_59 rfl rfl (by decide) rfl ?_
        refine mJ_goto (tgt := 16) hK dX4_mixTickets_62 (by decide) ?_
        refine mJ_L ?_ (ih (i + 1) _ (by omega) (by omega) eh hR)
        first | (simp only [tmx, if_pos c_44]; rfl) | (simp only [tmx, if_neg c_44]; rfl)
      · refine mJ_lload_n hK dX4_mixTickets_47 rfl ?_
        refine mJ_aload_n hK dX4_mixTickets_48 rfl ?_
        refine mJ_iload hK dX4_mixTickets_49 rfl ?_
        refine mJ_cVi hK dX4_mixTickets_51 lX4_53 (by unfold mFit; decide) (by decide) (k_X4_answerTo hR hs hg hgb (t := g - 24 + i) (by omega) (by omega)) rfl rfl (Nat.le_of_ble_eq_true rfl) (hR.1 _ _ _ (by unfold xV; omega)) ⟨_, _, rfl⟩ (fun h e9 => ?_)
        subst e9
        refine mJ_i2l hK dX4_mixTickets_54 ?_
        refine mJ_cNl hK dX4_mixTickets_55 lX4_46 (by unfold mFit; decide) (by decide) (k_X5_mix _ _) rfl rfl (Nat.le_of_ble_eq_true rfl) (fun h e9 => ?_)
        subst e9
        refine mJ_lstore_n hK dX4_mixTickets_58 (by decide) rfl ?_
        refine mJ_iincN hK dX4_mixTickets_59 rfl rfl (by decide) rfl ?_
        refine mJ_goto (tgt := 16) hK dX4_mixTickets_62 (by decide) ?_
        refine mJ_L ?_ (ih (i + 1) _ (by omega) (by omega) eh hR)
        first | (simp only [tmx, if_pos c_44]; rfl) | (simp only [tmx, if_neg c_44]; rfl)

set_option maxRecDepth 100000 in
set_option maxHeartbeats 4000000 in
theorem k_X4_mixTickets {l : Launch} {D : va_G} {aC : Nat → ClassId} {ad : xAd} {h0 h : mH} {F : xFm} {W : xWm} {pm : Nat → Nat} (hR : xR xV ad h0 F W pm h) {s : Nat} (hs : s < 2) {g : Nat} (hg : F 9 s 0 2 = nI g) (hgb : g < 1000000) (x : Int64) : mCon l D aC mX4_mixTickets [.ref (ad 9 s 0), .long x] h (mRl (tmx (F 10 s 0) (F 11 s 0) (31 * x + (nI g).toInt64) (g - 24) (g - (g - 24))) (fun h' => h' = h)) := by
  refine mCon.of [some (.ref (ad 9 s 0)), some (.long x), none, none, none, none] (by decide +kernel) rfl (Nat.le_of_ble_eq_true rfl) ?_
  intro K el eD eC hK hZ
  subst el eD eC
  refine mJ_lload_n hK dX4_mixTickets_0 rfl ?_
  refine mJ_aload_n hK dX4_mixTickets_1 rfl ?_
  refine xJ_getx (nI g) hR hK dX4_mixTickets_2 fX4_18 (by unfold xV; omega) (fun _ _ => rfl) (by decide) rfl (by first | exact hg | (simp [fr, upd]; exact hg)) ?_
  refine mJ_i2l hK dX4_mixTickets_5 ?_
  refine mJ_cNl hK dX4_mixTickets_6 lX4_46 (by unfold mFit; decide) (by decide) (k_X5_mix _ _) rfl rfl (Nat.le_of_ble_eq_true rfl) (fun h e9 => ?_)
  subst e9
  refine mJ_lstore_n hK dX4_mixTickets_9 (by decide) rfl ?_
  refine mJ_aload_n hK dX4_mixTickets_10 rfl ?_
  refine mJ_cVi hK dX4_mixTickets_11 lX4_32 (by unfold mFit; decide) (by decide) (k_X4_firstKnown hR hs hg hgb) rfl rfl (Nat.le_of_ble_eq_true rfl) (hR.1 _ _ _ (by unfold xV; omega)) ⟨_, _, rfl⟩ (fun h e9 => ?_)
  subst e9
  refine mJ_istore hK dX4_mixTickets_14 (by decide) rfl ?_
  exact lp_X4_mixTickets hK hs hg hgb hZ (g + 1) 0 _ (by omega) (by omega) rfl hR

def xTc (F : xFm) (s t : Nat) : xFm := fr (fr (fr F 10 s 0 (va_cpy (F 10 t 0) (F 10 s 0) 0 0 24)) 11 s 0 (va_cpy (F 11 t 0) (F 11 s 0) 0 0 24)) 9 s 0 (upd (F 9 s 0) 2 (F 9 t 0 2))