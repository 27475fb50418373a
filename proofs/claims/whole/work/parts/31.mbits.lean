theorem wl_lt {a b : Int32} : a.toInt64 < b.toInt64 ↔ a < b := by
  rw [Int64.lt_iff_toInt_lt, Int32.lt_iff_toInt_lt, Int32.toInt_toInt64, Int32.toInt_toInt64]
theorem wl_eq {a b : Int32} : a.toInt64 = b.toInt64 ↔ a = b := by
  rw [← Int64.toInt_inj, ← Int32.toInt_inj, Int32.toInt_toInt64, Int32.toInt_toInt64]
theorem or0 {x : Int32} : x ||| nI 0 = x := by
  rw [nI_0]
  exact Int32.or_zero
theorem sh31 {c : Nat} (hc : c < 32) : ((nI c &&& 31).toBitVec.smod 32).toNat = c := by
  have : ∀ n : Fin 32, ((nI n.1 &&& 31).toBitVec.smod 32).toNat = n.1 := by decide
  exact this ⟨c, hc⟩
theorem bitA {x : Int32} {c : Nat} (hc : c < 32) : ((x >>> (nI c &&& 31)) &&& nI 1).toBitVec.getLsbD 0 = x.toBitVec.getLsbD c := by
  rw [Int32.toBitVec_and, BitVec.getLsbD_and, Int32.toBitVec_shiftRight, BitVec.sshiftRight', BitVec.getLsbD_sshiftRight, sh31 hc]
  have e1 : (nI 1).toBitVec.getLsbD 0 = true := by decide
  rw [e1]
  simp [hc]
theorem and1 {x : Int32} : x &&& nI 1 = nI (if x.toBitVec.getLsbD 0 = true then 1 else 0) := by
  obtain ⟨j, hj, e⟩ := pk_andE x (m := nI 1) 1 (by decide)
  have h : (x &&& nI 1).toBitVec.getLsbD 0 = x.toBitVec.getLsbD 0 := by
    rw [Int32.toBitVec_and, BitVec.getLsbD_and]
    have e1 : (nI 1).toBitVec.getLsbD 0 = true := by decide
    rw [e1, Bool.and_true]
  rw [e] at h
  rw [e, ← h]
  have : j = 0 ∨ j = 1 := by omega
  rcases this with rfl | rfl <;> decide
theorem bitU {x : Int32} {c : Nat} (hc : c < 32) : usP x (nI c) ↔ x.toBitVec.getLsbD c = true := by
  unfold usP
  have h := bitA (x := x) hc
  rw [and1] at h
  rw [and1]
  by_cases e : (x >>> (nI c &&& 31)).toBitVec.getLsbD 0 = true
  · rw [if_pos e] at h ⊢
    rw [← h]
    decide
  · rw [if_neg e] at h ⊢
    rw [← h]
    decide
theorem us1 {x : Int32} {c : Nat} : ((x >>> (nI c &&& 31)) &&& nI 1 = nI 1) ↔ usP x (nI c) := by
  unfold usP
  rw [and1]
  split <;> decide
theorem rdL {p w : Int32} : (p &&& (w ^^^ -1) = 0) ↔ (p &&& w = p) := by
  rw [← Int32.toBitVec_inj, ← Int32.toBitVec_inj]
  simp only [Int32.toBitVec_and, Int32.toBitVec_xor]
  have e : Int32.toBitVec (-1) = BitVec.allOnes 32 := by decide
  have e0 : Int32.toBitVec 0 = 0#32 := by decide
  rw [e, e0]
  constructor
  · intro h
    apply BitVec.eq_of_getLsbD_eq
    intro i hi
    have h2 := congrArg (fun z => BitVec.getLsbD z i) h
    simp only [BitVec.getLsbD_and, BitVec.getLsbD_xor, BitVec.getLsbD_allOnes, BitVec.getLsbD_zero, hi, decide_true] at h2 ⊢
    revert h2
    cases p.toBitVec.getLsbD i <;> cases w.toBitVec.getLsbD i <;> decide
  · intro h
    apply BitVec.eq_of_getLsbD_eq
    intro i hi
    have h2 := congrArg (fun z => BitVec.getLsbD z i) h
    simp only [BitVec.getLsbD_and, BitVec.getLsbD_xor, BitVec.getLsbD_allOnes, BitVec.getLsbD_zero, hi, decide_true] at h2 ⊢
    revert h2
    cases p.toBitVec.getLsbD i <;> cases w.toBitVec.getLsbD i <;> decide
theorem shl1 {r i : Nat} (hr : r < 32) (hi : i < 32) : (nI 1 <<< (nI r &&& 31)).toBitVec.getLsbD i = decide (i = r) := by
  have : ∀ a b : Fin 32, (nI 1 <<< (nI a.1 &&& 31)).toBitVec.getLsbD b.1 = decide (b.1 = a.1) := by decide
  exact this ⟨r, hr⟩ ⟨i, hi⟩
theorem bmk_bit {p : Nat → Bool} {i : Nat} (hi : i < 32) : ∀ {n : Nat}, n ≤ 32 → (bmk p n).toBitVec.getLsbD i = (decide (i < n) && p i)
  | 0, _ => by
    have : ∀ b : Fin 32, (nI 0).toBitVec.getLsbD b.1 = false := by decide
    rw [bmk, this ⟨i, hi⟩]
    simp
  | n + 1, h => by
    have ih := bmk_bit (p := p) hi (n := n) (by omega)
    rw [bmk]
    by_cases e : i = n
    · subst e
      by_cases hp : p i = true
      · rw [if_pos hp, Int32.toBitVec_or, BitVec.getLsbD_or, ih, shl1 hi hi]
        simp [hp]
      · rw [if_neg hp, ih]
        simp [hp]
    · have e1 : decide (i < n + 1) = decide (i < n) := by
        apply decide_eq_decide.mpr
        omega
      rw [e1]
      split
      · rw [Int32.toBitVec_or, BitVec.getLsbD_or, ih, shl1 (by omega) hi]
        simp [e]
      · exact ih
theorem bmk_us {p : Nat → Bool} {n i : Nat} (hn : n ≤ 32) (hi : i < n) : usP (bmk p n) (nI i) ↔ p i = true := by
  rw [bitU (by omega), bmk_bit (by omega) hn]
  simp [hi]
set_option maxRecDepth 100000 in
set_option maxHeartbeats 4000000 in
theorem lp_X6_waitingNow {K : mK} (hK : mCx K mX6_waitingNow) {ad : xAd} {h0 : mH} {F : xFm} {W : xWm} {pm : Nat → Nat} {q : Nat → Nat} (hq : ∀ c, c < 8 → F 44 0 0 c = nI (q c) ∧ q c ≤ 8) {h9 : mH} (hZ : mRt K mX6_waitingNow (mRi (wtM q) (fun h' => h' = h9))) : ∀ (fu : Nat) (e : Nat) (h : mH), 8 - e < fu → (e ≤ 8) → (h = h9) → (xR yV ad h0 F W pm h) → mJ K 0 0 4 [some (.ref (ad 30 0 0)), some (.int (bmk (fun c => decide (0 < q c)) e)), some (.int (nI e))] [] h := by
  intro fu
  induction fu with
  | zero =>
    intro e h hm0
    exact absurd hm0 (by omega)
  | succ fu ih =>
    intro e h hm0 he eh hR
    refine mJ_iload_n hK dX6_waitingNow_4 rfl ?_
    refine mJ_bipush (v := nI 8) hK dX6_waitingNow_5 (by decide) ?_
    refine mJ_nge (tgt := 35) hK dX6_waitingNow_7 (by decide) (by first | omega | (have := (hq e (by omega)).2; omega)) (by first | omega | (have := (hq e (by omega)).2; omega)) (fun c_7 => ?_) (fun c_7 => ?_)
    · refine mJ_iload_n hK dX6_waitingNow_35 rfl ?_
      refine mJ_iret hK dX6_waitingNow_36 rfl hZ (by decide) (by decide) ?_
      have : e = 8 := by omega
      subst this
      exact ⟨rfl, eh⟩
    · refine mJ_iload_n hK dX6_waitingNow_10 rfl ?_
      refine mJ_aload_n hK dX6_waitingNow_11 rfl ?_
      refine xJ_getr hR hK dX6_waitingNow_12 fX6_41 (by unfold yV; omega) (fun _ _ => rfl) (by decide) (fun _ _ => rfl) ?_
      refine mJ_iload_n hK dX6_waitingNow_15 rfl ?_
      refine xJ_ialdx e (nI (q e)) hR hK dX6_waitingNow_16 (by unfold yV; omega) (fun _ _ => rfl) rfl (by omega) (by decide) ((hq e (by omega)).1) ?_
      refine mJ_nif_le (tgt := 26) hK dX6_waitingNow_17 (by decide) (by first | omega | (have := (hq e (by omega)).2; omega)) (fun c_17 => ?_) (fun c_17 => ?_)
      · refine mJ_iconst (v := nI 0) hK dX6_waitingNow_26 (by decide) ?_
        refine mJ_ior hK dX6_waitingNow_27 ?_
        refine mJ_istore_n hK dX6_waitingNow_28 (by decide) rfl ?_
        refine mJ_iincN hK dX6_waitingNow_29 rfl rfl (by decide) rfl ?_
        refine mJ_goto (tgt := 4) hK dX6_waitingNow_32 (by decide) ?_
        refine mJ_L ?_ (ih (e + 1) _ (by omega) (by omega) eh hR)
        first | (rw [bmk_t (by simp; omega)]; rfl) | (rw [bmk_f (by simp; omega), or0]; rfl)
      · refine mJ_iconst (v := nI 1) hK dX6_waitingNow_20 (by decide) ?_
        refine mJ_iload_n hK dX6_waitingNow_21 rfl ?_
        refine mJ_ishl hK dX6_waitingNow_22 ?_
        refine mJ_goto (tgt := 27) hK dX6_waitingNow_23 (by decide) ?_
        refine mJ_ior hK dX6_waitingNow_27 ?_
        refine mJ_istore_n hK dX6_waitingNow_28 (by decide) rfl ?_
        refine mJ_iincN hK dX6_waitingNow_29 rfl rfl (by decide) rfl ?_
        refine mJ_goto (tgt := 4) hK dX6_waitingNow_32 (by decide) ?_
        refine mJ_L ?_ (ih (e + 1) _ (by omega) (by omega) eh hR)
        first | (rw [bmk_t (by simp; omega)]; rfl) | (rw [bmk_f (by simp; omega), or0]; rfl)

set_option maxRecDepth 100000 in
set_option maxHeartbeats 4000000 in
theorem k_X6_waitingNow {l : Launch} {D : va_G} {aC : Nat → ClassId} {ad : xAd} {h0 h : mH} {F : xFm} {W : xWm} {pm : Nat → Nat} (hR : xR yV ad h0 F W pm h) {q : Nat → Nat} (hq : ∀ c, c < 8 → F 44 0 0 c = nI (q c) ∧ q c ≤ 8) : mCon l D aC mX6_waitingNow [.ref (ad 30 0 0)] h (mRi (wtM q) (fun h' => h' = h)) := by
  refine mCon.of [some (.ref (ad 30 0 0)), none, none] (by decide +kernel) rfl (Nat.le_of_ble_eq_true rfl) ?_
  intro K el eD eC hK hZ
  subst el eD eC
  refine mJ_iconst (v := nI 0) hK dX6_waitingNow_0 (by decide) ?_
  refine mJ_istore_n hK dX6_waitingNow_1 (by decide) rfl ?_
  refine mJ_iconst (v := nI 0) hK dX6_waitingNow_2 (by decide) ?_
  refine mJ_istore_n hK dX6_waitingNow_3 (by decide) rfl ?_
  exact lp_X6_waitingNow hK hq hZ 9 0 _ (by omega) (by omega) rfl hR

set_option maxRecDepth 100000 in
set_option maxHeartbeats 4000000 in
theorem lp_X6_readyNow {K : mK} (hK : mCx K mX6_readyNow) {ad : xAd} {h0 : mH} {F : xFm} {W : xWm} {pm : Nat → Nat} {rn : Nat} (hrn : F 30 0 0 3 = nI rn) (hrn8 : rn ≤ 8) {q : Nat → Nat} {h9 : mH} (hZ : mRt K mX6_readyNow (mRi (bmk (fun r => decide (F 34 0 0 r &&& wtM q = F 34 0 0 r)) rn) (fun h' => h' = h9))) : ∀ (fu : Nat) (e : Nat) (h : mH), rn - e < fu → (e ≤ rn) → (h = h9) → (xR yV ad h0 F W pm h) → mJ K 0 0 9 [some (.ref (ad 30 0 0)), some (.int (wtM q)), some (.int (bmk (fun r => decide (F 34 0 0 r &&& wtM q = F 34 0 0 r)) e)), some (.int (nI e))] [] h := by
  intro fu
  induction fu with
  | zero =>
    intro e h hm0
    exact absurd hm0 (by omega)
  | succ fu ih =>
    intro e h hm0 he eh hR
    refine mJ_iload_n hK dX6_readyNow_9 rfl ?_
    refine mJ_aload_n hK dX6_readyNow_10 rfl ?_
    refine xJ_getx (nI rn) hR hK dX6_readyNow_11 fX6_188 (by unfold yV; omega) (fun _ _ => rfl) (by decide) rfl (by first | exact hrn | (simp [fr, upd]; exact hrn) | (simp [fr, upd, tS]; exact hrn)) ?_
    refine mJ_nge (tgt := 46) hK dX6_readyNow_14 (by decide) (by omega) (by omega) (fun c_14 => ?_) (fun c_14 => ?_)
    · refine mJ_iload_n hK dX6_readyNow_46 rfl ?_
      refine mJ_iret hK dX6_readyNow_47 rfl hZ (by decide) (by decide) ?_
      have : e = rn := by omega
      subst this
      exact ⟨rfl, eh⟩
    · refine mJ_iload_n hK dX6_readyNow_17 rfl ?_
      refine mJ_aload_n hK dX6_readyNow_18 rfl ?_
      refine xJ_getr hR hK dX6_readyNow_19 fX6_13 (by unfold yV; omega) (fun _ _ => rfl) (by decide) (fun _ _ => rfl) ?_
      refine mJ_iload_n hK dX6_readyNow_22 rfl ?_
      refine xJ_iald e hR hK dX6_readyNow_23 (by unfold yV; omega) (fun _ _ => rfl) rfl (by omega) (by decide) ?_
      refine mJ_iload_n hK dX6_readyNow_24 rfl ?_
      refine mJ_iconst (v := -1) hK dX6_readyNow_25 (by decide) ?_
      refine mJ_ixor hK dX6_readyNow_26 ?_
      refine mJ_iand hK dX6_readyNow_27 ?_
      refine mJ_if_ne (tgt := 37) hK dX6_readyNow_28 (by decide) (fun c_28 => ?_) (fun c_28 => ?_)
      · refine mJ_iconst (v := nI 0) hK dX6_readyNow_37 (by decide) ?_
        refine mJ_ior hK dX6_readyNow_38 ?_
        refine mJ_istore_n hK dX6_readyNow_39 (by decide) rfl ?_
        refine mJ_iincN hK dX6_readyNow_40 rfl rfl (by decide) rfl ?_
        refine mJ_goto (tgt := 9) hK dX6_readyNow_43 (by decide) ?_
        refine mJ_L ?_ (ih (e + 1) _ (by omega) (by omega) eh hR)
        first | (rw [bmk_t (decide_eq_true (rdL.mp c_28))]; rfl) | (rw [bmk_f (fun z => c_28 (rdL.mpr (of_decide_eq_true z))), or0]; rfl)
      · refine mJ_iconst (v := nI 1) hK dX6_readyNow_31 (by decide) ?_
        refine mJ_iload_n hK dX6_readyNow_32 rfl ?_
        refine mJ_ishl hK dX6_readyNow_33 ?_
        refine mJ_goto (tgt := 38) hK dX6_readyNow_34 (by decide) ?_
        refine mJ_ior hK dX6_readyNow_38 ?_
        refine mJ_istore_n hK dX6_readyNow_39 (by decide) rfl ?_
        refine mJ_iincN hK dX6_readyNow_40 rfl rfl (by decide) rfl ?_
        refine mJ_goto (tgt := 9) hK dX6_readyNow_43 (by decide) ?_
        refine mJ_L ?_ (ih (e + 1) _ (by omega) (by omega) eh hR)
        first | (rw [bmk_t (decide_eq_true (rdL.mp c_28))]; rfl) | (rw [bmk_f (fun z => c_28 (rdL.mpr (of_decide_eq_true z))), or0]; rfl)

set_option maxRecDepth 100000 in
set_option maxHeartbeats 4000000 in
theorem k_X6_readyNow {l : Launch} {D : va_G} {aC : Nat → ClassId} {ad : xAd} {h0 h : mH} {F : xFm} {W : xWm} {pm : Nat → Nat} (hR : xR yV ad h0 F W pm h) {rn : Nat} (hrn : F 30 0 0 3 = nI rn) (hrn8 : rn ≤ 8) {q : Nat → Nat} (hq : ∀ c, c < 8 → F 44 0 0 c = nI (q c) ∧ q c ≤ 8) : mCon l D aC mX6_readyNow [.ref (ad 30 0 0)] h (mRi (bmk (fun r => decide (F 34 0 0 r &&& wtM q = F 34 0 0 r)) rn) (fun h' => h' = h)) := by
  refine mCon.of [some (.ref (ad 30 0 0)), none, none, none] (by decide +kernel) rfl (Nat.le_of_ble_eq_true rfl) ?_
  intro K el eD eC hK hZ
  subst el eD eC
  refine mJ_aload_n hK dX6_readyNow_0 rfl ?_
  refine mJ_cVi hK dX6_readyNow_1 lX6_217 (by unfold mFit; decide) (by decide) (k_X6_waitingNow hR hq) rfl rfl (Nat.le_of_ble_eq_true rfl) (hR.1 _ _ _ (by unfold yV; omega)) ⟨_, _, rfl⟩ (fun h e9 => ?_)
  subst e9
  refine mJ_istore_n hK dX6_readyNow_4 (by decide) rfl ?_
  refine mJ_iconst (v := nI 0) hK dX6_readyNow_5 (by decide) ?_
  refine mJ_istore_n hK dX6_readyNow_6 (by decide) rfl ?_
  refine mJ_iconst (v := nI 0) hK dX6_readyNow_7 (by decide) ?_
  refine mJ_istore_n hK dX6_readyNow_8 (by decide) rfl ?_
  exact lp_X6_readyNow hK hrn hrn8 hZ (rn + 1) 0 _ (by omega) (by omega) rfl hR

set_option maxRecDepth 100000 in
set_option maxHeartbeats 4000000 in
theorem k_X6_waitingChannels {l : Launch} {D : va_G} {aC : Nat → ClassId} {ad : xAd} {h0 h : mH} {F : xFm} {W : xWm} {pm : Nat → Nat} (hR : xR yV ad h0 F W pm h) {q : Nat → Nat} (hq : ∀ c, c < 8 → F 44 0 0 c = nI (q c) ∧ q c ≤ 8) : mCon l D aC mX6_waitingChannels [.ref (ad 30 0 0)] h (mRi (wtM q) (fun h' => xR yV ad h0 (tS F (nI 0)) W pm h')) := by
  refine mCon.of [some (.ref (ad 30 0 0))] (by decide +kernel) rfl (Nat.le_of_ble_eq_true rfl) ?_
  intro K el eD eC hK hZ
  subst el eD eC
  refine mJ_aload_n hK dX6_waitingChannels_0 rfl ?_
  refine mJ_iconst (v := nI 0) hK dX6_waitingChannels_1 (by decide) ?_
  refine xJ_puti hR hK dX6_waitingChannels_2 fX6_117 sX6_0 rfl rfl (by unfold yV; omega) (fun _ _ => rfl) (by decide) rfl (fun h hR => ?_)
  refine mJ_aload_n hK dX6_waitingChannels_5 rfl ?_
  refine mJ_cVi hK dX6_waitingChannels_6 lX6_217 (by unfold mFit; decide) (by decide) (k_X6_waitingNow hR (q := q) (fun c hc => by first | exact hq c hc | (have := hq c hc; simp [fr, upd, tS]; exact this))) rfl rfl (Nat.le_of_ble_eq_true rfl) (hR.1 _ _ _ (by unfold yV; omega)) ⟨_, _, rfl⟩ (fun h e9 => ?_)
  subst e9
  refine mJ_iret hK dX6_waitingChannels_9 rfl hZ (by decide) (by decide) ?_
  exact ⟨rfl, hR⟩

set_option maxRecDepth 100000 in
set_option maxHeartbeats 4000000 in
theorem k_X6_readyRules {l : Launch} {D : va_G} {aC : Nat → ClassId} {ad : xAd} {h0 h : mH} {F : xFm} {W : xWm} {pm : Nat → Nat} (hR : xR yV ad h0 F W pm h) {rn : Nat} (hrn : F 30 0 0 3 = nI rn) (hrn8 : rn ≤ 8) {q : Nat → Nat} (hq : ∀ c, c < 8 → F 44 0 0 c = nI (q c) ∧ q c ≤ 8) : mCon l D aC mX6_readyRules [.ref (ad 30 0 0)] h (mRi (bmk (fun r => decide (F 34 0 0 r &&& wtM q = F 34 0 0 r)) rn) (fun h' => xR yV ad h0 (tS F (nI 0)) W pm h')) := by
  refine mCon.of [some (.ref (ad 30 0 0))] (by decide +kernel) rfl (Nat.le_of_ble_eq_true rfl) ?_
  intro K el eD eC hK hZ
  subst el eD eC
  refine mJ_aload_n hK dX6_readyRules_0 rfl ?_
  refine mJ_iconst (v := nI 0) hK dX6_readyRules_1 (by decide) ?_
  refine xJ_puti hR hK dX6_readyRules_2 fX6_117 sX6_0 rfl rfl (by unfold yV; omega) (fun _ _ => rfl) (by decide) rfl (fun h hR => ?_)
  refine mJ_aload_n hK dX6_readyRules_5 rfl ?_
  refine mJ_cVi hK dX6_readyRules_6 lX6_220 (by unfold mFit; decide) (by decide) (k_X6_readyNow hR (rn := rn) (by first | exact hrn | (simp [fr, upd]; exact hrn)) hrn8 (q := q) (fun c hc => by first | exact hq c hc | (have := hq c hc; simp [fr, upd, tS]; exact this))) rfl rfl (Nat.le_of_ble_eq_true rfl) (hR.1 _ _ _ (by unfold yV; omega)) ⟨_, _, rfl⟩ (fun h e9 => ?_)
  subst e9
  refine mJ_iret hK dX6_readyRules_9 rfl hZ (by decide) (by decide) ?_
  exact ⟨rfl, hR⟩
