set_option maxRecDepth 100000 in
set_option maxHeartbeats 4000000 in
theorem k_X0_isFull {l : Launch} {D : va_G} {aC : Nat → ClassId} {ad : xAd} {h0 h : mH} {F : xFm} {W : xWm} {pm : Nat → Nat} (hR : xR xV ad h0 F W pm h) {s c : Nat} (hs : s < 2) (hc : c < 8) {n : Nat} (hn : F 13 s c 3 = nI n) (hn8 : n ≤ 8) : mCon l D aC mX0_isFull [.ref (ad 13 s c)] h (mRi (bI (8 ≤ n)) (fun h' => h' = h)) := by
  refine mCon.of [some (.ref (ad 13 s c))] (by decide +kernel) rfl (Nat.le_of_ble_eq_true rfl) ?_
  intro K el eD eC hK hZ
  subst el eD eC
  refine mJ_aload_n hK dX0_isFull_0 rfl ?_
  refine xJ_getx (nI n) hR hK dX0_isFull_1 fX0_21 (by unfold xV; omega) (fun _ _ => rfl) (by decide) rfl (by first | exact hn | (simp [fr, upd]; exact hn)) ?_
  refine mJ_bipush (v := nI 8) hK dX0_isFull_4 (by decide) ?_
  refine mJ_nlt (tgt := 13) hK dX0_isFull_6 (by decide) (by omega) (by omega) (fun c_6 => ?_) (fun c_6 => ?_)
  · refine mJ_iconst (v := nI 0) hK dX0_isFull_13 (by decide) ?_
    refine mJ_zret hK dX0_isFull_14 rfl (by decide) hZ (by decide) (by decide) ?_
    first | exact ⟨congrArg (fun z => some (Value.int z)) (b0 (by omega)), rfl⟩ | exact ⟨congrArg (fun z => some (Value.int z)) (b1 (by omega)), rfl⟩
  · refine mJ_iconst (v := nI 1) hK dX0_isFull_9 (by decide) ?_
    refine mJ_goto (tgt := 14) hK dX0_isFull_10 (by decide) ?_
    refine mJ_zret hK dX0_isFull_14 rfl (by decide) hZ (by decide) (by decide) ?_
    first | exact ⟨congrArg (fun z => some (Value.int z)) (b0 (by omega)), rfl⟩ | exact ⟨congrArg (fun z => some (Value.int z)) (b1 (by omega)), rfl⟩

set_option maxRecDepth 100000 in
set_option maxHeartbeats 4000000 in
theorem k_X0_has {l : Launch} {D : va_G} {aC : Nat → ClassId} {ad : xAd} {h0 h : mH} {F : xFm} {W : xWm} {pm : Nat → Nat} (hR : xR xV ad h0 F W pm h) {s c : Nat} (hs : s < 2) (hc : c < 8) {n : Nat} (hn : F 13 s c 3 = nI n) (hn8 : n ≤ 8) (x : Int32) : mCon l D aC mX0_has [.ref (ad 13 s c), .int x] h (mRi (bI (0 ≤ x ∧ x < nI n)) (fun h' => h' = h)) := by
  refine mCon.of [some (.ref (ad 13 s c)), some (.int x)] (by decide +kernel) rfl (Nat.le_of_ble_eq_true rfl) ?_
  intro K el eD eC hK hZ
  subst el eD eC
  refine mJ_iload_n hK dX0_has_0 rfl ?_
  refine mJ_if_lt (tgt := 16) hK dX0_has_1 (by decide) (fun c_1 => ?_) (fun c_1 => ?_)
  · refine mJ_iconst (v := nI 0) hK dX0_has_16 (by decide) ?_
    refine mJ_zret hK dX0_has_17 rfl (by decide) hZ (by decide) (by decide) ?_
    first | exact ⟨congrArg (fun z => some (Value.int z)) (b0 (by simp only [Int32.le_iff_toInt_le, Int32.lt_iff_toInt_lt, bi8, bi0] at *; omega)), rfl⟩ | exact ⟨congrArg (fun z => some (Value.int z)) (b1 (by simp only [Int32.le_iff_toInt_le, Int32.lt_iff_toInt_lt, bi8, bi0] at *; omega)), rfl⟩
  · refine mJ_iload_n hK dX0_has_4 rfl ?_
    refine mJ_aload_n hK dX0_has_5 rfl ?_
    refine xJ_getx (nI n) hR hK dX0_has_6 fX0_21 (by unfold xV; omega) (fun _ _ => rfl) (by decide) rfl (by first | exact hn | (simp [fr, upd]; exact hn)) ?_
    refine mJ_icmp_ge (tgt := 16) hK dX0_has_9 (by decide) (fun c_9 => ?_) (fun c_9 => ?_)
    · refine mJ_iconst (v := nI 0) hK dX0_has_16 (by decide) ?_
      refine mJ_zret hK dX0_has_17 rfl (by decide) hZ (by decide) (by decide) ?_
      first | exact ⟨congrArg (fun z => some (Value.int z)) (b0 (by simp only [Int32.le_iff_toInt_le, Int32.lt_iff_toInt_lt, bi8, bi0] at *; omega)), rfl⟩ | exact ⟨congrArg (fun z => some (Value.int z)) (b1 (by simp only [Int32.le_iff_toInt_le, Int32.lt_iff_toInt_lt, bi8, bi0] at *; omega)), rfl⟩
    · refine mJ_iconst (v := nI 1) hK dX0_has_12 (by decide) ?_
      refine mJ_goto (tgt := 17) hK dX0_has_13 (by decide) ?_
      refine mJ_zret hK dX0_has_17 rfl (by decide) hZ (by decide) (by decide) ?_
      first | exact ⟨congrArg (fun z => some (Value.int z)) (b0 (by simp only [Int32.le_iff_toInt_le, Int32.lt_iff_toInt_lt, bi8, bi0] at *; omega)), rfl⟩ | exact ⟨congrArg (fun z => some (Value.int z)) (b1 (by simp only [Int32.le_iff_toInt_le, Int32.lt_iff_toInt_lt, bi8, bi0] at *; omega)), rfl⟩

set_option maxRecDepth 100000 in
set_option maxHeartbeats 4000000 in
theorem k_X0_valueAt {l : Launch} {D : va_G} {aC : Nat → ClassId} {ad : xAd} {h0 h : mH} {F : xFm} {W : xWm} {pm : Nat → Nat} (hR : xR xV ad h0 F W pm h) {s c : Nat} (hs : s < 2) (hc : c < 8) {n : Nat} (hn : F 13 s c 3 = nI n) (hn8 : n ≤ 8) {i : Nat} (hi : i < n) : mCon l D aC mX0_valueAt [.ref (ad 13 s c), .int (nI i)] h (mRi (F 14 s c i) (fun h' => h' = h)) := by
  refine mCon.of [some (.ref (ad 13 s c)), some (.int (nI i))] (by decide +kernel) rfl (Nat.le_of_ble_eq_true rfl) ?_
  intro K el eD eC hK hZ
  subst el eD eC
  refine mJ_iload_n hK dX0_valueAt_0 rfl ?_
  refine mJ_nif_lt (tgt := 21) hK dX0_valueAt_1 (by decide) (by omega) ?_
  refine mJ_iload_n hK dX0_valueAt_4 rfl ?_
  refine mJ_aload_n hK dX0_valueAt_5 rfl ?_
  refine xJ_getx (nI n) hR hK dX0_valueAt_6 fX0_21 (by unfold xV; omega) (fun _ _ => rfl) (by decide) rfl (by first | exact hn | (simp [fr, upd]; exact hn)) ?_
  refine mJ_nge (tgt := 21) hK dX0_valueAt_9 (by decide) (by omega) (by omega) (fun c_9 => ?_) (fun c_9 => ?_)
  · exact absurd c_9 (by omega)
  · refine mJ_aload_n hK dX0_valueAt_12 rfl ?_
    refine xJ_getr hR hK dX0_valueAt_13 fX0_9 (by unfold xV; omega) (fun _ _ => rfl) (by decide) (fun _ _ => rfl) ?_
    refine mJ_iload_n hK dX0_valueAt_16 rfl ?_
    refine xJ_iald i hR hK dX0_valueAt_17 (by unfold xV; omega) (fun _ _ => rfl) rfl (by omega) (by decide) ?_
    refine mJ_goto (tgt := 22) hK dX0_valueAt_18 (by decide) ?_
    refine mJ_iret hK dX0_valueAt_22 rfl hZ (by decide) (by decide) ?_
    exact ⟨rfl, rfl⟩

set_option maxRecDepth 100000 in
set_option maxHeartbeats 4000000 in
theorem k_X0_ticketAt {l : Launch} {D : va_G} {aC : Nat → ClassId} {ad : xAd} {h0 h : mH} {F : xFm} {W : xWm} {pm : Nat → Nat} (hR : xR xV ad h0 F W pm h) {s c : Nat} (hs : s < 2) (hc : c < 8) {n : Nat} (hn : F 13 s c 3 = nI n) (hn8 : n ≤ 8) {i : Nat} (hi : i < n) : mCon l D aC mX0_ticketAt [.ref (ad 13 s c), .int (nI i)] h (mRi (F 16 s c i) (fun h' => h' = h)) := by
  refine mCon.of [some (.ref (ad 13 s c)), some (.int (nI i))] (by decide +kernel) rfl (Nat.le_of_ble_eq_true rfl) ?_
  intro K el eD eC hK hZ
  subst el eD eC
  refine mJ_aload_n hK dX0_ticketAt_0 rfl ?_
  refine mJ_iload_n hK dX0_ticketAt_1 rfl ?_
  refine mJ_cVi hK dX0_ticketAt_2 lX0_25 (by unfold mFit; decide) (by decide) (k_X0_has hR hs hc hn hn8 (nI i)) rfl rfl (Nat.le_of_ble_eq_true rfl) (hR.1 _ _ _ (by unfold xV; omega)) ⟨_, _, rfl⟩ (fun h e9 => ?_)
  subst e9
  refine mJ_ifb_eq (tgt := 17) hK dX0_ticketAt_5 (by decide) (fun c_5 => ?_) (fun c_5 => ?_)
  · exact (c_5 ⟨nI_pos' (by omega), nI_lt hi (by omega)⟩).elim
  · refine mJ_aload_n hK dX0_ticketAt_8 rfl ?_
    refine xJ_getr hR hK dX0_ticketAt_9 fX0_18 (by unfold xV; omega) (fun _ _ => rfl) (by decide) (fun _ _ => rfl) ?_
    refine mJ_iload_n hK dX0_ticketAt_12 rfl ?_
    refine xJ_iald i hR hK dX0_ticketAt_13 (by unfold xV; omega) (fun _ _ => rfl) rfl (by omega) (by decide) ?_
    refine mJ_goto (tgt := 18) hK dX0_ticketAt_14 (by decide) ?_
    refine mJ_iret hK dX0_ticketAt_18 rfl hZ (by decide) (by decide) ?_
    exact ⟨rfl, rfl⟩

def xPut (F : xFm) (s c n : Nat) (v t k : Int32) : xFm := fr (fr (fr (fr F 14 s c (upd (F 14 s c) n v)) 15 s c (upd (F 15 s c) n t)) 16 s c (upd (F 16 s c) n k)) 13 s c (upd (F 13 s c) 3 (nI (n + 1)))
def sh {α : Type} (a : Nat → α) (b e : Nat) : Nat → α := fun j => if b ≤ j ∧ j < e then a (j + 1) else a j
theorem sh_0 {α : Type} {a : Nat → α} {b : Nat} : sh a b b = a := by
  funext j
  unfold sh
  rw [if_neg (by omega)]
theorem sh_step {a : Nat → Int32} {b e : Nat} (h : b ≤ e) : upd (sh a b e) e (sh a b e (e + 1)) = sh a b (e + 1) := by
  funext j
  unfold upd sh
  by_cases h1 : j = e
  · subst h1
    rw [if_pos rfl, if_neg (by omega), if_pos (by omega)]
  · rw [if_neg h1]
    by_cases h2 : b ≤ j ∧ j < e
    · rw [if_pos h2, if_pos (by omega)]
    · rw [if_neg h2, if_neg (by omega)]
def xTk (F : xFm) (s c b e n : Nat) : xFm := fr (fr (fr (fr F 13 s c (upd (upd (F 13 s c) 4 (F 13 s c 4 + nI 1)) 3 (nI (n - 1)))) 14 s c (sh (F 14 s c) b e)) 15 s c (sh (F 15 s c) b e)) 16 s c (sh (F 16 s c) b e)
set_option maxRecDepth 100000 in
set_option maxHeartbeats 4000000 in
theorem k_X0_put {l : Launch} {D : va_G} {aC : Nat → ClassId} {ad : xAd} {h0 h : mH} {F : xFm} {W : xWm} {pm : Nat → Nat} (hR : xR xV ad h0 F W pm h) {s c : Nat} (hs : s < 2) (hc : c < 8) {n : Nat} (hn : F 13 s c 3 = nI n) (hn8 : n < 8) (v t k : Int32) : mCon l D aC mX0_put [.ref (ad 13 s c), .int v, .int t, .int k] h (mRv (fun h' => xR xV ad h0 (xPut F s c n v t k) W pm h')) := by
  refine mCon.of [some (.ref (ad 13 s c)), some (.int v), some (.int t), some (.int k)] (by decide +kernel) rfl (Nat.le_of_ble_eq_true rfl) ?_
  intro K el eD eC hK hZ
  subst el eD eC
  refine mJ_aload_n hK dX0_put_0 rfl ?_
  refine mJ_cVi hK dX0_put_1 lX0_29 (by unfold mFit; decide) (by decide) (k_X0_isFull hR hs hc hn (by omega)) rfl rfl (Nat.le_of_ble_eq_true rfl) (hR.1 _ _ _ (by unfold xV; omega)) ⟨_, _, rfl⟩ (fun h e9 => ?_)
  subst e9
  refine mJ_ifb_eq (tgt := 8) hK dX0_put_4 (by decide) (fun c_4 => ?_) (fun c_4 => ?_)
  · refine mJ_aload_n hK dX0_put_8 rfl ?_
    refine xJ_getr hR hK dX0_put_9 fX0_9 (by unfold xV; omega) (fun _ _ => rfl) (by decide) (fun _ _ => rfl) ?_
    refine mJ_aload_n hK dX0_put_12 rfl ?_
    refine xJ_getx (nI n) hR hK dX0_put_13 fX0_21 (by unfold xV; omega) (fun _ _ => rfl) (by decide) rfl (by first | exact hn | (simp [fr, upd]; exact hn)) ?_
    refine mJ_iload_n hK dX0_put_16 rfl ?_
    refine xJ_iast n hR hK dX0_put_17 (by unfold xV; omega) (fun _ _ => rfl) rfl (by omega) (by decide) (fun h hR => ?_)
    refine mJ_aload_n hK dX0_put_18 rfl ?_
    refine xJ_getr hR hK dX0_put_19 fX0_15 (by unfold xV; omega) (fun _ _ => rfl) (by decide) (fun _ _ => rfl) ?_
    refine mJ_aload_n hK dX0_put_22 rfl ?_
    refine xJ_getx (nI n) hR hK dX0_put_23 fX0_21 (by unfold xV; omega) (fun _ _ => rfl) (by decide) rfl (by first | exact hn | (simp [fr, upd]; exact hn)) ?_
    refine mJ_iload_n hK dX0_put_26 rfl ?_
    refine xJ_iast n hR hK dX0_put_27 (by unfold xV; omega) (fun _ _ => rfl) rfl (by omega) (by decide) (fun h hR => ?_)
    refine mJ_aload_n hK dX0_put_28 rfl ?_
    refine xJ_getr hR hK dX0_put_29 fX0_18 (by unfold xV; omega) (fun _ _ => rfl) (by decide) (fun _ _ => rfl) ?_
    refine mJ_aload_n hK dX0_put_32 rfl ?_
    refine xJ_getx (nI n) hR hK dX0_put_33 fX0_21 (by unfold xV; omega) (fun _ _ => rfl) (by decide) rfl (by first | exact hn | (simp [fr, upd]; exact hn)) ?_
    refine mJ_iload_n hK dX0_put_36 rfl ?_
    refine xJ_iast n hR hK dX0_put_37 (by unfold xV; omega) (fun _ _ => rfl) rfl (by omega) (by decide) (fun h hR => ?_)
    refine mJ_aload_n hK dX0_put_38 rfl ?_
    refine mJ_dup hK dX0_put_39 rfl ?_
    refine xJ_getx (nI n) hR hK dX0_put_40 fX0_21 (by unfold xV; omega) (fun _ _ => rfl) (by decide) rfl (by first | exact hn | (simp [fr, upd]; exact hn)) ?_
    refine mJ_iconst (v := nI 1) hK dX0_put_43 (by decide) ?_
    refine mJ_iaddN hK dX0_put_44 ?_
    refine xJ_puti hR hK dX0_put_45 fX0_21 sX0_3 rfl rfl (by unfold xV; omega) (fun _ _ => rfl) (by decide) rfl (fun h hR => ?_)
    refine mJ_vret hK dX0_put_48 rfl hZ (by decide) (by decide) ?_
    exact ⟨rfl, hR⟩
  · exact absurd c_4 (by omega)

theorem xTk_step {F : xFm} {s c b e n : Nat} (h : b ≤ e) : fr (fr (fr (xTk F s c b e n) 14 s c (upd (xTk F s c b e n 14 s c) e (xTk F s c b e n 14 s c (e + 1)))) 15 s c (upd (xTk F s c b e n 15 s c) e (xTk F s c b e n 15 s c (e + 1)))) 16 s c (upd (xTk F s c b e n 16 s c) e (xTk F s c b e n 16 s c (e + 1))) = xTk F s c b (e + 1) n := by
  funext k i j
  by_cases h1 : k = 14 ∧ i = s ∧ j = c
  · obtain ⟨rfl, rfl, rfl⟩ := h1
    simp [xTk, fr, sh_step h]
  · by_cases h2 : k = 15 ∧ i = s ∧ j = c
    · obtain ⟨rfl, rfl, rfl⟩ := h2
      simp [xTk, fr, sh_step h]
    · by_cases h3 : k = 16 ∧ i = s ∧ j = c
      · obtain ⟨rfl, rfl, rfl⟩ := h3
        simp [xTk, fr, sh_step h]
      · simp only [xTk, fr, if_neg h1, if_neg h2, if_neg h3]
theorem xTk_0 {F : xFm} {s c b n : Nat} : fr (fr F 13 s c (upd (F 13 s c) 4 (F 13 s c 4 + nI 1))) 13 s c (upd (upd (F 13 s c) 4 (F 13 s c 4 + nI 1)) 3 (nI (n - 1))) = xTk F s c b b n := by
  funext k i j
  simp only [xTk, sh_0, fr]
  repeat' split
  all_goals first | rfl | simp_all
set_option maxRecDepth 100000 in
set_option maxHeartbeats 4000000 in
theorem lp_X0_take {K : mK} (hK : mCx K mX0_take) {ad : xAd} {h0 : mH} {F : xFm} {W : xWm} {pm : Nat → Nat} {s c : Nat} (hs : s < 2) (hc : c < 8) {n b : Nat} (hn8 : n ≤ 8) {x t : Int32} (hZ : mRt K mX0_take (mRv (fun h' => xR xV ad h0 (xTk F s c b (n - 1) n) W pm h'))) : ∀ (fu : Nat) (e : Nat) (h : mH), n - e < fu → (b ≤ e) → (e ≤ n - 1) → (xR xV ad h0 (xTk F s c b e n) W pm h) → mJ K 0 0 49 [some (.ref (ad 13 s c)), some (.int x), some (.int t), some (.int (nI e))] [] h := by
  intro fu
  induction fu with
  | zero =>
    intro e h hm0
    exact absurd hm0 (by omega)
  | succ fu ih =>
    intro e h hm0 hb he hR
    refine mJ_iload_n hK dX0_take_49 rfl ?_
    refine mJ_aload_n hK dX0_take_50 rfl ?_
    refine xJ_getx (nI (n - 1)) hR hK dX0_take_51 fX0_21 (by unfold xV; omega) (fun _ _ => rfl) (by decide) rfl (by simp [xTk, fr, upd]) ?_
    refine mJ_nge (tgt := 105) hK dX0_take_54 (by decide) (by omega) (by omega) (fun c_54 => ?_) (fun c_54 => ?_)
    · refine mJ_vret hK dX0_take_105 rfl hZ (by decide) (by decide) ?_
      have : e = n - 1 := by omega
      subst this
      exact ⟨rfl, hR⟩
    · refine mJ_aload_n hK dX0_take_57 rfl ?_
      refine xJ_getr hR hK dX0_take_58 fX0_9 (by unfold xV; omega) (fun _ _ => rfl) (by decide) (fun _ _ => rfl) ?_
      refine mJ_iload_n hK dX0_take_61 rfl ?_
      refine mJ_aload_n hK dX0_take_62 rfl ?_
      refine xJ_getr hR hK dX0_take_63 fX0_9 (by unfold xV; omega) (fun _ _ => rfl) (by decide) (fun _ _ => rfl) ?_
      refine mJ_iload_n hK dX0_take_66 rfl ?_
      refine mJ_iconst (v := nI 1) hK dX0_take_67 (by decide) ?_
      refine mJ_iaddN hK dX0_take_68 ?_
      refine xJ_iald (e + 1) hR hK dX0_take_69 (by unfold xV; omega) (fun _ _ => rfl) rfl (by omega) (by decide) ?_
      refine xJ_iast e hR hK dX0_take_70 (by unfold xV; omega) (fun _ _ => rfl) rfl (by omega) (by decide) (fun h hR => ?_)
      refine mJ_aload_n hK dX0_take_71 rfl ?_
      refine xJ_getr hR hK dX0_take_72 fX0_15 (by unfold xV; omega) (fun _ _ => rfl) (by decide) (fun _ _ => rfl) ?_
      refine mJ_iload_n hK dX0_take_75 rfl ?_
      refine mJ_aload_n hK dX0_take_76 rfl ?_
      refine xJ_getr hR hK dX0_take_77 fX0_15 (by unfold xV; omega) (fun _ _ => rfl) (by decide) (fun _ _ => rfl) ?_
      refine mJ_iload_n hK dX0_take_80 rfl ?_
      refine mJ_iconst (v := nI 1) hK dX0_take_81 (by decide) ?_
      refine mJ_iaddN hK dX0_take_82 ?_
      refine xJ_iald (e + 1) hR hK dX0_take_83 (by unfold xV; omega) (fun _ _ => rfl) rfl (by omega) (by decide) ?_
      refine xJ_iast e hR hK dX0_take_84 (by unfold xV; omega) (fun _ _ => rfl) rfl (by omega) (by decide) (fun h hR => ?_)
      refine mJ_aload_n hK dX0_take_85 rfl ?_
      refine xJ_getr hR hK dX0_take_86 fX0_18 (by unfold xV; omega) (fun _ _ => rfl) (by decide) (fun _ _ => rfl) ?_
      refine mJ_iload_n hK dX0_take_89 rfl ?_
      refine mJ_aload_n hK dX0_take_90 rfl ?_
      refine xJ_getr hR hK dX0_take_91 fX0_18 (by unfold xV; omega) (fun _ _ => rfl) (by decide) (fun _ _ => rfl) ?_
      refine mJ_iload_n hK dX0_take_94 rfl ?_
      refine mJ_iconst (v := nI 1) hK dX0_take_95 (by decide) ?_
      refine mJ_iaddN hK dX0_take_96 ?_
      refine xJ_iald (e + 1) hR hK dX0_take_97 (by unfold xV; omega) (fun _ _ => rfl) rfl (by omega) (by decide) ?_
      refine xJ_iast e hR hK dX0_take_98 (by unfold xV; omega) (fun _ _ => rfl) rfl (by omega) (by decide) (fun h hR => ?_)
      refine mJ_iincN hK dX0_take_99 rfl rfl (by decide) rfl ?_
      refine mJ_goto (tgt := 49) hK dX0_take_102 (by decide) ?_
      exact ih (e + 1) _ (by omega) (by omega) (by omega) (xR_ext hR (xTk_step hb))

set_option maxRecDepth 100000 in
set_option maxHeartbeats 4000000 in
theorem k_X0_take {l : Launch} {D : va_G} {aC : Nat → ClassId} {ad : xAd} {h0 h : mH} {F : xFm} {W : xWm} {pm : Nat → Nat} (hR : xR xV ad h0 F W pm h) {s c : Nat} (hs : s < 2) (hc : c < 8) {n i : Nat} (hn : F 13 s c 3 = nI n) (hn8 : n ≤ 8) (hi : i < n) (t : Int32) : mCon l D aC mX0_take [.ref (ad 13 s c), .int (nI i), .int t] h (mRv (fun h' => xR xV ad h0 (xTk F s c i (n - 1) n) (fr W 13 s c (vp_updL (W 13 s c) 0 (W 13 s c 0 + (t - F 15 s c i).toInt64))) pm h')) := by
  refine mCon.of [some (.ref (ad 13 s c)), some (.int (nI i)), some (.int t), none] (by decide +kernel) rfl (Nat.le_of_ble_eq_true rfl) ?_
  intro K el eD eC hK hZ
  subst el eD eC
  refine mJ_aload_n hK dX0_take_0 rfl ?_
  refine mJ_iload_n hK dX0_take_1 rfl ?_
  refine mJ_cVi hK dX0_take_2 lX0_25 (by unfold mFit; decide) (by decide) (k_X0_has hR hs hc hn hn8 (nI i)) rfl rfl (Nat.le_of_ble_eq_true rfl) (hR.1 _ _ _ (by unfold xV; omega)) ⟨_, _, rfl⟩ (fun h e9 => ?_)
  subst e9
  refine mJ_ifb_ne (tgt := 9) hK dX0_take_5 (by decide) (fun c_5 => ?_) (fun c_5 => ?_)
  · refine mJ_aload_n hK dX0_take_9 rfl ?_
    refine mJ_dup hK dX0_take_10 rfl ?_
    refine xJ_geti hR hK dX0_take_11 fX0_33 (by unfold xV; omega) (fun _ _ => rfl) (by decide) rfl ?_
    refine mJ_iconst (v := nI 1) hK dX0_take_14 (by decide) ?_
    refine mJ_iadd hK dX0_take_15 ?_
    refine xJ_puti hR hK dX0_take_16 fX0_33 sX0_4 rfl rfl (by unfold xV; omega) (fun _ _ => rfl) (by decide) rfl (fun h hR => ?_)
    refine mJ_aload_n hK dX0_take_19 rfl ?_
    refine mJ_dup hK dX0_take_20 rfl ?_
    refine xJ_getl hR hK dX0_take_21 fX0_36 (by unfold xV; omega) (fun _ _ => rfl) (by decide) (fun _ _ => rfl) ?_
    refine mJ_iload_n hK dX0_take_24 rfl ?_
    refine mJ_aload_n hK dX0_take_25 rfl ?_
    refine xJ_getr hR hK dX0_take_26 fX0_15 (by unfold xV; omega) (fun _ _ => rfl) (by decide) (fun _ _ => rfl) ?_
    refine mJ_iload_n hK dX0_take_29 rfl ?_
    refine xJ_iald i hR hK dX0_take_30 (by unfold xV; omega) (fun _ _ => rfl) rfl (by omega) (by decide) ?_
    refine mJ_isub hK dX0_take_31 ?_
    refine mJ_i2l hK dX0_take_32 ?_
    refine mJ_ladd hK dX0_take_33 ?_
    refine xJ_putl hR hK dX0_take_34 fX0_36 sX0_5 (by unfold xV; omega) (fun _ _ => rfl) (by decide) (fun _ _ => xL_0) (fun h hR => ?_)
    refine mJ_aload_n hK dX0_take_37 rfl ?_
    refine mJ_dup hK dX0_take_38 rfl ?_
    refine xJ_getx (nI n) hR hK dX0_take_39 fX0_21 (by unfold xV; omega) (fun _ _ => rfl) (by decide) rfl (by first | exact hn | (simp [fr, upd]; exact hn)) ?_
    refine mJ_iconst (v := nI 1) hK dX0_take_42 (by decide) ?_
    refine mJ_isubN hK dX0_take_43 (by omega) ?_
    refine xJ_puti hR hK dX0_take_44 fX0_21 sX0_3 rfl rfl (by unfold xV; omega) (fun _ _ => rfl) (by decide) rfl (fun h hR => ?_)
    refine mJ_iload_n hK dX0_take_47 rfl ?_
    refine mJ_istore_n hK dX0_take_48 (by decide) rfl ?_
    refine lp_X0_take hK hs hc hn8 hZ (n + 1) i _ (by omega) (by omega) (by omega) (xR_ext hR (by simp only [fr_s]; exact xTk_0))
  · exact (c_5 ⟨nI_pos' (by omega), nI_lt hi (by omega)⟩).elim
