def rM (F : xFm) (q : Nat → Nat) (rn : Nat) (ga gb om : Nat → Nat) (mt : Nat → Option (Nat → Nat)) : Prop := ∀ i, i < rn → (¬ F 35 0 0 (3 * i + 1) = 0 → F 35 0 0 (3 * i) = nI (ga i) ∧ ga i < 18 ∧ F 35 0 0 (3 * i + 2) = nI (gb i) ∧ gb i < 18) ∧ isMt (wR F q i) (gdM F i (ga i) (gb i)) (F 34 0 0 i &&& wtM q = F 34 0 0 i) (mt i) ∧ F 36 0 0 i = nI (om i) ∧ om i ≤ 4
def enM (F : xFm) (q om : Nat → Nat) (mt : Nat → Option (Nat → Nat)) (i : Nat) : Bool := (mt i).isSome && rmM F i q (om i) 8
theorem isMt_rd {w : Nat → Nat} {g : (Nat → Nat) → Prop} {rd : Prop} {m : Option (Nat → Nat)} (h : isMt w g rd m) (hs : m.isSome = true) : rd := by
  rcases m with _ | c
  · cases hs
  · exact h.1
set_option maxRecDepth 100000 in
set_option maxHeartbeats 4000000 in
theorem k_X6_isEnabled {l : Launch} {D : va_G} {aC : Nat → ClassId} {ad : xAd} {h0 h : mH} {F : xFm} {W : xWm} {pm : Nat → Nat} (hR : xR yV ad h0 F W pm h) {rn : Nat} (hrn : F 30 0 0 3 = nI rn) (hrn8 : rn ≤ 8) {r : Nat} (hr : r < rn) {q : Nat → Nat} (hq : ∀ c, c < 8 → F 44 0 0 c = nI (q c) ∧ q c ≤ 8) {ga gb om : Nat → Nat} {mt : Nat → Option (Nat → Nat)} (hM : rM F q rn ga gb om mt) : mCon l D aC mX6_isEnabled [.ref (ad 30 0 0), .int (nI r)] h (mRi (bI (enM F q om mt r = true)) (fun h' => ∃ ch : Nat → Int32, xR yV ad h0 (fr F 66 0 0 ch) W pm h')) := by
  refine mCon.of [some (.ref (ad 30 0 0)), some (.int (nI r))] (by decide +kernel) rfl (Nat.le_of_ble_eq_true rfl) ?_
  intro K el eD eC hK hZ
  subst el eD eC
  refine mJ_aload_n hK dX6_isEnabled_0 rfl ?_
  refine mJ_iload_n hK dX6_isEnabled_1 rfl ?_
  refine mJ_cVi hK dX6_isEnabled_2 lX6_233 (by unfold mFit; decide) (by decide) (k_X6_matches hR hrn hrn8 hr hq (hM r hr).1 (hM r hr).2.1) rfl rfl (Nat.le_of_ble_eq_true rfl) (hR.1 _ _ _ (by unfold yV; omega)) ⟨_, _, rfl⟩ (fun h hE => ?_)
  obtain ⟨ch, hR, hch⟩ := hE
  refine mJ_ifb_eq (tgt := 20) hK dX6_isEnabled_5 (by decide) (fun c_5 => ?_) (fun c_5 => ?_)
  · refine mJ_iconst (v := nI 0) hK dX6_isEnabled_20 (by decide) ?_
    refine mJ_zret hK dX6_isEnabled_21 rfl (by decide) hZ (by decide) (by decide) ?_
    refine ⟨congrArg (fun z9 => some (Value.int z9)) ?_, ch, hR⟩
    first | exact b1 (by rw [enM, Bool.and_eq_true]; exact ⟨c_5, c_13⟩) | exact b0 (by rw [enM, Bool.and_eq_true]; exact fun z9 => c_13 z9.2) | exact b0 (by rw [enM, Bool.and_eq_true]; exact fun z9 => c_5 z9.1)
  · refine mJ_aload_n hK dX6_isEnabled_8 rfl ?_
    refine mJ_iload_n hK dX6_isEnabled_9 rfl ?_
    refine mJ_cVi hK dX6_isEnabled_10 lX6_236 (by unfold mFit; decide) (by decide) (k_X6_hasRoom hR (by omega) hq (hM r hr).2.2.1 (hM r hr).2.2.2 (fun c hc hu => rdy_of (isMt_rd (hM r hr).2.1 c_5) hc hu)) rfl rfl (Nat.le_of_ble_eq_true rfl) (hR.1 _ _ _ (by unfold yV; omega)) ⟨_, _, rfl⟩ (fun h e9 => ?_)
    subst e9
    refine mJ_ifb_eq (tgt := 20) hK dX6_isEnabled_13 (by decide) (fun c_13 => ?_) (fun c_13 => ?_)
    · refine mJ_iconst (v := nI 0) hK dX6_isEnabled_20 (by decide) ?_
      refine mJ_zret hK dX6_isEnabled_21 rfl (by decide) hZ (by decide) (by decide) ?_
      refine ⟨congrArg (fun z9 => some (Value.int z9)) ?_, ch, hR⟩
      first | exact b1 (by rw [enM, Bool.and_eq_true]; exact ⟨c_5, c_13⟩) | exact b0 (by rw [enM, Bool.and_eq_true]; exact fun z9 => c_13 z9.2) | exact b0 (by rw [enM, Bool.and_eq_true]; exact fun z9 => c_5 z9.1)
    · refine mJ_iconst (v := nI 1) hK dX6_isEnabled_16 (by decide) ?_
      refine mJ_goto (tgt := 21) hK dX6_isEnabled_17 (by decide) ?_
      refine mJ_zret hK dX6_isEnabled_21 rfl (by decide) hZ (by decide) (by decide) ?_
      refine ⟨congrArg (fun z9 => some (Value.int z9)) ?_, ch, hR⟩
      first | exact b1 (by rw [enM, Bool.and_eq_true]; exact ⟨c_5, c_13⟩) | exact b0 (by rw [enM, Bool.and_eq_true]; exact fun z9 => c_13 z9.2) | exact b0 (by rw [enM, Bool.and_eq_true]; exact fun z9 => c_5 z9.1)

set_option maxRecDepth 100000 in
set_option maxHeartbeats 4000000 in
theorem lp_X6_enabledNow {K : mK} (hK : mCx K mX6_enabledNow) {ad : xAd} {h0 : mH} {F : xFm} {W : xWm} {pm : Nat → Nat} {rn : Nat} (hrn : F 30 0 0 3 = nI rn) (hrn8 : rn ≤ 8) {q : Nat → Nat} (hq : ∀ c, c < 8 → F 44 0 0 c = nI (q c) ∧ q c ≤ 8) {ga gb om : Nat → Nat} {mt : Nat → Option (Nat → Nat)} (hM : rM F q rn ga gb om mt) (hZ : mRt K mX6_enabledNow (mRi (bmk (enM F q om mt) rn) (fun h' => ∃ ch : Nat → Int32, xR yV ad h0 (fr F 66 0 0 ch) W pm h'))) : ∀ (fu : Nat) (e : Nat) (ch : Nat → Int32) (h : mH), rn - e < fu → (e ≤ rn) → (xR yV ad h0 (fr F 66 0 0 ch) W pm h) → mJ K 0 0 4 [some (.ref (ad 30 0 0)), some (.int (bmk (enM F q om mt) e)), some (.int (nI e))] [] h := by
  intro fu
  induction fu with
  | zero =>
    intro e ch h hm0
    exact absurd hm0 (by omega)
  | succ fu ih =>
    intro e ch h hm0 he hR
    refine mJ_iload_n hK dX6_enabledNow_4 rfl ?_
    refine mJ_aload_n hK dX6_enabledNow_5 rfl ?_
    refine xJ_getx (nI rn) hR hK dX6_enabledNow_6 fX6_188 (by unfold yV; omega) (fun _ _ => rfl) (by decide) rfl (by first | exact hrn | (simp [fr, upd]; exact hrn) | (simp [fr, upd, tS]; exact hrn)) ?_
    refine mJ_nge (tgt := 36) hK dX6_enabledNow_9 (by decide) (by omega) (by omega) (fun c_9 => ?_) (fun c_9 => ?_)
    · refine mJ_iload_n hK dX6_enabledNow_36 rfl ?_
      refine mJ_iret hK dX6_enabledNow_37 rfl hZ (by decide) (by decide) ?_
      have : e = rn := by omega
      subst this
      exact ⟨rfl, ch, hR⟩
    · refine mJ_iload_n hK dX6_enabledNow_12 rfl ?_
      refine mJ_aload_n hK dX6_enabledNow_13 rfl ?_
      refine mJ_iload_n hK dX6_enabledNow_14 rfl ?_
      refine mJ_cVi hK dX6_enabledNow_15 lX6_239 (by unfold mFit; decide) (by decide) (k_X6_isEnabled hR (rn := rn) hrn hrn8 (r := e) (by omega) (q := q) hq (om := om) (mt := mt) (ga := ga) (gb := gb) hM) rfl rfl (Nat.le_of_ble_eq_true rfl) (hR.1 _ _ _ (by unfold yV; omega)) ⟨_, _, rfl⟩ (fun h hE => ?_)
      obtain ⟨ch9, hR⟩ := hE
      rw [fr_fr] at hR
      refine mJ_ifb_eq (tgt := 27) hK dX6_enabledNow_18 (by decide) (fun c_18 => ?_) (fun c_18 => ?_)
      · refine mJ_iconst (v := nI 0) hK dX6_enabledNow_27 (by decide) ?_
        refine mJ_ior hK dX6_enabledNow_28 ?_
        refine mJ_istore_n hK dX6_enabledNow_29 (by decide) rfl ?_
        refine mJ_iincN hK dX6_enabledNow_30 rfl rfl (by decide) rfl ?_
        refine mJ_goto (tgt := 4) hK dX6_enabledNow_33 (by decide) ?_
        refine mJ_L ?_ (ih (e + 1) _ _ (by omega) (by omega) hR)
        first | (rw [bmk_t (p := enM F q om mt) c_18]; rfl) | (rw [bmk_f (p := enM F q om mt) c_18, or0]; rfl)
      · refine mJ_iconst (v := nI 1) hK dX6_enabledNow_21 (by decide) ?_
        refine mJ_iload_n hK dX6_enabledNow_22 rfl ?_
        refine mJ_ishl hK dX6_enabledNow_23 ?_
        refine mJ_goto (tgt := 28) hK dX6_enabledNow_24 (by decide) ?_
        refine mJ_ior hK dX6_enabledNow_28 ?_
        refine mJ_istore_n hK dX6_enabledNow_29 (by decide) rfl ?_
        refine mJ_iincN hK dX6_enabledNow_30 rfl rfl (by decide) rfl ?_
        refine mJ_goto (tgt := 4) hK dX6_enabledNow_33 (by decide) ?_
        refine mJ_L ?_ (ih (e + 1) _ _ (by omega) (by omega) hR)
        first | (rw [bmk_t (p := enM F q om mt) c_18]; rfl) | (rw [bmk_f (p := enM F q om mt) c_18, or0]; rfl)

set_option maxRecDepth 100000 in
set_option maxHeartbeats 4000000 in
theorem k_X6_enabledNow {l : Launch} {D : va_G} {aC : Nat → ClassId} {ad : xAd} {h0 h : mH} {F : xFm} {W : xWm} {pm : Nat → Nat} (hR : xR yV ad h0 F W pm h) {rn : Nat} (hrn : F 30 0 0 3 = nI rn) (hrn8 : rn ≤ 8) {q : Nat → Nat} (hq : ∀ c, c < 8 → F 44 0 0 c = nI (q c) ∧ q c ≤ 8) {ga gb om : Nat → Nat} {mt : Nat → Option (Nat → Nat)} (hM : rM F q rn ga gb om mt) : mCon l D aC mX6_enabledNow [.ref (ad 30 0 0)] h (mRi (bmk (enM F q om mt) rn) (fun h' => ∃ ch : Nat → Int32, xR yV ad h0 (fr F 66 0 0 ch) W pm h')) := by
  refine mCon.of [some (.ref (ad 30 0 0)), none, none] (by decide +kernel) rfl (Nat.le_of_ble_eq_true rfl) ?_
  intro K el eD eC hK hZ
  subst el eD eC
  refine mJ_iconst (v := nI 0) hK dX6_enabledNow_0 (by decide) ?_
  refine mJ_istore_n hK dX6_enabledNow_1 (by decide) rfl ?_
  refine mJ_iconst (v := nI 0) hK dX6_enabledNow_2 (by decide) ?_
  refine mJ_istore_n hK dX6_enabledNow_3 (by decide) rfl ?_
  exact lp_X6_enabledNow hK hrn hrn8 hq hM hZ (rn + 1) 0 (F 66 0 0) _ (by omega) (by omega) (by rw [fr_self]; exact hR)

set_option maxRecDepth 100000 in
set_option maxHeartbeats 4000000 in
theorem k_X6_enabledRules {l : Launch} {D : va_G} {aC : Nat → ClassId} {ad : xAd} {h0 h : mH} {F : xFm} {W : xWm} {pm : Nat → Nat} (hR : xR yV ad h0 F W pm h) {rn : Nat} (hrn : F 30 0 0 3 = nI rn) (hrn8 : rn ≤ 8) {q : Nat → Nat} (hq : ∀ c, c < 8 → F 44 0 0 c = nI (q c) ∧ q c ≤ 8) {ga gb om : Nat → Nat} {mt : Nat → Option (Nat → Nat)} (hM : rM F q rn ga gb om mt) : mCon l D aC mX6_enabledRules [.ref (ad 30 0 0)] h (mRi (bmk (enM F q om mt) rn) (fun h' => ∃ ch : Nat → Int32, xR yV ad h0 (fr (tS F (nI 0)) 66 0 0 ch) W pm h')) := by
  refine mCon.of [some (.ref (ad 30 0 0))] (by decide +kernel) rfl (Nat.le_of_ble_eq_true rfl) ?_
  intro K el eD eC hK hZ
  subst el eD eC
  refine mJ_aload_n hK dX6_enabledRules_0 rfl ?_
  refine mJ_iconst (v := nI 0) hK dX6_enabledRules_1 (by decide) ?_
  refine xJ_puti hR hK dX6_enabledRules_2 fX6_117 sX6_0 rfl rfl (by unfold yV; omega) (fun _ _ => rfl) (by decide) rfl (fun h hR => ?_)
  refine mJ_aload_n hK dX6_enabledRules_5 rfl ?_
  refine mJ_cVi hK dX6_enabledRules_6 lX6_242 (by unfold mFit; decide) (by decide) (k_X6_enabledNow hR (rn := rn) hrn hrn8 (q := q) hq (om := om) (mt := mt) (ga := ga) (gb := gb) hM) rfl rfl (Nat.le_of_ble_eq_true rfl) (hR.1 _ _ _ (by unfold yV; omega)) ⟨_, _, rfl⟩ (fun h hE => ?_)
  obtain ⟨ch, hR⟩ := hE
  refine mJ_iret hK dX6_enabledRules_9 rfl hZ (by decide) (by decide) ?_
  exact ⟨rfl, ch, hR⟩

set_option maxRecDepth 100000 in
set_option maxHeartbeats 4000000 in
theorem k_X6_isStuck {l : Launch} {D : va_G} {aC : Nat → ClassId} {ad : xAd} {h0 h : mH} {F : xFm} {W : xWm} {pm : Nat → Nat} (hR : xR yV ad h0 F W pm h) {rn : Nat} (hrn : F 30 0 0 3 = nI rn) (hrn8 : rn ≤ 8) {q : Nat → Nat} (hq : ∀ c, c < 8 → F 44 0 0 c = nI (q c) ∧ q c ≤ 8) {ga gb om : Nat → Nat} {mt : Nat → Option (Nat → Nat)} (hM : rM F q rn ga gb om mt) : mCon l D aC mX6_isStuck [.ref (ad 30 0 0)] h (mRi (bI (¬ wtM q = 0 ∧ bmk (enM F q om mt) rn = 0)) (fun h' => ∃ ch : Nat → Int32, xR yV ad h0 (fr (tS F (nI 0)) 66 0 0 ch) W pm h')) := by
  refine mCon.of [some (.ref (ad 30 0 0))] (by decide +kernel) rfl (Nat.le_of_ble_eq_true rfl) ?_
  intro K el eD eC hK hZ
  subst el eD eC
  refine mJ_aload_n hK dX6_isStuck_0 rfl ?_
  refine mJ_iconst (v := nI 0) hK dX6_isStuck_1 (by decide) ?_
  refine xJ_puti hR hK dX6_isStuck_2 fX6_117 sX6_0 rfl rfl (by unfold yV; omega) (fun _ _ => rfl) (by decide) rfl (fun h hR => ?_)
  refine mJ_aload_n hK dX6_isStuck_5 rfl ?_
  refine mJ_cVi hK dX6_isStuck_6 lX6_217 (by unfold mFit; decide) (by decide) (k_X6_waitingNow hR (q := q) hq) rfl rfl (Nat.le_of_ble_eq_true rfl) (hR.1 _ _ _ (by unfold yV; omega)) ⟨_, _, rfl⟩ (fun h e9 => ?_)
  subst e9
  refine mJ_if_eq (tgt := 23) hK dX6_isStuck_9 (by decide) (fun c_9 => ?_) (fun c_9 => ?_)
  · refine mJ_iconst (v := nI 0) hK dX6_isStuck_23 (by decide) ?_
    refine mJ_zret hK dX6_isStuck_24 rfl (by decide) hZ (by decide) (by decide) ?_
    refine ⟨congrArg (fun z9 => some (Value.int z9)) ?_, ?_⟩
    · first | exact b1 ⟨c_9, c_16⟩ | exact b0 (fun z => c_16 z.2) | exact b0 (fun z => z.1 c_9)
    · first | exact ⟨ch, hR⟩ | exact ⟨F 66 0 0, xR_ext hR (by rw [show F 66 0 0 = tS F (nI 0) 66 0 0 from rfl, fr_self]; rfl)⟩
  · refine mJ_aload_n hK dX6_isStuck_12 rfl ?_
    refine mJ_cVi hK dX6_isStuck_13 lX6_242 (by unfold mFit; decide) (by decide) (k_X6_enabledNow hR (rn := rn) hrn hrn8 (q := q) hq (om := om) (mt := mt) (ga := ga) (gb := gb) hM) rfl rfl (Nat.le_of_ble_eq_true rfl) (hR.1 _ _ _ (by unfold yV; omega)) ⟨_, _, rfl⟩ (fun h hE => ?_)
    obtain ⟨ch, hR⟩ := hE
    refine mJ_if_ne (tgt := 23) hK dX6_isStuck_16 (by decide) (fun c_16 => ?_) (fun c_16 => ?_)
    · refine mJ_iconst (v := nI 0) hK dX6_isStuck_23 (by decide) ?_
      refine mJ_zret hK dX6_isStuck_24 rfl (by decide) hZ (by decide) (by decide) ?_
      refine ⟨congrArg (fun z9 => some (Value.int z9)) ?_, ?_⟩
      · first | exact b1 ⟨c_9, c_16⟩ | exact b0 (fun z => c_16 z.2) | exact b0 (fun z => z.1 c_9)
      · first | exact ⟨ch, hR⟩ | exact ⟨F 66 0 0, xR_ext hR (by rw [show F 66 0 0 = tS F (nI 0) 66 0 0 from rfl, fr_self]; rfl)⟩
    · refine mJ_iconst (v := nI 1) hK dX6_isStuck_19 (by decide) ?_
      refine mJ_goto (tgt := 24) hK dX6_isStuck_20 (by decide) ?_
      refine mJ_zret hK dX6_isStuck_24 rfl (by decide) hZ (by decide) (by decide) ?_
      refine ⟨congrArg (fun z9 => some (Value.int z9)) ?_, ?_⟩
      · first | exact b1 ⟨c_9, c_16⟩ | exact b0 (fun z => c_16 z.2) | exact b0 (fun z => z.1 c_9)
      · first | exact ⟨ch, hR⟩ | exact ⟨F 66 0 0, xR_ext hR (by rw [show F 66 0 0 = tS F (nI 0) 66 0 0 from rfl, fr_self]; rfl)⟩

def nxS (en : Nat → Bool) (fi : Nat → Int32) (po : Nat) (b : Option Nat) (r : Nat) : Option Nat := match b with
  | none => if en r = true then some r else none
  | some b9 => if en r = true ∧ po = 2 ∧ fi r < fi b9 then some r else some b9
def nxM (en : Nat → Bool) (fi : Nat → Int32) (po rn s0 : Nat) : Nat → Nat → Option Nat → Option Nat
  | 0, _, b => b
  | n + 1, i, b => nxM en fi po rn s0 n (i + 1) (nxS en fi po b ((s0 + i) % rn))
section
variable {en : Nat → Bool} {fi : Nat → Int32} {po rn s0 : Nat}
theorem nxM_s {i : Nat} {b : Option Nat} (h : i < rn) : nxM en fi po rn s0 (rn - i) i b = nxM en fi po rn s0 (rn - (i + 1)) (i + 1) (nxS en fi po b ((s0 + i) % rn)) := by
  obtain ⟨n, hn⟩ : ∃ n, rn - i = n + 1 := ⟨rn - i - 1, by omega⟩
  have hn2 : rn - (i + 1) = n := by omega
  rw [hn, hn2, nxM]
theorem nxS_f {b : Option Nat} {r : Nat} (h : ¬ en r = true) : nxS en fi po b r = b := by
  unfold nxS
  rcases b with _ | b
  · simp [h]
  · simp [h]
theorem nxS_n {r : Nat} (h : en r = true) : nxS en fi po none r = some r := by
  unfold nxS
  simp [h]
theorem nxS_2 {r b : Nat} (h : en r = true) (h2 : po = 2) (h3 : fi r < fi b) : nxS en fi po (some b) r = some r := if_pos ⟨h, h2, h3⟩
theorem nxS_k {r b : Nat} (h : ¬ (po = 2 ∧ fi r < fi b)) : nxS en fi po (some b) r = some b := if_neg fun z => h z.2
theorem nxM_keep (h : ¬ po = 2) {b : Nat} : ∀ {n i : Nat}, nxM en fi po rn s0 n i (some b) = some b
  | 0, _ => rfl
  | n + 1, i => by
    rw [nxM, nxS_k (fun z => h z.1)]
    exact nxM_keep h
theorem nxL_1 {n i : Nat} {b : Option Nat} : nxL en fi po rn s0 (n + 1) i b = (if en ((s0 + i) % rn) = true then (if po = 2 then nxL en fi po rn s0 n (i + 1) (match b with | none => some ((s0 + i) % rn) | some b9 => if fi ((s0 + i) % rn) < fi b9 then some ((s0 + i) % rn) else some b9) else some ((s0 + i) % rn)) else nxL en fi po rn s0 n (i + 1) b) := rfl
theorem nxM_eq : ∀ {n i : Nat} {b : Option Nat}, (b = none ∨ po = 2) → nxM en fi po rn s0 n i b = nxL en fi po rn s0 n i b
  | 0, _, _, _ => rfl
  | n + 1, i, b, h => by
    rw [nxM, nxL_1]
    by_cases he : en ((s0 + i) % rn) = true
    · rw [if_pos he]
      by_cases h2 : po = 2
      · rw [if_pos h2, nxM_eq (Or.inr h2)]
        congr 1
        rcases b with _ | b
        · exact nxS_n he
        · dsimp only
          by_cases hl : fi ((s0 + i) % rn) < fi b
          · rw [if_pos hl, nxS_2 he h2 hl]
          · rw [if_neg hl, nxS_k (fun z => hl z.2)]
      · have hb : b = none := h.resolve_right h2
        rw [if_neg h2, hb, nxS_n he, nxM_keep h2]
    · rw [if_neg he, nxS_f he, nxM_eq h]
end
set_option maxRecDepth 100000 in
set_option maxHeartbeats 4000000 in
theorem lp_X6_nextNow {K : mK} (hK : mCx K mX6_nextNow) {ad : xAd} {h0 : mH} {F : xFm} {W : xWm} {pm : Nat → Nat} {rn : Nat} (hrn : F 30 0 0 3 = nI rn) (hrn8 : rn ≤ 8) {po : Nat} (hpo : F 30 0 0 13 = nI po) (hpo2 : po ≤ 2) {st : Nat} (hst : F 30 0 0 12 + nI 1 = nI st) (hst8 : st ≤ 8) {s0 : Nat} (hs0 : s0 = if po = 1 then st else 0) {en : Nat → Bool} {nx : Option Nat} {h9 : mH} {P : mH → Prop} (hP : P h9) (hZ : mRt K mX6_nextNow (mRi (opI nx) P)) : ∀ (fu : Nat) (k : Nat) (b : Option Nat) (u v : Option Value) (h : mH), rn - k < fu → (k ≤ rn) → (∀ b9, b = some b9 → b9 < rn) → (nx = nxM en (F 41 0 0) po rn s0 (rn - k) k b) → (h = h9) → (xR yV ad h0 F W pm h) → mJ K 0 0 9 [some (.ref (ad 30 0 0)), some (.int (bmk en rn)), some (.int (opI b)), some (.int (nI k)), u, v] [] h := by
  intro fu
  induction fu with
  | zero =>
    intro k b u v h hm0
    exact absurd hm0 (by omega)
  | succ fu ih =>
    intro k b u v h hm0 hi hb hnx eh hR
    rcases b with _ | b9
    · refine mJ_iload_n hK dX6_nextNow_9 rfl ?_
      refine mJ_aload_n hK dX6_nextNow_10 rfl ?_
      refine xJ_getx (nI rn) hR hK dX6_nextNow_11 fX6_188 (by unfold yV; omega) (fun _ _ => rfl) (by decide) rfl (by first | exact hrn | (simp [fr, upd]; exact hrn) | (simp [fr, upd, tS]; exact hrn)) ?_
      refine mJ_nge (tgt := 108) hK dX6_nextNow_14 (by decide) (by first | omega) (by first | omega) (fun c_14 => ?_) (fun c_14 => ?_)
      · refine mJ_iload_n hK dX6_nextNow_108 rfl ?_
        refine mJ_iret hK dX6_nextNow_109 rfl hZ (by decide) (by decide) ?_
        have : k = rn := by omega
        subst this
        rw [Nat.sub_self] at hnx
        exact ⟨congrArg (fun z9 => some (Value.int z9)) (by rw [hnx]; rfl), by rw [eh]; exact hP⟩
      · refine mJ_aload_n hK dX6_nextNow_17 rfl ?_
        refine xJ_getx (nI po) hR hK dX6_nextNow_18 fX6_201 (by unfold yV; omega) (fun _ _ => rfl) (by decide) rfl (hpo) ?_
        refine mJ_iconst (v := nI 1) hK dX6_nextNow_21 (by decide) ?_
        refine mJ_nne (tgt := 41) hK dX6_nextNow_22 (by decide) (by first | omega) (by first | omega) (fun c_22 => ?_) (fun c_22 => ?_)
        · refine mJ_iload_n hK dX6_nextNow_41 rfl ?_
          have hk0 : (s0 + k) % rn = k := by rw [hs0, if_neg c_22, Nat.zero_add, Nat.mod_eq_of_lt (by omega)]
          have hk9 : k < rn := by omega
          refine mJ_istore hK dX6_nextNow_42 (by decide) rfl ?_
          refine mJ_iload_n hK dX6_nextNow_44 rfl ?_
          refine mJ_iload hK dX6_nextNow_45 rfl ?_
          refine mJ_ishr hK dX6_nextNow_47 ?_
          refine mJ_iconst (v := nI 1) hK dX6_nextNow_48 (by decide) ?_
          refine mJ_iand hK dX6_nextNow_49 ?_
          refine mJ_iconst (v := nI 1) hK dX6_nextNow_50 (by decide) ?_
          refine mJ_icmp_ne (tgt := 87) hK dX6_nextNow_51 (by decide) (fun c_51 => ?_) (fun c_51 => ?_)
          · refine mJ_iconst (v := nI 0) hK dX6_nextNow_87 (by decide) ?_
            refine mJ_istore hK dX6_nextNow_88 (by decide) rfl ?_
            refine mJ_iload hK dX6_nextNow_90 rfl ?_
            refine mJ_nif_eq (tgt := 100) hK dX6_nextNow_92 (by decide) (by first | omega) (fun c_92 => ?_) (fun c_92 => ?_)
            · refine mJ_iload_n hK dX6_nextNow_100 rfl ?_
              refine mJ_istore_n hK dX6_nextNow_101 (by decide) rfl ?_
              refine mJ_iincN hK dX6_nextNow_102 rfl rfl (by decide) rfl ?_
              refine mJ_goto (tgt := 9) hK dX6_nextNow_105 (by decide) ?_
              refine ih (k + 1) none _ _ _ (by omega) (by omega) (fun _ z9 => by cases z9) ?_ eh hR
              rw [hnx, nxM_s (by omega), hk0, nxS_f (fun z => c_51 (us1.mpr ((bmk_us (p := en) (by omega) hk9).mpr z)))]
            · exact absurd c_92 (by omega)
          · refine mJ_iload_n hK dX6_nextNow_54 rfl ?_
            refine mJ_iconst (v := -1) hK dX6_nextNow_55 (by decide) ?_
            refine mJ_icmp_eq (tgt := 83) hK dX6_nextNow_56 (by decide) (fun c_56 => ?_) (fun c_56 => ?_)
            · refine mJ_iconst (v := nI 1) hK dX6_nextNow_83 (by decide) ?_
              refine mJ_goto (tgt := 88) hK dX6_nextNow_84 (by decide) ?_
              refine mJ_istore hK dX6_nextNow_88 (by decide) rfl ?_
              refine mJ_iload hK dX6_nextNow_90 rfl ?_
              refine mJ_nif_eq (tgt := 100) hK dX6_nextNow_92 (by decide) (by first | omega) (fun c_92 => ?_) (fun c_92 => ?_)
              · exact absurd c_92 (by omega)
              · refine mJ_iload hK dX6_nextNow_95 rfl ?_
                refine mJ_goto (tgt := 101) hK dX6_nextNow_97 (by decide) ?_
                refine mJ_istore_n hK dX6_nextNow_101 (by decide) rfl ?_
                refine mJ_iincN hK dX6_nextNow_102 rfl rfl (by decide) rfl ?_
                refine mJ_goto (tgt := 9) hK dX6_nextNow_105 (by decide) ?_
                refine ih (k + 1) (some k) _ _ _ (by omega) (by omega) (fun _ z9 => by cases z9; exact hk9) ?_ eh hR
                rw [hnx, nxM_s (by omega), hk0, nxS_n ((bmk_us (p := en) (by omega) hk9).mp (us1.mp c_51))]
            · exact absurd rfl c_56
        · refine mJ_aload_n hK dX6_nextNow_25 rfl ?_
          refine xJ_geti hR hK dX6_nextNow_26 fX6_37 (by unfold yV; omega) (fun _ _ => rfl) (by decide) rfl ?_
          refine mJ_iconst (v := nI 1) hK dX6_nextNow_29 (by decide) ?_
          refine mJ_iadd hK dX6_nextNow_30 ?_
          rw [hst]
          refine mJ_iload_n hK dX6_nextNow_31 rfl ?_
          refine mJ_iaddN hK dX6_nextNow_32 ?_
          refine mJ_aload_n hK dX6_nextNow_33 rfl ?_
          refine xJ_getx (nI rn) hR hK dX6_nextNow_34 fX6_188 (by unfold yV; omega) (fun _ _ => rfl) (by decide) rfl (by first | exact hrn | (simp [fr, upd]; exact hrn) | (simp [fr, upd, tS]; exact hrn)) ?_
          refine mJ_iremN hK dX6_nextNow_37 (by first | omega) (by first | omega) (by first | omega) ?_
          refine mJ_goto (tgt := 42) hK dX6_nextNow_38 (by decide) ?_
          have hs1 : s0 = st := by rw [hs0, if_pos c_22]
          generalize hk0 : (st + k) % rn = k9
          rw [← hs1] at hk0
          have hk9 : k9 < rn := by rw [← hk0]; exact Nat.mod_lt _ (by omega)
          refine mJ_istore hK dX6_nextNow_42 (by decide) rfl ?_
          refine mJ_iload_n hK dX6_nextNow_44 rfl ?_
          refine mJ_iload hK dX6_nextNow_45 rfl ?_
          refine mJ_ishr hK dX6_nextNow_47 ?_
          refine mJ_iconst (v := nI 1) hK dX6_nextNow_48 (by decide) ?_
          refine mJ_iand hK dX6_nextNow_49 ?_
          refine mJ_iconst (v := nI 1) hK dX6_nextNow_50 (by decide) ?_
          refine mJ_icmp_ne (tgt := 87) hK dX6_nextNow_51 (by decide) (fun c_51 => ?_) (fun c_51 => ?_)
          · refine mJ_iconst (v := nI 0) hK dX6_nextNow_87 (by decide) ?_
            refine mJ_istore hK dX6_nextNow_88 (by decide) rfl ?_
            refine mJ_iload hK dX6_nextNow_90 rfl ?_
            refine mJ_nif_eq (tgt := 100) hK dX6_nextNow_92 (by decide) (by first | omega) (fun c_92 => ?_) (fun c_92 => ?_)
            · refine mJ_iload_n hK dX6_nextNow_100 rfl ?_
              refine mJ_istore_n hK dX6_nextNow_101 (by decide) rfl ?_
              refine mJ_iincN hK dX6_nextNow_102 rfl rfl (by decide) rfl ?_
              refine mJ_goto (tgt := 9) hK dX6_nextNow_105 (by decide) ?_
              refine ih (k + 1) none _ _ _ (by omega) (by omega) (fun _ z9 => by cases z9) ?_ eh hR
              rw [hnx, nxM_s (by omega), hk0, nxS_f (fun z => c_51 (us1.mpr ((bmk_us (p := en) (by omega) hk9).mpr z)))]
            · exact absurd c_92 (by omega)
          · refine mJ_iload_n hK dX6_nextNow_54 rfl ?_
            refine mJ_iconst (v := -1) hK dX6_nextNow_55 (by decide) ?_
            refine mJ_icmp_eq (tgt := 83) hK dX6_nextNow_56 (by decide) (fun c_56 => ?_) (fun c_56 => ?_)
            · refine mJ_iconst (v := nI 1) hK dX6_nextNow_83 (by decide) ?_
              refine mJ_goto (tgt := 88) hK dX6_nextNow_84 (by decide) ?_
              refine mJ_istore hK dX6_nextNow_88 (by decide) rfl ?_
              refine mJ_iload hK dX6_nextNow_90 rfl ?_
              refine mJ_nif_eq (tgt := 100) hK dX6_nextNow_92 (by decide) (by first | omega) (fun c_92 => ?_) (fun c_92 => ?_)
              · exact absurd c_92 (by omega)
              · refine mJ_iload hK dX6_nextNow_95 rfl ?_
                refine mJ_goto (tgt := 101) hK dX6_nextNow_97 (by decide) ?_
                refine mJ_istore_n hK dX6_nextNow_101 (by decide) rfl ?_
                refine mJ_iincN hK dX6_nextNow_102 rfl rfl (by decide) rfl ?_
                refine mJ_goto (tgt := 9) hK dX6_nextNow_105 (by decide) ?_
                refine ih (k + 1) (some k9) _ _ _ (by omega) (by omega) (fun _ z9 => by cases z9; exact hk9) ?_ eh hR
                rw [hnx, nxM_s (by omega), hk0, nxS_n ((bmk_us (p := en) (by omega) hk9).mp (us1.mp c_51))]
            · exact absurd rfl c_56
    · have hb9 := hb b9 rfl
      refine mJ_iload_n hK dX6_nextNow_9 rfl ?_
      refine mJ_aload_n hK dX6_nextNow_10 rfl ?_
      refine xJ_getx (nI rn) hR hK dX6_nextNow_11 fX6_188 (by unfold yV; omega) (fun _ _ => rfl) (by decide) rfl (by first | exact hrn | (simp [fr, upd]; exact hrn) | (simp [fr, upd, tS]; exact hrn)) ?_
      refine mJ_nge (tgt := 108) hK dX6_nextNow_14 (by decide) (by first | omega) (by first | omega) (fun c_14 => ?_) (fun c_14 => ?_)
      · refine mJ_iload_n hK dX6_nextNow_108 rfl ?_
        refine mJ_iret hK dX6_nextNow_109 rfl hZ (by decide) (by decide) ?_
        have : k = rn := by omega
        subst this
        rw [Nat.sub_self] at hnx
        exact ⟨congrArg (fun z9 => some (Value.int z9)) (by rw [hnx]; rfl), by rw [eh]; exact hP⟩
      · refine mJ_aload_n hK dX6_nextNow_17 rfl ?_
        refine xJ_getx (nI po) hR hK dX6_nextNow_18 fX6_201 (by unfold yV; omega) (fun _ _ => rfl) (by decide) rfl (hpo) ?_
        refine mJ_iconst (v := nI 1) hK dX6_nextNow_21 (by decide) ?_
        refine mJ_nne (tgt := 41) hK dX6_nextNow_22 (by decide) (by first | omega) (by first | omega) (fun c_22 => ?_) (fun c_22 => ?_)
        · refine mJ_iload_n hK dX6_nextNow_41 rfl ?_
          have hk0 : (s0 + k) % rn = k := by rw [hs0, if_neg c_22, Nat.zero_add, Nat.mod_eq_of_lt (by omega)]
          have hk9 : k < rn := by omega
          refine mJ_istore hK dX6_nextNow_42 (by decide) rfl ?_
          refine mJ_iload_n hK dX6_nextNow_44 rfl ?_
          refine mJ_iload hK dX6_nextNow_45 rfl ?_
          refine mJ_ishr hK dX6_nextNow_47 ?_
          refine mJ_iconst (v := nI 1) hK dX6_nextNow_48 (by decide) ?_
          refine mJ_iand hK dX6_nextNow_49 ?_
          refine mJ_iconst (v := nI 1) hK dX6_nextNow_50 (by decide) ?_
          refine mJ_icmp_ne (tgt := 87) hK dX6_nextNow_51 (by decide) (fun c_51 => ?_) (fun c_51 => ?_)
          · refine mJ_iconst (v := nI 0) hK dX6_nextNow_87 (by decide) ?_
            refine mJ_istore hK dX6_nextNow_88 (by decide) rfl ?_
            refine mJ_iload hK dX6_nextNow_90 rfl ?_
            refine mJ_nif_eq (tgt := 100) hK dX6_nextNow_92 (by decide) (by first | omega) (fun c_92 => ?_) (fun c_92 => ?_)
            · refine mJ_iload_n hK dX6_nextNow_100 rfl ?_
              refine mJ_istore_n hK dX6_nextNow_101 (by decide) rfl ?_
              refine mJ_iincN hK dX6_nextNow_102 rfl rfl (by decide) rfl ?_
              refine mJ_goto (tgt := 9) hK dX6_nextNow_105 (by decide) ?_
              refine ih (k + 1) (some b9) _ _ _ (by omega) (by omega) hb ?_ eh hR
              rw [hnx, nxM_s (by omega), hk0, nxS_f (fun z => c_51 (us1.mpr ((bmk_us (p := en) (by omega) hk9).mpr z)))]
            · exact absurd c_92 (by omega)
          · refine mJ_iload_n hK dX6_nextNow_54 rfl ?_
            refine mJ_iconst (v := -1) hK dX6_nextNow_55 (by decide) ?_
            refine mJ_icmp_eq (tgt := 83) hK dX6_nextNow_56 (by decide) (fun c_56 => ?_) (fun c_56 => ?_)
            · exact absurd c_56 (nI_m1 (by have := hb b9 rfl; omega))
            · refine mJ_aload_n hK dX6_nextNow_59 rfl ?_
              refine xJ_getx (nI po) hR hK dX6_nextNow_60 fX6_201 (by unfold yV; omega) (fun _ _ => rfl) (by decide) rfl (hpo) ?_
              refine mJ_iconst (v := nI 2) hK dX6_nextNow_63 (by decide) ?_
              refine mJ_nne (tgt := 87) hK dX6_nextNow_64 (by decide) (by first | omega) (by first | omega) (fun c_64 => ?_) (fun c_64 => ?_)
              · refine mJ_iconst (v := nI 0) hK dX6_nextNow_87 (by decide) ?_
                refine mJ_istore hK dX6_nextNow_88 (by decide) rfl ?_
                refine mJ_iload hK dX6_nextNow_90 rfl ?_
                refine mJ_nif_eq (tgt := 100) hK dX6_nextNow_92 (by decide) (by first | omega) (fun c_92 => ?_) (fun c_92 => ?_)
                · refine mJ_iload_n hK dX6_nextNow_100 rfl ?_
                  refine mJ_istore_n hK dX6_nextNow_101 (by decide) rfl ?_
                  refine mJ_iincN hK dX6_nextNow_102 rfl rfl (by decide) rfl ?_
                  refine mJ_goto (tgt := 9) hK dX6_nextNow_105 (by decide) ?_
                  refine ih (k + 1) (some b9) _ _ _ (by omega) (by omega) hb ?_ eh hR
                  rw [hnx, nxM_s (by omega), hk0, nxS_k (fun z => c_64 z.1)]
                · exact absurd c_92 (by omega)
              · refine mJ_aload_n hK dX6_nextNow_67 rfl ?_
                refine xJ_getr hR hK dX6_nextNow_68 fX6_34 (by unfold yV; omega) (fun _ _ => rfl) (by decide) (fun _ _ => rfl) ?_
                refine mJ_iload hK dX6_nextNow_71 rfl ?_
                refine xJ_iald k hR hK dX6_nextNow_73 (by unfold yV; omega) (fun _ _ => rfl) rfl (by omega) (by decide) ?_
                refine mJ_aload_n hK dX6_nextNow_74 rfl ?_
                refine xJ_getr hR hK dX6_nextNow_75 fX6_34 (by unfold yV; omega) (fun _ _ => rfl) (by decide) (fun _ _ => rfl) ?_
                refine mJ_iload_n hK dX6_nextNow_78 rfl ?_
                refine xJ_iald b9 hR hK dX6_nextNow_79 (by unfold yV; omega) (fun _ _ => rfl) rfl (by omega) (by decide) ?_
                refine mJ_icmp_ge (tgt := 87) hK dX6_nextNow_80 (by decide) (fun c_80 => ?_) (fun c_80 => ?_)
                · refine mJ_iconst (v := nI 0) hK dX6_nextNow_87 (by decide) ?_
                  refine mJ_istore hK dX6_nextNow_88 (by decide) rfl ?_
                  refine mJ_iload hK dX6_nextNow_90 rfl ?_
                  refine mJ_nif_eq (tgt := 100) hK dX6_nextNow_92 (by decide) (by first | omega) (fun c_92 => ?_) (fun c_92 => ?_)
                  · refine mJ_iload_n hK dX6_nextNow_100 rfl ?_
                    refine mJ_istore_n hK dX6_nextNow_101 (by decide) rfl ?_
                    refine mJ_iincN hK dX6_nextNow_102 rfl rfl (by decide) rfl ?_
                    refine mJ_goto (tgt := 9) hK dX6_nextNow_105 (by decide) ?_
                    refine ih (k + 1) (some b9) _ _ _ (by omega) (by omega) hb ?_ eh hR
                    rw [hnx, nxM_s (by omega), hk0, nxS_k (fun z => Int32.not_le.mpr z.2 c_80)]
                  · exact absurd c_92 (by omega)
                · refine mJ_iconst (v := nI 1) hK dX6_nextNow_83 (by decide) ?_
                  refine mJ_goto (tgt := 88) hK dX6_nextNow_84 (by decide) ?_
                  refine mJ_istore hK dX6_nextNow_88 (by decide) rfl ?_
                  refine mJ_iload hK dX6_nextNow_90 rfl ?_
                  refine mJ_nif_eq (tgt := 100) hK dX6_nextNow_92 (by decide) (by first | omega) (fun c_92 => ?_) (fun c_92 => ?_)
                  · exact absurd c_92 (by omega)
                  · refine mJ_iload hK dX6_nextNow_95 rfl ?_
                    refine mJ_goto (tgt := 101) hK dX6_nextNow_97 (by decide) ?_
                    refine mJ_istore_n hK dX6_nextNow_101 (by decide) rfl ?_
                    refine mJ_iincN hK dX6_nextNow_102 rfl rfl (by decide) rfl ?_
                    refine mJ_goto (tgt := 9) hK dX6_nextNow_105 (by decide) ?_
                    refine ih (k + 1) (some k) _ _ _ (by omega) (by omega) (fun _ z9 => by cases z9; exact hk9) ?_ eh hR
                    rw [hnx, nxM_s (by omega), hk0, nxS_2 ((bmk_us (p := en) (by omega) hk9).mp (us1.mp c_51)) c_64 (Int32.not_le.mp c_80)]
        · refine mJ_aload_n hK dX6_nextNow_25 rfl ?_
          refine xJ_geti hR hK dX6_nextNow_26 fX6_37 (by unfold yV; omega) (fun _ _ => rfl) (by decide) rfl ?_
          refine mJ_iconst (v := nI 1) hK dX6_nextNow_29 (by decide) ?_
          refine mJ_iadd hK dX6_nextNow_30 ?_
          rw [hst]
          refine mJ_iload_n hK dX6_nextNow_31 rfl ?_
          refine mJ_iaddN hK dX6_nextNow_32 ?_
          refine mJ_aload_n hK dX6_nextNow_33 rfl ?_
          refine xJ_getx (nI rn) hR hK dX6_nextNow_34 fX6_188 (by unfold yV; omega) (fun _ _ => rfl) (by decide) rfl (by first | exact hrn | (simp [fr, upd]; exact hrn) | (simp [fr, upd, tS]; exact hrn)) ?_
          refine mJ_iremN hK dX6_nextNow_37 (by first | omega) (by first | omega) (by first | omega) ?_
          refine mJ_goto (tgt := 42) hK dX6_nextNow_38 (by decide) ?_
          have hs1 : s0 = st := by rw [hs0, if_pos c_22]
          generalize hk0 : (st + k) % rn = k9
          rw [← hs1] at hk0
          have hk9 : k9 < rn := by rw [← hk0]; exact Nat.mod_lt _ (by omega)
          refine mJ_istore hK dX6_nextNow_42 (by decide) rfl ?_
          refine mJ_iload_n hK dX6_nextNow_44 rfl ?_
          refine mJ_iload hK dX6_nextNow_45 rfl ?_
          refine mJ_ishr hK dX6_nextNow_47 ?_
          refine mJ_iconst (v := nI 1) hK dX6_nextNow_48 (by decide) ?_
          refine mJ_iand hK dX6_nextNow_49 ?_
          refine mJ_iconst (v := nI 1) hK dX6_nextNow_50 (by decide) ?_
          refine mJ_icmp_ne (tgt := 87) hK dX6_nextNow_51 (by decide) (fun c_51 => ?_) (fun c_51 => ?_)
          · refine mJ_iconst (v := nI 0) hK dX6_nextNow_87 (by decide) ?_
            refine mJ_istore hK dX6_nextNow_88 (by decide) rfl ?_
            refine mJ_iload hK dX6_nextNow_90 rfl ?_
            refine mJ_nif_eq (tgt := 100) hK dX6_nextNow_92 (by decide) (by first | omega) (fun c_92 => ?_) (fun c_92 => ?_)
            · refine mJ_iload_n hK dX6_nextNow_100 rfl ?_
              refine mJ_istore_n hK dX6_nextNow_101 (by decide) rfl ?_
              refine mJ_iincN hK dX6_nextNow_102 rfl rfl (by decide) rfl ?_
              refine mJ_goto (tgt := 9) hK dX6_nextNow_105 (by decide) ?_
              refine ih (k + 1) (some b9) _ _ _ (by omega) (by omega) hb ?_ eh hR
              rw [hnx, nxM_s (by omega), hk0, nxS_f (fun z => c_51 (us1.mpr ((bmk_us (p := en) (by omega) hk9).mpr z)))]
            · exact absurd c_92 (by omega)
          · refine mJ_iload_n hK dX6_nextNow_54 rfl ?_
            refine mJ_iconst (v := -1) hK dX6_nextNow_55 (by decide) ?_
            refine mJ_icmp_eq (tgt := 83) hK dX6_nextNow_56 (by decide) (fun c_56 => ?_) (fun c_56 => ?_)
            · exact absurd c_56 (nI_m1 (by have := hb b9 rfl; omega))
            · refine mJ_aload_n hK dX6_nextNow_59 rfl ?_
              refine xJ_getx (nI po) hR hK dX6_nextNow_60 fX6_201 (by unfold yV; omega) (fun _ _ => rfl) (by decide) rfl (hpo) ?_
              refine mJ_iconst (v := nI 2) hK dX6_nextNow_63 (by decide) ?_
              refine mJ_nne (tgt := 87) hK dX6_nextNow_64 (by decide) (by first | omega) (by first | omega) (fun c_64 => ?_) (fun c_64 => ?_)
              · refine mJ_iconst (v := nI 0) hK dX6_nextNow_87 (by decide) ?_
                refine mJ_istore hK dX6_nextNow_88 (by decide) rfl ?_
                refine mJ_iload hK dX6_nextNow_90 rfl ?_
                refine mJ_nif_eq (tgt := 100) hK dX6_nextNow_92 (by decide) (by first | omega) (fun c_92 => ?_) (fun c_92 => ?_)
                · refine mJ_iload_n hK dX6_nextNow_100 rfl ?_
                  refine mJ_istore_n hK dX6_nextNow_101 (by decide) rfl ?_
                  refine mJ_iincN hK dX6_nextNow_102 rfl rfl (by decide) rfl ?_
                  refine mJ_goto (tgt := 9) hK dX6_nextNow_105 (by decide) ?_
                  refine ih (k + 1) (some b9) _ _ _ (by omega) (by omega) hb ?_ eh hR
                  rw [hnx, nxM_s (by omega), hk0, nxS_k (fun z => c_64 z.1)]
                · exact absurd c_92 (by omega)
              · refine mJ_aload_n hK dX6_nextNow_67 rfl ?_
                refine xJ_getr hR hK dX6_nextNow_68 fX6_34 (by unfold yV; omega) (fun _ _ => rfl) (by decide) (fun _ _ => rfl) ?_
                refine mJ_iload hK dX6_nextNow_71 rfl ?_
                refine xJ_iald k9 hR hK dX6_nextNow_73 (by unfold yV; omega) (fun _ _ => rfl) rfl (by omega) (by decide) ?_
                refine mJ_aload_n hK dX6_nextNow_74 rfl ?_
                refine xJ_getr hR hK dX6_nextNow_75 fX6_34 (by unfold yV; omega) (fun _ _ => rfl) (by decide) (fun _ _ => rfl) ?_
                refine mJ_iload_n hK dX6_nextNow_78 rfl ?_
                refine xJ_iald b9 hR hK dX6_nextNow_79 (by unfold yV; omega) (fun _ _ => rfl) rfl (by omega) (by decide) ?_
                refine mJ_icmp_ge (tgt := 87) hK dX6_nextNow_80 (by decide) (fun c_80 => ?_) (fun c_80 => ?_)
                · refine mJ_iconst (v := nI 0) hK dX6_nextNow_87 (by decide) ?_
                  refine mJ_istore hK dX6_nextNow_88 (by decide) rfl ?_
                  refine mJ_iload hK dX6_nextNow_90 rfl ?_
                  refine mJ_nif_eq (tgt := 100) hK dX6_nextNow_92 (by decide) (by first | omega) (fun c_92 => ?_) (fun c_92 => ?_)
                  · refine mJ_iload_n hK dX6_nextNow_100 rfl ?_
                    refine mJ_istore_n hK dX6_nextNow_101 (by decide) rfl ?_
                    refine mJ_iincN hK dX6_nextNow_102 rfl rfl (by decide) rfl ?_
                    refine mJ_goto (tgt := 9) hK dX6_nextNow_105 (by decide) ?_
                    refine ih (k + 1) (some b9) _ _ _ (by omega) (by omega) hb ?_ eh hR
                    rw [hnx, nxM_s (by omega), hk0, nxS_k (fun z => Int32.not_le.mpr z.2 c_80)]
                  · exact absurd c_92 (by omega)
                · refine mJ_iconst (v := nI 1) hK dX6_nextNow_83 (by decide) ?_
                  refine mJ_goto (tgt := 88) hK dX6_nextNow_84 (by decide) ?_
                  refine mJ_istore hK dX6_nextNow_88 (by decide) rfl ?_
                  refine mJ_iload hK dX6_nextNow_90 rfl ?_
                  refine mJ_nif_eq (tgt := 100) hK dX6_nextNow_92 (by decide) (by first | omega) (fun c_92 => ?_) (fun c_92 => ?_)
                  · exact absurd c_92 (by omega)
                  · refine mJ_iload hK dX6_nextNow_95 rfl ?_
                    refine mJ_goto (tgt := 101) hK dX6_nextNow_97 (by decide) ?_
                    refine mJ_istore_n hK dX6_nextNow_101 (by decide) rfl ?_
                    refine mJ_iincN hK dX6_nextNow_102 rfl rfl (by decide) rfl ?_
                    refine mJ_goto (tgt := 9) hK dX6_nextNow_105 (by decide) ?_
                    refine ih (k + 1) (some k9) _ _ _ (by omega) (by omega) (fun _ z9 => by cases z9; exact hk9) ?_ eh hR
                    rw [hnx, nxM_s (by omega), hk0, nxS_2 ((bmk_us (p := en) (by omega) hk9).mp (us1.mp c_51)) c_64 (Int32.not_le.mp c_80)]

set_option maxRecDepth 100000 in
set_option maxHeartbeats 4000000 in
theorem k_X6_nextNow {l : Launch} {D : va_G} {aC : Nat → ClassId} {ad : xAd} {h0 h : mH} {F : xFm} {W : xWm} {pm : Nat → Nat} (hR : xR yV ad h0 F W pm h) {rn : Nat} (hrn : F 30 0 0 3 = nI rn) (hrn8 : rn ≤ 8) {q : Nat → Nat} (hq : ∀ c, c < 8 → F 44 0 0 c = nI (q c) ∧ q c ≤ 8) {ga gb om : Nat → Nat} {mt : Nat → Option (Nat → Nat)} (hM : rM F q rn ga gb om mt) {po : Nat} (hpo : F 30 0 0 13 = nI po) (hpo2 : po ≤ 2) {st : Nat} (hst : F 30 0 0 12 + nI 1 = nI st) (hst8 : st ≤ 8) {s0 : Nat} (hs0 : s0 = if po = 1 then st else 0) : mCon l D aC mX6_nextNow [.ref (ad 30 0 0)] h (mRi (opI (nxL (enM F q om mt) (F 41 0 0) po rn s0 rn 0 none)) (fun h' => ∃ ch : Nat → Int32, xR yV ad h0 (fr F 66 0 0 ch) W pm h')) := by
  refine mCon.of [some (.ref (ad 30 0 0)), none, none, none, none, none] (by decide +kernel) rfl (Nat.le_of_ble_eq_true rfl) ?_
  intro K el eD eC hK hZ
  subst el eD eC
  refine mJ_aload_n hK dX6_nextNow_0 rfl ?_
  refine mJ_cVi hK dX6_nextNow_1 lX6_242 (by unfold mFit; decide) (by decide) (k_X6_enabledNow hR (rn := rn) hrn hrn8 (q := q) hq (om := om) (mt := mt) (ga := ga) (gb := gb) hM) rfl rfl (Nat.le_of_ble_eq_true rfl) (hR.1 _ _ _ (by unfold yV; omega)) ⟨_, _, rfl⟩ (fun h hE => ?_)
  obtain ⟨ch, hR⟩ := hE
  refine mJ_istore_n hK dX6_nextNow_4 (by decide) rfl ?_
  refine mJ_iconst (v := -1) hK dX6_nextNow_5 (by decide) ?_
  refine mJ_istore_n hK dX6_nextNow_6 (by decide) rfl ?_
  refine mJ_iconst (v := nI 0) hK dX6_nextNow_7 (by decide) ?_
  refine mJ_istore_n hK dX6_nextNow_8 (by decide) rfl ?_
  rw [← nxM_eq (Or.inl rfl)] at hZ
  refine lp_X6_nextNow (F := fr F 66 0 0 ch) (h9 := h) (en := enM F q om mt) hK hrn hrn8 hpo hpo2 hst hst8 hs0 ⟨ch, hR⟩ hZ (rn + 1) 0 none none none _ (by omega) (by omega) (fun _ z9 => by cases z9) rfl rfl hR

set_option maxRecDepth 100000 in
set_option maxHeartbeats 4000000 in
theorem k_X6_nextRule {l : Launch} {D : va_G} {aC : Nat → ClassId} {ad : xAd} {h0 h : mH} {F : xFm} {W : xWm} {pm : Nat → Nat} (hR : xR yV ad h0 F W pm h) {rn : Nat} (hrn : F 30 0 0 3 = nI rn) (hrn8 : rn ≤ 8) {q : Nat → Nat} (hq : ∀ c, c < 8 → F 44 0 0 c = nI (q c) ∧ q c ≤ 8) {ga gb om : Nat → Nat} {mt : Nat → Option (Nat → Nat)} (hM : rM F q rn ga gb om mt) {po : Nat} (hpo : F 30 0 0 13 = nI po) (hpo2 : po ≤ 2) {st : Nat} (hst : F 30 0 0 12 + nI 1 = nI st) (hst8 : st ≤ 8) {s0 : Nat} (hs0 : s0 = if po = 1 then st else 0) : mCon l D aC mX6_nextRule [.ref (ad 30 0 0)] h (mRi (opI (nxL (enM F q om mt) (F 41 0 0) po rn s0 rn 0 none)) (fun h' => ∃ ch : Nat → Int32, xR yV ad h0 (fr (tS F (nI 0)) 66 0 0 ch) W pm h')) := by
  refine mCon.of [some (.ref (ad 30 0 0))] (by decide +kernel) rfl (Nat.le_of_ble_eq_true rfl) ?_
  intro K el eD eC hK hZ
  subst el eD eC
  refine mJ_aload_n hK dX6_nextRule_0 rfl ?_
  refine mJ_iconst (v := nI 0) hK dX6_nextRule_1 (by decide) ?_
  refine xJ_puti hR hK dX6_nextRule_2 fX6_117 sX6_0 rfl rfl (by unfold yV; omega) (fun _ _ => rfl) (by decide) rfl (fun h hR => ?_)
  refine mJ_aload_n hK dX6_nextRule_5 rfl ?_
  refine mJ_cVi hK dX6_nextRule_6 lX6_245 (by unfold mFit; decide) (by decide) (k_X6_nextNow hR (rn := rn) hrn hrn8 (q := q) hq (om := om) (mt := mt) (ga := ga) (gb := gb) hM (po := po) hpo hpo2 (st := st) hst hst8 hs0) rfl rfl (Nat.le_of_ble_eq_true rfl) (hR.1 _ _ _ (by unfold yV; omega)) ⟨_, _, rfl⟩ (fun h hE => ?_)
  obtain ⟨ch, hR⟩ := hE
  refine mJ_iret hK dX6_nextRule_9 rfl hZ (by decide) (by decide) ?_
  exact ⟨rfl, ch, hR⟩

def mtM (mt : Nat → Option (Nat → Nat)) (k c : Nat) : Int32 := match mt k with
  | some cn => nI (cn c)
  | none => -1
set_option maxRecDepth 100000 in
set_option maxHeartbeats 4000000 in
theorem k_X6_matchOf {l : Launch} {D : va_G} {aC : Nat → ClassId} {ad : xAd} {h0 h : mH} {F : xFm} {W : xWm} {pm : Nat → Nat} (hR : xR yV ad h0 F W pm h) {rn : Nat} (hrn : F 30 0 0 3 = nI rn) (hrn8 : rn ≤ 8) {q : Nat → Nat} (hq : ∀ c, c < 8 → F 44 0 0 c = nI (q c) ∧ q c ≤ 8) {ga gb om : Nat → Nat} {mt : Nat → Option (Nat → Nat)} (hM : rM F q rn ga gb om mt) {k : Nat} (hk : k < rn) {c : Nat} (hc : c < 8) (hu : usP (F 34 0 0 k) (nI c)) : mCon l D aC mX6_matchOf [.ref (ad 30 0 0), .int (nI k), .int (nI c)] h (mRi (mtM mt k c) (fun h' => ∃ ch : Nat → Int32, xR yV ad h0 (fr (tS F (nI 0)) 66 0 0 ch) W pm h')) := by
  refine mCon.of [some (.ref (ad 30 0 0)), some (.int (nI k)), some (.int (nI c))] (by decide +kernel) rfl (Nat.le_of_ble_eq_true rfl) ?_
  intro K el eD eC hK hZ
  subst el eD eC
  refine mJ_aload_n hK dX6_matchOf_0 rfl ?_
  refine mJ_aload_n hK dX6_matchOf_1 rfl ?_
  refine mJ_iload_n hK dX6_matchOf_2 rfl ?_
  refine mJ_cVi hK dX6_matchOf_3 lX6_194 (by unfold mFit; decide) (by decide) (k_X6_isRule hR hrn hrn8 _) rfl rfl (Nat.le_of_ble_eq_true rfl) (hR.1 _ _ _ (by unfold yV; omega)) ⟨_, _, rfl⟩ (fun h e9 => ?_)
  subst e9
  refine mJ_ifb_ne (tgt := 13) hK dX6_matchOf_6 (by decide) (fun c_6 => ?_) (fun c_6 => ?_)
  · refine mJ_iload_n hK dX6_matchOf_13 rfl ?_
    refine mJ_cSi hK dX6_matchOf_14 lX6_207 (by unfold mFit; decide) (by decide) (k_X6_isChannelN (by omega)) rfl rfl (Nat.le_of_ble_eq_true rfl) (fun h e9 => ?_)
    subst e9
    refine mJ_ifb_eq (tgt := 38) hK dX6_matchOf_17 (by decide) (fun c_17 => ?_) (fun c_17 => ?_)
    · exact absurd hc c_17
    · refine mJ_aload_n hK dX6_matchOf_20 rfl ?_
      refine xJ_getr hR hK dX6_matchOf_21 fX6_13 (by unfold yV; omega) (fun _ _ => rfl) (by decide) (fun _ _ => rfl) ?_
      refine mJ_iload_n hK dX6_matchOf_24 rfl ?_
      refine xJ_iald k hR hK dX6_matchOf_25 (by unfold yV; omega) (fun _ _ => rfl) rfl (by omega) (by decide) ?_
      refine mJ_iload_n hK dX6_matchOf_26 rfl ?_
      refine mJ_ishr hK dX6_matchOf_27 ?_
      refine mJ_iconst (v := nI 1) hK dX6_matchOf_28 (by decide) ?_
      refine mJ_iand hK dX6_matchOf_29 ?_
      refine mJ_iconst (v := nI 1) hK dX6_matchOf_30 (by decide) ?_
      refine mJ_icmp_ne (tgt := 38) hK dX6_matchOf_31 (by decide) (fun c_31 => ?_) (fun c_31 => ?_)
      · exact absurd (us1.mpr hu) c_31
      · refine mJ_iconst (v := nI 0) hK dX6_matchOf_34 (by decide) ?_
        refine mJ_goto (tgt := 39) hK dX6_matchOf_35 (by decide) ?_
        refine xJ_puti hR hK dX6_matchOf_39 fX6_117 sX6_0 rfl rfl (by unfold yV; omega) (fun _ _ => rfl) (by decide) rfl (fun h hR => ?_)
        refine mJ_aload_n hK dX6_matchOf_42 rfl ?_
        refine xJ_getx (nI 0) hR hK dX6_matchOf_43 fX6_117 (by unfold yV; omega) (fun _ _ => rfl) (by decide) rfl (by simp [fr, upd]) ?_
        refine mJ_nif_le (tgt := 51) hK dX6_matchOf_46 (by decide) (by omega) (fun c_46 => ?_) (fun c_46 => ?_)
        · refine mJ_aload_n hK dX6_matchOf_51 rfl ?_
          refine mJ_iload_n hK dX6_matchOf_52 rfl ?_
          refine mJ_cVi hK dX6_matchOf_53 lX6_233 (by unfold mFit; decide) (by decide) (k_X6_matches hR (rn := rn) hrn hrn8 (r := k) hk (q := q) hq (hM k hk).1 (hM k hk).2.1) rfl rfl (Nat.le_of_ble_eq_true rfl) (hR.1 _ _ _ (by unfold yV; omega)) ⟨_, _, rfl⟩ (fun h hE => ?_)
          obtain ⟨ch, hR, hch⟩ := hE
          refine mJ_ifb_eq (tgt := 68) hK dX6_matchOf_56 (by decide) (fun c_56 => ?_) (fun c_56 => ?_)
          · refine mJ_iconst (v := -1) hK dX6_matchOf_68 (by decide) ?_
            refine mJ_iret hK dX6_matchOf_69 rfl hZ (by decide) (by decide) ?_
            refine ⟨congrArg (fun z9 => some (Value.int z9)) ?_, ch, hR⟩
            unfold mtM
            first | (obtain ⟨c9, h9⟩ := Option.isSome_iff_exists.mp c_56; rw [h9]; rw [fr_s]; exact hch c9 h9 c hc) | (rw [Option.not_isSome_iff_eq_none.mp c_56])
          · refine mJ_aload_n hK dX6_matchOf_59 rfl ?_
            refine xJ_getr hR hK dX6_matchOf_60 fX6_81 (by unfold yV; omega) (fun _ _ => rfl) (by decide) (fun _ _ => rfl) ?_
            refine mJ_iload_n hK dX6_matchOf_63 rfl ?_
            refine xJ_iald c hR hK dX6_matchOf_64 (by unfold yV; omega) (fun _ _ => rfl) rfl (by omega) (by decide) ?_
            refine mJ_goto (tgt := 69) hK dX6_matchOf_65 (by decide) ?_
            refine mJ_iret hK dX6_matchOf_69 rfl hZ (by decide) (by decide) ?_
            refine ⟨congrArg (fun z9 => some (Value.int z9)) ?_, ch, hR⟩
            unfold mtM
            first | (obtain ⟨c9, h9⟩ := Option.isSome_iff_exists.mp c_56; rw [h9]; rw [fr_s]; exact hch c9 h9 c hc) | (rw [Option.not_isSome_iff_eq_none.mp c_56])
        · exact absurd c_46 (by omega)
  · exact (c_6 ⟨nI_pos' (by omega), nI_lt hk (by omega)⟩).elim

set_option maxRecDepth 100000 in
set_option maxHeartbeats 4000000 in
theorem k_X6_matchOf_x1 {l : Launch} {D : va_G} {aC : Nat → ClassId} {ad : xAd} {h0 h : mH} {F : xFm} {W : xWm} {pm : Nat → Nat} (hR : xR yV ad h0 F W pm h) {rn : Nat} (hrn : F 30 0 0 3 = nI rn) (hrn8 : rn ≤ 8) {x : Int32} (hx : ¬ (0 ≤ x ∧ x < nI rn)) (y : Int32) : mCon l D aC mX6_matchOf [.ref (ad 30 0 0), .int x, .int y] h (mRi (nI 0) (fun h' => xR yV ad h0 (tS F (nI 1)) W pm h')) := by
  refine mCon.of [some (.ref (ad 30 0 0)), some (.int x), some (.int y)] (by decide +kernel) rfl (Nat.le_of_ble_eq_true rfl) ?_
  intro K el eD eC hK hZ
  subst el eD eC
  refine mJ_aload_n hK dX6_matchOf_0 rfl ?_
  refine mJ_aload_n hK dX6_matchOf_1 rfl ?_
  refine mJ_iload_n hK dX6_matchOf_2 rfl ?_
  refine mJ_cVi hK dX6_matchOf_3 lX6_194 (by unfold mFit; decide) (by decide) (k_X6_isRule hR hrn hrn8 _) rfl rfl (Nat.le_of_ble_eq_true rfl) (hR.1 _ _ _ (by unfold yV; omega)) ⟨_, _, rfl⟩ (fun h e9 => ?_)
  subst e9
  refine mJ_ifb_ne (tgt := 13) hK dX6_matchOf_6 (by decide) (fun c_6 => ?_) (fun c_6 => ?_)
  · exact absurd c_6 hx
  · refine mJ_iconst (v := nI 1) hK dX6_matchOf_9 (by decide) ?_
    refine mJ_goto (tgt := 39) hK dX6_matchOf_10 (by decide) ?_
    refine xJ_puti hR hK dX6_matchOf_39 fX6_117 sX6_0 rfl rfl (by unfold yV; omega) (fun _ _ => rfl) (by decide) rfl (fun h hR => ?_)
    refine mJ_aload_n hK dX6_matchOf_42 rfl ?_
    refine xJ_getx (nI 1) hR hK dX6_matchOf_43 fX6_117 (by unfold yV; omega) (fun _ _ => rfl) (by decide) rfl (by simp [fr, upd]) ?_
    refine mJ_nif_le (tgt := 51) hK dX6_matchOf_46 (by decide) (by omega) (fun c_46 => ?_) (fun c_46 => ?_)
    · exact absurd c_46 (by omega)
    · refine mJ_iconst (v := nI 0) hK dX6_matchOf_49 (by decide) ?_
      refine mJ_iret hK dX6_matchOf_50 rfl hZ (by decide) (by decide) ?_
      exact ⟨rfl, hR⟩

set_option maxRecDepth 100000 in
set_option maxHeartbeats 4000000 in
theorem k_X6_matchOf_x2 {l : Launch} {D : va_G} {aC : Nat → ClassId} {ad : xAd} {h0 h : mH} {F : xFm} {W : xWm} {pm : Nat → Nat} (hR : xR yV ad h0 F W pm h) {rn : Nat} (hrn : F 30 0 0 3 = nI rn) (hrn8 : rn ≤ 8) {k : Nat} (hk : k < rn) {y : Int32} (hy : ¬ ((0 ≤ y ∧ y < nI 8) ∧ usP (F 34 0 0 k) y)) : mCon l D aC mX6_matchOf [.ref (ad 30 0 0), .int (nI k), .int y] h (mRi (nI 0) (fun h' => xR yV ad h0 (tS F (nI 2)) W pm h')) := by
  refine mCon.of [some (.ref (ad 30 0 0)), some (.int (nI k)), some (.int y)] (by decide +kernel) rfl (Nat.le_of_ble_eq_true rfl) ?_
  intro K el eD eC hK hZ
  subst el eD eC
  refine mJ_aload_n hK dX6_matchOf_0 rfl ?_
  refine mJ_aload_n hK dX6_matchOf_1 rfl ?_
  refine mJ_iload_n hK dX6_matchOf_2 rfl ?_
  refine mJ_cVi hK dX6_matchOf_3 lX6_194 (by unfold mFit; decide) (by decide) (k_X6_isRule hR hrn hrn8 _) rfl rfl (Nat.le_of_ble_eq_true rfl) (hR.1 _ _ _ (by unfold yV; omega)) ⟨_, _, rfl⟩ (fun h e9 => ?_)
  subst e9
  refine mJ_ifb_ne (tgt := 13) hK dX6_matchOf_6 (by decide) (fun c_6 => ?_) (fun c_6 => ?_)
  · refine mJ_iload_n hK dX6_matchOf_13 rfl ?_
    refine mJ_cSi hK dX6_matchOf_14 lX6_207 (by unfold mFit; decide) (by decide) (k_X6_isChannel _) rfl rfl (Nat.le_of_ble_eq_true rfl) (fun h e9 => ?_)
    subst e9
    refine mJ_ifb_eq (tgt := 38) hK dX6_matchOf_17 (by decide) (fun c_17 => ?_) (fun c_17 => ?_)
    · refine mJ_iconst (v := nI 2) hK dX6_matchOf_38 (by decide) ?_
      refine xJ_puti hR hK dX6_matchOf_39 fX6_117 sX6_0 rfl rfl (by unfold yV; omega) (fun _ _ => rfl) (by decide) rfl (fun h hR => ?_)
      refine mJ_aload_n hK dX6_matchOf_42 rfl ?_
      refine xJ_getx (nI 2) hR hK dX6_matchOf_43 fX6_117 (by unfold yV; omega) (fun _ _ => rfl) (by decide) rfl (by simp [fr, upd]) ?_
      refine mJ_nif_le (tgt := 51) hK dX6_matchOf_46 (by decide) (by omega) (fun c_46 => ?_) (fun c_46 => ?_)
      · exact absurd c_46 (by omega)
      · refine mJ_iconst (v := nI 0) hK dX6_matchOf_49 (by decide) ?_
        refine mJ_iret hK dX6_matchOf_50 rfl hZ (by decide) (by decide) ?_
        exact ⟨rfl, hR⟩
    · refine mJ_aload_n hK dX6_matchOf_20 rfl ?_
      refine xJ_getr hR hK dX6_matchOf_21 fX6_13 (by unfold yV; omega) (fun _ _ => rfl) (by decide) (fun _ _ => rfl) ?_
      refine mJ_iload_n hK dX6_matchOf_24 rfl ?_
      refine xJ_iald k hR hK dX6_matchOf_25 (by unfold yV; omega) (fun _ _ => rfl) rfl (by omega) (by decide) ?_
      refine mJ_iload_n hK dX6_matchOf_26 rfl ?_
      refine mJ_ishr hK dX6_matchOf_27 ?_
      refine mJ_iconst (v := nI 1) hK dX6_matchOf_28 (by decide) ?_
      refine mJ_iand hK dX6_matchOf_29 ?_
      refine mJ_iconst (v := nI 1) hK dX6_matchOf_30 (by decide) ?_
      refine mJ_icmp_ne (tgt := 38) hK dX6_matchOf_31 (by decide) (fun c_31 => ?_) (fun c_31 => ?_)
      · refine mJ_iconst (v := nI 2) hK dX6_matchOf_38 (by decide) ?_
        refine xJ_puti hR hK dX6_matchOf_39 fX6_117 sX6_0 rfl rfl (by unfold yV; omega) (fun _ _ => rfl) (by decide) rfl (fun h hR => ?_)
        refine mJ_aload_n hK dX6_matchOf_42 rfl ?_
        refine xJ_getx (nI 2) hR hK dX6_matchOf_43 fX6_117 (by unfold yV; omega) (fun _ _ => rfl) (by decide) rfl (by simp [fr, upd]) ?_
        refine mJ_nif_le (tgt := 51) hK dX6_matchOf_46 (by decide) (by omega) (fun c_46 => ?_) (fun c_46 => ?_)
        · exact absurd c_46 (by omega)
        · refine mJ_iconst (v := nI 0) hK dX6_matchOf_49 (by decide) ?_
          refine mJ_iret hK dX6_matchOf_50 rfl hZ (by decide) (by decide) ?_
          exact ⟨rfl, hR⟩
      · exact absurd ⟨c_17, by obtain ⟨c, hc, rfl⟩ := nI_of2 (M := nI 8) (n := 8) (by decide) (Int32.not_lt.mpr c_17.1) (Int32.le_of_lt c_17.2); exact us1.mp c_31⟩ hy
  · exact (c_6 ⟨nI_pos' (by omega), nI_lt hk (by omega)⟩).elim
