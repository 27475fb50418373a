section
variable {K : mK} {μ ν : mM} {cells slots pc : Nat} {L : List (Option Value)} {S st : List Value} {h : mH} {QX QX' : String → mH → Prop}
theorem mJ_xV {idx n b ci : Nat} {fs As : List Value} (hK : mCx K μ) (hX : mRx K μ QX) (hd : decode μ.2.1 pc = .ok (.invokevirtual idx, 3)) (hl : mLV μ.1.cls idx ν n) (hR : mFit μ ν) (hf : cells + (mRm ν).cells ≤ (mRm μ).cells ∧ slots + (mRm ν).slots ≤ (mRm μ).slots) (hM : mXon (kl K) (kD K) (kC K) ν (.ref b :: As) h (fun _ _ => False) QX') (hXX : ∀ E h', QX' E h' → QX E h') (hn : As.length = n) (hst : st = As.reverse ++ .ref b :: S) (h8 : (S.map fun v => v.category).sum ≤ 8) (hb : h b = some (.inr (ci, fs))) (hci : ∃ (T : u_T) (N : Nat), vwCl[ci]? = some (ν.1.cls, T, N)) : mJ K cells slots pc L st h :=
  mJ_callVX hK hX hd hl hR hf hn hst h8 hb hci hM hXX (fun _ _ z => z.elim)
theorem mJ_xS {idx n : Nat} {As : List Value} (hK : mCx K μ) (hX : mRx K μ QX) (hd : decode μ.2.1 pc = .ok (.invokestatic idx, 3)) (hl : mLS μ.1.cls idx ν n) (hR : mFit μ ν) (hf : cells + (mRm ν).cells ≤ (mRm μ).cells ∧ slots + (mRm ν).slots ≤ (mRm μ).slots) (hM : mXon (kl K) (kD K) (kC K) ν As h (fun _ _ => False) QX') (hXX : ∀ E h', QX' E h' → QX E h') (hn : As.length = n) (hst : st = As.reverse ++ S) (h8 : (S.map fun v => v.category).sum ≤ 8) : mJ K cells slots pc L st h :=
  mJ_callSX hK hX hd hl hR hf hn hst h8 hM hXX (fun _ _ z => z.elim)
end
def bmk (p : Nat → Bool) : Nat → Int32
  | 0 => nI 0
  | r + 1 => if p r = true then bmk p r ||| nI 1 <<< (nI r &&& 31) else bmk p r
theorem fr_fr {α : Type} {F : Nat → Nat → Nat → α} {k i j : Nat} {a b : α} : fr (fr F k i j a) k i j b = fr F k i j b := by
  funext x y z
  unfold fr
  split <;> rfl
def zf (f : Nat → Int32) (x : Int32) (e : Nat) : Nat → Int32 := fun j => if j < e then x else f j
theorem zf_s {f : Nat → Int32} {x : Int32} {e : Nat} : upd (zf f x e) e x = zf f x (e + 1) := by
  funext j
  unfold upd zf
  by_cases h : j = e
  · subst h
    rw [if_pos rfl, if_pos (by omega)]
  · rw [if_neg h]
    by_cases h2 : j < e
    · rw [if_pos h2, if_pos (by omega)]
    · rw [if_neg h2, if_neg (by omega)]
theorem zf_0 {f : Nat → Int32} {x : Int32} : zf f x 0 = f := by
  funext j
  simp [zf]
set_option maxRecDepth 100000 in
set_option maxHeartbeats 4000000 in
theorem lp_J7_fill {K : mK} (hK : mCx K mJ7_fill_53178) {ad : xAd} {h0 : mH} {F : xFm} {W : xWm} {pm : Nat → Nat} {x : Int32} (hZ : mRt K mJ7_fill_53178 (mRv (fun h' => xR xV ad h0 (fr F 4 0 0 (zf (F 4 0 0) x 8)) W pm h'))) : ∀ (fu : Nat) (e : Nat) (h : mH), 8 - e < fu → (e ≤ 8) → (xR xV ad h0 (fr F 4 0 0 (zf (F 4 0 0) x e)) W pm h) → mJ K 0 0 5 [some (.ref (ad 4 0 0)), some (.int x), some (.int (nI e)), some (.int (nI 8))] [] h := by
  intro fu
  induction fu with
  | zero =>
    intro e h hm0
    exact absurd hm0 (by omega)
  | succ fu ih =>
    intro e h hm0 he hR
    refine mJ_iload_n hK dJ7_fill_53178_5 rfl ?_
    refine mJ_iload_n hK dJ7_fill_53178_6 rfl ?_
    refine mJ_nge (tgt := 20) hK dJ7_fill_53178_7 (by decide) (by omega) (by omega) (fun c_7 => ?_) (fun c_7 => ?_)
    · refine mJ_vret hK dJ7_fill_53178_20 rfl hZ (by decide) (by decide) ?_
      have : e = 8 := by omega
      subst this
      exact ⟨rfl, hR⟩
    · refine mJ_aload_n hK dJ7_fill_53178_10 rfl ?_
      refine mJ_iload_n hK dJ7_fill_53178_11 rfl ?_
      refine mJ_iload_n hK dJ7_fill_53178_12 rfl ?_
      refine xJ_iast e hR hK dJ7_fill_53178_13 (by unfold xV; omega) (fun _ _ => rfl) rfl (by omega) (by decide) (fun h hR => ?_)
      refine mJ_iincN hK dJ7_fill_53178_14 rfl rfl (by decide) rfl ?_
      refine mJ_goto (tgt := 5) hK dJ7_fill_53178_17 (by decide) ?_
      exact ih (e + 1) _ (by omega) (by omega) (xR_ext hR (by rw [fr_s, fr_fr, zf_s]))

set_option maxRecDepth 100000 in
set_option maxHeartbeats 4000000 in
theorem k_J7_fill {l : Launch} {D : va_G} {aC : Nat → ClassId} {ad : xAd} {h0 h : mH} {F : xFm} {W : xWm} {pm : Nat → Nat} (hR : xR xV ad h0 F W pm h) (x : Int32) : mCon l D aC mJ7_fill_53178 [.ref (ad 4 0 0), .int x] h (mRv (fun h' => xR xV ad h0 (fr F 4 0 0 (zf (F 4 0 0) x 8)) W pm h')) := by
  refine mCon.of [some (.ref (ad 4 0 0)), some (.int x), none, none] (by decide +kernel) rfl (Nat.le_of_ble_eq_true rfl) ?_
  intro K el eD eC hK hZ
  subst el eD eC
  refine mJ_iconst (v := nI 0) hK dJ7_fill_53178_0 (by decide) ?_
  refine mJ_istore_n hK dJ7_fill_53178_1 (by decide) rfl ?_
  refine mJ_aload_n hK dJ7_fill_53178_2 rfl ?_
  refine mJ_alen (v := nI 8) hK dJ7_fill_53178_3 (hR.1 _ _ _ (by unfold xV; omega)) (fun _ => rfl) rfl ?_
  refine mJ_istore_n hK dJ7_fill_53178_4 (by decide) rfl ?_
  exact lp_J7_fill hK hZ 9 0 _ (by omega) (by omega) (xR_ext hR (by rw [zf_0, fr_self]))

set_option maxRecDepth 100000 in
set_option maxHeartbeats 4000000 in
theorem k_X5_requireRule {l : Launch} {D : va_G} {aC : Nat → ClassId} {ad : xAd} {h0 h : mH} {F : xFm} {W : xWm} {pm : Nat → Nat} (hR : xR xV ad h0 F W pm h) {rn : Nat} (hrn : F 0 0 0 4 = nI rn) (hrn8 : rn ≤ 8) {i : Nat} (hi : i < rn) : mCon l D aC mX5_requireRule [.ref (ad 0 0 0), .int (nI i)] h (mRv (fun h' => h' = h)) := by
  refine mCon.of [some (.ref (ad 0 0 0)), some (.int (nI i))] (by decide +kernel) rfl (Nat.le_of_ble_eq_true rfl) ?_
  intro K el eD eC hK hZ
  subst el eD eC
  refine mJ_iload_n hK dX5_requireRule_0 rfl ?_
  refine mJ_nif_lt (tgt := 12) hK dX5_requireRule_1 (by decide) (by omega) ?_
  refine mJ_iload_n hK dX5_requireRule_4 rfl ?_
  refine mJ_aload_n hK dX5_requireRule_5 rfl ?_
  refine xJ_getx (nI rn) hR hK dX5_requireRule_6 fX5_72 (by unfold xV; omega) (fun _ _ => rfl) (by decide) rfl (by first | exact hrn | (simp [fr, upd]; exact hrn)) ?_
  refine mJ_nlt (tgt := 22) hK dX5_requireRule_9 (by decide) (by omega) (by omega) (fun c_9 => ?_) (fun c_9 => ?_)
  · refine mJ_vret hK dX5_requireRule_22 rfl hZ (by decide) (by decide) ?_
    exact ⟨rfl, rfl⟩
  · exact absurd c_9 (by omega)

set_option maxRecDepth 100000 in
set_option maxHeartbeats 4000000 in
theorem k_X5_requireRule_x {l : Launch} {D : va_G} {aC : Nat → ClassId} {ad : xAd} {h0 h : mH} {F : xFm} {W : xWm} {pm : Nat → Nat} (hR : xR xV ad h0 F W pm h) {rn : Nat} (hrn : F 0 0 0 4 = nI rn) (hrn8 : rn ≤ 8) {x : Int32} (hx : ¬ (0 ≤ x ∧ x < nI rn)) : mXon l D aC mX5_requireRule [.ref (ad 0 0 0), .int x] h (fun _ _ => False) (fun E h' => E = "java/lang/IndexOutOfBoundsException" ∧ h' = h) := by
  refine mXon.of [some (.ref (ad 0 0 0)), some (.int x)] (by decide +kernel) rfl (Nat.le_of_ble_eq_true rfl) ?_
  intro K el eD eC hK hZ hX
  subst el eD eC
  refine mJ_iload_n hK dX5_requireRule_0 rfl ?_
  refine mJ_if_lt (tgt := 12) hK dX5_requireRule_1 (by decide) (fun c_1 => ?_) (fun c_1 => ?_)
  · refine mJ_throw (text := "there is no such rule") hK hX tw_142 (by decide +kernel) dX5_requireRule_12 dX5_requireRule_15 dX5_requireRule_16 dX5_requireRule_18 dX5_requireRule_21 (by decide) (Nat.le_of_ble_eq_true rfl) (by decide) (by decide) ?_
    exact ⟨rfl, rfl⟩
  · refine mJ_iload_n hK dX5_requireRule_4 rfl ?_
    refine mJ_aload_n hK dX5_requireRule_5 rfl ?_
    refine xJ_getx (nI rn) hR hK dX5_requireRule_6 fX5_72 (by unfold xV; omega) (fun _ _ => rfl) (by decide) rfl (by first | exact hrn | (simp [fr, upd]; exact hrn)) ?_
    refine mJ_icmp_lt (tgt := 22) hK dX5_requireRule_9 (by decide) (fun c_9 => ?_) (fun c_9 => ?_)
    · exact absurd ⟨Int32.not_lt.mp c_1, c_9⟩ hx
    · refine mJ_throw (text := "there is no such rule") hK hX tw_142 (by decide +kernel) dX5_requireRule_12 dX5_requireRule_15 dX5_requireRule_16 dX5_requireRule_18 dX5_requireRule_21 (by decide) (Nat.le_of_ble_eq_true rfl) (by decide) (by decide) ?_
      exact ⟨rfl, rfl⟩

set_option maxRecDepth 100000 in
set_option maxHeartbeats 4000000 in
theorem k_X5_requireChannel {l : Launch} {D : va_G} {aC : Nat → ClassId} {h : mH} {c : Nat} (hc : c < 8) : mCon l D aC mX5_requireChannel [.int (nI c)] h (mRv (fun h' => h' = h)) := by
  refine mCon.of [some (.int (nI c))] (by decide +kernel) rfl (Nat.le_of_ble_eq_true rfl) ?_
  intro K el eD eC hK hZ
  subst el eD eC
  refine mJ_iload_n hK dX5_requireChannel_0 rfl ?_
  refine mJ_cSi hK dX5_requireChannel_1 lX5_161 (by unfold mFit; decide) (by decide) (k_X5_isChannelN (by omega)) rfl rfl (Nat.le_of_ble_eq_true rfl) (fun h e9 => ?_)
  subst e9
  refine mJ_ifb_ne (tgt := 17) hK dX5_requireChannel_4 (by decide) (fun c_4 => ?_) (fun c_4 => ?_)
  · refine mJ_vret hK dX5_requireChannel_17 rfl hZ (by decide) (by decide) ?_
    exact ⟨rfl, rfl⟩
  · exact absurd c_4 (by omega)

set_option maxRecDepth 100000 in
set_option maxHeartbeats 4000000 in
theorem k_X5_requireChannel_x {l : Launch} {D : va_G} {aC : Nat → ClassId} {h : mH} {x : Int32} (hx : ¬ (0 ≤ x ∧ x < nI 8)) : mXon l D aC mX5_requireChannel [.int x] h (fun _ _ => False) (fun E h' => E = "java/lang/IndexOutOfBoundsException" ∧ h' = h) := by
  refine mXon.of [some (.int x)] (by decide +kernel) rfl (Nat.le_of_ble_eq_true rfl) ?_
  intro K el eD eC hK hZ hX
  subst el eD eC
  refine mJ_iload_n hK dX5_requireChannel_0 rfl ?_
  refine mJ_cSi hK dX5_requireChannel_1 lX5_161 (by unfold mFit; decide) (by decide) (k_X5_isChannel _) rfl rfl (Nat.le_of_ble_eq_true rfl) (fun h e9 => ?_)
  subst e9
  refine mJ_ifb_ne (tgt := 17) hK dX5_requireChannel_4 (by decide) (fun c_4 => ?_) (fun c_4 => ?_)
  · exact absurd c_4 hx
  · refine mJ_throw (text := "there is no such channel") hK hX tw_142 (by decide +kernel) dX5_requireChannel_7 dX5_requireChannel_10 dX5_requireChannel_11 dX5_requireChannel_13 dX5_requireChannel_16 (by decide) (Nat.le_of_ble_eq_true rfl) (by decide) (by decide) ?_
    exact ⟨rfl, rfl⟩

set_option maxRecDepth 100000 in
set_option maxHeartbeats 4000000 in
theorem k_X5_requireTicket {l : Launch} {D : va_G} {aC : Nat → ClassId} {ad : xAd} {h0 h : mH} {F : xFm} {W : xWm} {pm : Nat → Nat} (hR : xR xV ad h0 F W pm h) {g : Nat} (hg : F 9 0 0 2 = nI g) (hgb : g < 1000000) {t : Nat} (ht1 : g - 24 ≤ t) (ht2 : t < g) : mCon l D aC mX5_requireTicket [.ref (ad 0 0 0), .int (nI t)] h (mRv (fun h' => h' = h)) := by
  refine mCon.of [some (.ref (ad 0 0 0)), some (.int (nI t))] (by decide +kernel) rfl (Nat.le_of_ble_eq_true rfl) ?_
  intro K el eD eC hK hZ
  subst el eD eC
  refine mJ_aload_n hK dX5_requireTicket_0 rfl ?_
  refine xJ_getr hR hK dX5_requireTicket_1 fX5_29 (by unfold xV; omega) (fun _ _ => rfl) (by decide) (fun _ _ => rfl) ?_
  refine xJ_getr hR hK dX5_requireTicket_4 fX5_122 (by unfold xV; omega) (fun _ _ => rfl) (by decide) (fun _ _ => rfl) ?_
  refine mJ_iload_n hK dX5_requireTicket_7 rfl ?_
  refine mJ_cVi hK dX5_requireTicket_8 lX5_239 (by unfold mFit; decide) (by decide) (k_X4_knows hR (by omega) hg hgb _) rfl rfl (Nat.le_of_ble_eq_true rfl) (hR.1 _ _ _ (by unfold xV; omega)) ⟨_, _, rfl⟩ (fun h e9 => ?_)
  subst e9
  refine mJ_ifb_ne (tgt := 24) hK dX5_requireTicket_11 (by decide) (fun c_11 => ?_) (fun c_11 => ?_)
  · refine mJ_vret hK dX5_requireTicket_24 rfl hZ (by decide) (by decide) ?_
    exact ⟨rfl, rfl⟩
  · exact (c_11 ⟨nI_le ht1 (by omega), nI_lt ht2 (by omega)⟩).elim

set_option maxRecDepth 100000 in
set_option maxHeartbeats 4000000 in
theorem k_X5_requireTicket_x {l : Launch} {D : va_G} {aC : Nat → ClassId} {ad : xAd} {h0 h : mH} {F : xFm} {W : xWm} {pm : Nat → Nat} (hR : xR xV ad h0 F W pm h) {g : Nat} (hg : F 9 0 0 2 = nI g) (hgb : g < 1000000) {x : Int32} (hx : ¬ (nI (g - 24) ≤ x ∧ x < nI g)) : mXon l D aC mX5_requireTicket [.ref (ad 0 0 0), .int x] h (fun _ _ => False) (fun E h' => E = "java/lang/IndexOutOfBoundsException" ∧ h' = h) := by
  refine mXon.of [some (.ref (ad 0 0 0)), some (.int x)] (by decide +kernel) rfl (Nat.le_of_ble_eq_true rfl) ?_
  intro K el eD eC hK hZ hX
  subst el eD eC
  refine mJ_aload_n hK dX5_requireTicket_0 rfl ?_
  refine xJ_getr hR hK dX5_requireTicket_1 fX5_29 (by unfold xV; omega) (fun _ _ => rfl) (by decide) (fun _ _ => rfl) ?_
  refine xJ_getr hR hK dX5_requireTicket_4 fX5_122 (by unfold xV; omega) (fun _ _ => rfl) (by decide) (fun _ _ => rfl) ?_
  refine mJ_iload_n hK dX5_requireTicket_7 rfl ?_
  refine mJ_cVi hK dX5_requireTicket_8 lX5_239 (by unfold mFit; decide) (by decide) (k_X4_knows hR (by omega) hg hgb _) rfl rfl (Nat.le_of_ble_eq_true rfl) (hR.1 _ _ _ (by unfold xV; omega)) ⟨_, _, rfl⟩ (fun h e9 => ?_)
  subst e9
  refine mJ_ifb_ne (tgt := 24) hK dX5_requireTicket_11 (by decide) (fun c_11 => ?_) (fun c_11 => ?_)
  · exact absurd c_11 hx
  · refine mJ_throw (text := "the ticket is not known") hK hX tw_142 (by decide +kernel) dX5_requireTicket_14 dX5_requireTicket_17 dX5_requireTicket_18 dX5_requireTicket_20 dX5_requireTicket_23 (by decide) (Nat.le_of_ble_eq_true rfl) (by decide) (by decide) ?_
    exact ⟨rfl, rfl⟩

set_option maxRecDepth 100000 in
set_option maxHeartbeats 4000000 in
theorem k_X5_append {l : Launch} {D : va_G} {aC : Nat → ClassId} {ad : xAd} {h0 h : mH} {F : xFm} {W : xWm} {pm : Nat → Nat} (hR : xR xV ad h0 F W pm h) {bl : Nat} (hbl : F 0 0 0 1 = nI bl) (hbl40 : bl ≤ 40) (hb : bl < 40) {cd : Nat} (h1 : 32 ≤ cd) (h2 : cd ≤ 126) : mCon l D aC mX5_append [.ref (ad 0 0 0), .int (nI cd)] h (mRi (nI (bl + 1)) (fun h' => xR xV ad h0 (fr (fr F 1 0 0 (upd (F 1 0 0) bl (nI cd))) 0 0 0 (upd (F 0 0 0) 1 (nI (bl + 1)))) W pm h')) := by
  refine mCon.of [some (.ref (ad 0 0 0)), some (.int (nI cd))] (by decide +kernel) rfl (Nat.le_of_ble_eq_true rfl) ?_
  intro K el eD eC hK hZ
  subst el eD eC
  refine mJ_iload_n hK dX5_append_0 rfl ?_
  refine mJ_bipush (v := nI 32) hK dX5_append_1 (by decide) ?_
  refine mJ_nlt (tgt := 12) hK dX5_append_3 (by decide) (by omega) (by omega) (fun c_3 => ?_) (fun c_3 => ?_)
  · exact absurd c_3 (by omega)
  · refine mJ_iload_n hK dX5_append_6 rfl ?_
    refine mJ_bipush (v := nI 126) hK dX5_append_7 (by decide) ?_
    refine mJ_nle (tgt := 22) hK dX5_append_9 (by decide) (by omega) (by omega) (fun c_9 => ?_) (fun c_9 => ?_)
    · refine mJ_aload_n hK dX5_append_22 rfl ?_
      refine xJ_getx (nI bl) hR hK dX5_append_23 fX5_53 (by unfold xV; omega) (fun _ _ => rfl) (by decide) rfl (by first | exact hbl | (simp [fr, upd]; exact hbl)) ?_
      refine mJ_bipush (v := nI 40) hK dX5_append_26 (by decide) ?_
      refine mJ_nlt (tgt := 41) hK dX5_append_28 (by decide) (by omega) (by omega) (fun c_28 => ?_) (fun c_28 => ?_)
      · refine mJ_aload_n hK dX5_append_41 rfl ?_
        refine xJ_getr hR hK dX5_append_42 fX5_9 (by unfold xV; omega) (fun _ _ => rfl) (by decide) (fun _ _ => rfl) ?_
        refine mJ_aload_n hK dX5_append_45 rfl ?_
        refine xJ_getx (nI bl) hR hK dX5_append_46 fX5_53 (by unfold xV; omega) (fun _ _ => rfl) (by decide) rfl (by first | exact hbl | (simp [fr, upd]; exact hbl)) ?_
        refine mJ_iload_n hK dX5_append_49 rfl ?_
        refine xJ_iast bl hR hK dX5_append_50 (by unfold xV; omega) (fun _ _ => rfl) rfl (by omega) (by decide) (fun h hR => ?_)
        refine mJ_aload_n hK dX5_append_51 rfl ?_
        refine mJ_dup hK dX5_append_52 rfl ?_
        refine xJ_getx (nI bl) hR hK dX5_append_53 fX5_53 (by unfold xV; omega) (fun _ _ => rfl) (by decide) rfl (by first | exact hbl | (simp [fr, upd]; exact hbl)) ?_
        refine mJ_iconst (v := nI 1) hK dX5_append_56 (by decide) ?_
        refine mJ_iaddN hK dX5_append_57 ?_
        refine xJ_puti hR hK dX5_append_58 fX5_53 sX5_1 rfl rfl (by unfold xV; omega) (fun _ _ => rfl) (by decide) rfl (fun h hR => ?_)
        refine mJ_aload_n hK dX5_append_61 rfl ?_
        refine xJ_getx (nI (bl + 1)) hR hK dX5_append_62 fX5_53 (by unfold xV; omega) (fun _ _ => rfl) (by decide) rfl (by simp [fr, upd]) ?_
        refine mJ_iret hK dX5_append_65 rfl hZ (by decide) (by decide) ?_
        exact ⟨rfl, hR⟩
      · exact absurd c_28 (by omega)
    · exact absurd c_9 (by omega)

set_option maxRecDepth 100000 in
set_option maxHeartbeats 4000000 in
theorem k_X5_append_x1 {l : Launch} {D : va_G} {aC : Nat → ClassId} {ad : xAd} {h0 h : mH} {F : xFm} {W : xWm} {pm : Nat → Nat} (hR : xR xV ad h0 F W pm h) {x : Int32} (hx : ¬ (nI 32 ≤ x ∧ x ≤ nI 126)) : mXon l D aC mX5_append [.ref (ad 0 0 0), .int x] h (fun _ _ => False) (fun E h' => E = "java/lang/IllegalArgumentException" ∧ h' = h) := by
  refine mXon.of [some (.ref (ad 0 0 0)), some (.int x)] (by decide +kernel) rfl (Nat.le_of_ble_eq_true rfl) ?_
  intro K el eD eC hK hZ hX
  subst el eD eC
  refine mJ_iload_n hK dX5_append_0 rfl ?_
  refine mJ_bipush (v := nI 32) hK dX5_append_1 (by decide) ?_
  refine mJ_icmp_lt (tgt := 12) hK dX5_append_3 (by decide) (fun c_3 => ?_) (fun c_3 => ?_)
  · refine mJ_throw (text := "the code is not 32 to 126") hK hX tw_46 (by decide +kernel) dX5_append_12 dX5_append_15 dX5_append_16 dX5_append_18 dX5_append_21 (by decide) (Nat.le_of_ble_eq_true rfl) (by decide) (by decide) ?_
    exact ⟨rfl, rfl⟩
  · refine mJ_iload_n hK dX5_append_6 rfl ?_
    refine mJ_bipush (v := nI 126) hK dX5_append_7 (by decide) ?_
    refine mJ_icmp_le (tgt := 22) hK dX5_append_9 (by decide) (fun c_9 => ?_) (fun c_9 => ?_)
    · exact absurd ⟨Int32.not_lt.mp c_3, c_9⟩ hx
    · refine mJ_throw (text := "the code is not 32 to 126") hK hX tw_46 (by decide +kernel) dX5_append_12 dX5_append_15 dX5_append_16 dX5_append_18 dX5_append_21 (by decide) (Nat.le_of_ble_eq_true rfl) (by decide) (by decide) ?_
      exact ⟨rfl, rfl⟩

set_option maxRecDepth 100000 in
set_option maxHeartbeats 4000000 in
theorem k_X5_append_x2 {l : Launch} {D : va_G} {aC : Nat → ClassId} {ad : xAd} {h0 h : mH} {F : xFm} {W : xWm} {pm : Nat → Nat} (hR : xR xV ad h0 F W pm h) (hbl : F 0 0 0 1 = nI 40) {cd : Nat} (h1 : 32 ≤ cd) (h2 : cd ≤ 126) : mXon l D aC mX5_append [.ref (ad 0 0 0), .int (nI cd)] h (fun _ _ => False) (fun E h' => E = "java/lang/IllegalStateException" ∧ h' = h) := by
  refine mXon.of [some (.ref (ad 0 0 0)), some (.int (nI cd))] (by decide +kernel) rfl (Nat.le_of_ble_eq_true rfl) ?_
  intro K el eD eC hK hZ hX
  subst el eD eC
  refine mJ_iload_n hK dX5_append_0 rfl ?_
  refine mJ_bipush (v := nI 32) hK dX5_append_1 (by decide) ?_
  refine mJ_nlt (tgt := 12) hK dX5_append_3 (by decide) (by omega) (by omega) (fun c_3 => ?_) (fun c_3 => ?_)
  · exact absurd c_3 (by omega)
  · refine mJ_iload_n hK dX5_append_6 rfl ?_
    refine mJ_bipush (v := nI 126) hK dX5_append_7 (by decide) ?_
    refine mJ_nle (tgt := 22) hK dX5_append_9 (by decide) (by omega) (by omega) (fun c_9 => ?_) (fun c_9 => ?_)
    · refine mJ_aload_n hK dX5_append_22 rfl ?_
      refine xJ_getx (nI 40) hR hK dX5_append_23 fX5_53 (by unfold xV; omega) (fun _ _ => rfl) (by decide) rfl (hbl) ?_
      refine mJ_bipush (v := nI 40) hK dX5_append_26 (by decide) ?_
      refine mJ_nlt (tgt := 41) hK dX5_append_28 (by decide) (by omega) (by omega) (fun c_28 => ?_) (fun c_28 => ?_)
      · exact absurd c_28 (by omega)
      · refine mJ_throw (text := "the buffer is full") hK hX tw_57 (by decide +kernel) dX5_append_31 dX5_append_34 dX5_append_35 dX5_append_37 dX5_append_40 (by decide) (Nat.le_of_ble_eq_true rfl) (by decide) (by decide) ?_
        exact ⟨rfl, rfl⟩
    · exact absurd c_9 (by omega)

set_option maxRecDepth 100000 in
set_option maxHeartbeats 4000000 in
theorem k_X5_clearBuffer {l : Launch} {D : va_G} {aC : Nat → ClassId} {ad : xAd} {h0 h : mH} {F : xFm} {W : xWm} {pm : Nat → Nat} (hR : xR xV ad h0 F W pm h) : mCon l D aC mX5_clearBuffer [.ref (ad 0 0 0)] h (mRi (F 0 0 0 1) (fun h' => xR xV ad h0 (fr F 0 0 0 (upd (F 0 0 0) 1 (nI 0))) W pm h')) := by
  refine mCon.of [some (.ref (ad 0 0 0)), none] (by decide +kernel) rfl (Nat.le_of_ble_eq_true rfl) ?_
  intro K el eD eC hK hZ
  subst el eD eC
  refine mJ_aload_n hK dX5_clearBuffer_0 rfl ?_
  refine xJ_geti hR hK dX5_clearBuffer_1 fX5_53 (by unfold xV; omega) (fun _ _ => rfl) (by decide) rfl ?_
  refine mJ_istore_n hK dX5_clearBuffer_4 (by decide) rfl ?_
  refine mJ_aload_n hK dX5_clearBuffer_5 rfl ?_
  refine mJ_iconst (v := nI 0) hK dX5_clearBuffer_6 (by decide) ?_
  refine xJ_puti hR hK dX5_clearBuffer_7 fX5_53 sX5_1 rfl rfl (by unfold xV; omega) (fun _ _ => rfl) (by decide) rfl (fun h hR => ?_)
  refine mJ_iload_n hK dX5_clearBuffer_10 rfl ?_
  refine mJ_iret hK dX5_clearBuffer_11 rfl hZ (by decide) (by decide) ?_
  exact ⟨rfl, hR⟩

set_option maxRecDepth 100000 in
set_option maxHeartbeats 4000000 in
theorem k_X5_ruleCount {l : Launch} {D : va_G} {aC : Nat → ClassId} {ad : xAd} {h0 h : mH} {F : xFm} {W : xWm} {pm : Nat → Nat} (hR : xR xV ad h0 F W pm h) : mCon l D aC mX5_ruleCount [.ref (ad 0 0 0)] h (mRi (F 0 0 0 4) (fun h' => h' = h)) := by
  refine mCon.of [some (.ref (ad 0 0 0))] (by decide +kernel) rfl (Nat.le_of_ble_eq_true rfl) ?_
  intro K el eD eC hK hZ
  subst el eD eC
  refine mJ_aload_n hK dX5_ruleCount_0 rfl ?_
  refine xJ_geti hR hK dX5_ruleCount_1 fX5_72 (by unfold xV; omega) (fun _ _ => rfl) (by decide) rfl ?_
  refine mJ_iret hK dX5_ruleCount_4 rfl hZ (by decide) (by decide) ?_
  exact ⟨rfl, rfl⟩

set_option maxRecDepth 100000 in
set_option maxHeartbeats 4000000 in
theorem k_X5_clock {l : Launch} {D : va_G} {aC : Nat → ClassId} {ad : xAd} {h0 h : mH} {F : xFm} {W : xWm} {pm : Nat → Nat} (hR : xR xV ad h0 F W pm h) : mCon l D aC mX5_clock [.ref (ad 0 0 0)] h (mRi (F 7 0 0 3) (fun h' => h' = h)) := by
  refine mCon.of [some (.ref (ad 0 0 0))] (by decide +kernel) rfl (Nat.le_of_ble_eq_true rfl) ?_
  intro K el eD eC hK hZ
  subst el eD eC
  refine mJ_aload_n hK dX5_clock_0 rfl ?_
  refine xJ_getr hR hK dX5_clock_1 fX5_29 (by unfold xV; omega) (fun _ _ => rfl) (by decide) (fun _ _ => rfl) ?_
  refine xJ_geti hR hK dX5_clock_4 fX5_119 (by unfold xV; omega) (fun _ _ => rfl) (by decide) rfl ?_
  refine mJ_iret hK dX5_clock_7 rfl hZ (by decide) (by decide) ?_
  exact ⟨rfl, rfl⟩

set_option maxRecDepth 100000 in
set_option maxHeartbeats 4000000 in
theorem k_X5_patternOf {l : Launch} {D : va_G} {aC : Nat → ClassId} {ad : xAd} {h0 h : mH} {F : xFm} {W : xWm} {pm : Nat → Nat} (hR : xR xV ad h0 F W pm h) {rn : Nat} (hrn : F 0 0 0 4 = nI rn) (hrn8 : rn ≤ 8) (hpm : ∀ i, i < 9 → pm i < 9) {i : Nat} (hi : i < rn) : mCon l D aC mX5_patternOf [.ref (ad 0 0 0), .int (nI i)] h (mRi (F 17 (pm i) 0 0) (fun h' => h' = h)) := by
  refine mCon.of [some (.ref (ad 0 0 0)), some (.int (nI i))] (by decide +kernel) rfl (Nat.le_of_ble_eq_true rfl) ?_
  intro K el eD eC hK hZ
  subst el eD eC
  refine mJ_aload_n hK dX5_patternOf_0 rfl ?_
  refine mJ_iload_n hK dX5_patternOf_1 rfl ?_
  refine mJ_cVv hK dX5_patternOf_2 lX5_88 (by unfold mFit; decide) (by decide) (k_X5_requireRule hR hrn hrn8 hi) rfl rfl (Nat.le_of_ble_eq_true rfl) (hR.1 _ _ _ (by unfold xV; have := hpm i (by omega); omega)) ⟨_, _, rfl⟩ (fun h e9 => ?_)
  subst e9
  refine mJ_aload_n hK dX5_patternOf_5 rfl ?_
  refine xJ_getr hR hK dX5_patternOf_6 fX5_22 (by unfold xV; have := hpm i (by omega); omega) (fun _ _ => rfl) (by decide) (fun _ _ => rfl) ?_
  refine mJ_iload_n hK dX5_patternOf_9 rfl ?_
  refine xJ_aldR i hR hK dX5_patternOf_10 (by unfold xV; have := hpm i (by omega); omega) rfl (by omega) ?_
  refine xJ_geti hR hK dX5_patternOf_11 fX5_95 (by unfold xV; have := hpm i (by omega); omega) (fun _ _ => rfl) (by decide) rfl ?_
  refine mJ_iret hK dX5_patternOf_14 rfl hZ (by decide) (by decide) ?_
  exact ⟨rfl, rfl⟩

set_option maxRecDepth 100000 in
set_option maxHeartbeats 4000000 in
theorem k_X5_patternOf_x {l : Launch} {D : va_G} {aC : Nat → ClassId} {ad : xAd} {h0 h : mH} {F : xFm} {W : xWm} {pm : Nat → Nat} (hR : xR xV ad h0 F W pm h) {rn : Nat} (hrn : F 0 0 0 4 = nI rn) (hrn8 : rn ≤ 8) {x : Int32} (hx : ¬ (0 ≤ x ∧ x < nI rn)) : mXon l D aC mX5_patternOf [.ref (ad 0 0 0), .int x] h (fun _ _ => False) (fun E h' => E = "java/lang/IndexOutOfBoundsException" ∧ h' = h) := by
  refine mXon.of [some (.ref (ad 0 0 0)), some (.int x)] (by decide +kernel) rfl (Nat.le_of_ble_eq_true rfl) ?_
  intro K el eD eC hK hZ hX
  subst el eD eC
  refine mJ_aload_n hK dX5_patternOf_0 rfl ?_
  refine mJ_iload_n hK dX5_patternOf_1 rfl ?_
  exact mJ_xV hK hX dX5_patternOf_2 lX5_88 (by unfold mFit; decide) (by decide) (k_X5_requireRule_x hR hrn hrn8 hx) (fun _ _ z => z) rfl rfl (Nat.le_of_ble_eq_true rfl) (hR.1 _ _ _ (by unfold xV; omega)) ⟨_, _, rfl⟩

set_option maxRecDepth 100000 in
set_option maxHeartbeats 4000000 in
theorem k_X5_firings {l : Launch} {D : va_G} {aC : Nat → ClassId} {ad : xAd} {h0 h : mH} {F : xFm} {W : xWm} {pm : Nat → Nat} (hR : xR xV ad h0 F W pm h) {rn : Nat} (hrn : F 0 0 0 4 = nI rn) (hrn8 : rn ≤ 8) {i : Nat} (hi : i < rn) : mCon l D aC mX5_firings [.ref (ad 0 0 0), .int (nI i)] h (mRi (F 12 0 0 i) (fun h' => h' = h)) := by
  refine mCon.of [some (.ref (ad 0 0 0)), some (.int (nI i))] (by decide +kernel) rfl (Nat.le_of_ble_eq_true rfl) ?_
  intro K el eD eC hK hZ
  subst el eD eC
  refine mJ_aload_n hK dX5_firings_0 rfl ?_
  refine mJ_iload_n hK dX5_firings_1 rfl ?_
  refine mJ_cVv hK dX5_firings_2 lX5_88 (by unfold mFit; decide) (by decide) (k_X5_requireRule hR hrn hrn8 hi) rfl rfl (Nat.le_of_ble_eq_true rfl) (hR.1 _ _ _ (by unfold xV; omega)) ⟨_, _, rfl⟩ (fun h e9 => ?_)
  subst e9
  refine mJ_aload_n hK dX5_firings_5 rfl ?_
  refine xJ_getr hR hK dX5_firings_6 fX5_29 (by unfold xV; omega) (fun _ _ => rfl) (by decide) (fun _ _ => rfl) ?_
  refine xJ_getr hR hK dX5_firings_9 fX5_81 (by unfold xV; omega) (fun _ _ => rfl) (by decide) (fun _ _ => rfl) ?_
  refine mJ_iload_n hK dX5_firings_12 rfl ?_
  refine xJ_iald i hR hK dX5_firings_13 (by unfold xV; omega) (fun _ _ => rfl) rfl (by omega) (by decide) ?_
  refine mJ_iret hK dX5_firings_14 rfl hZ (by decide) (by decide) ?_
  exact ⟨rfl, rfl⟩

set_option maxRecDepth 100000 in
set_option maxHeartbeats 4000000 in
theorem k_X5_firings_x {l : Launch} {D : va_G} {aC : Nat → ClassId} {ad : xAd} {h0 h : mH} {F : xFm} {W : xWm} {pm : Nat → Nat} (hR : xR xV ad h0 F W pm h) {rn : Nat} (hrn : F 0 0 0 4 = nI rn) (hrn8 : rn ≤ 8) {x : Int32} (hx : ¬ (0 ≤ x ∧ x < nI rn)) : mXon l D aC mX5_firings [.ref (ad 0 0 0), .int x] h (fun _ _ => False) (fun E h' => E = "java/lang/IndexOutOfBoundsException" ∧ h' = h) := by
  refine mXon.of [some (.ref (ad 0 0 0)), some (.int x)] (by decide +kernel) rfl (Nat.le_of_ble_eq_true rfl) ?_
  intro K el eD eC hK hZ hX
  subst el eD eC
  refine mJ_aload_n hK dX5_firings_0 rfl ?_
  refine mJ_iload_n hK dX5_firings_1 rfl ?_
  exact mJ_xV hK hX dX5_firings_2 lX5_88 (by unfold mFit; decide) (by decide) (k_X5_requireRule_x hR hrn hrn8 hx) (fun _ _ z => z) rfl rfl (Nat.le_of_ble_eq_true rfl) (hR.1 _ _ _ (by unfold xV; omega)) ⟨_, _, rfl⟩

set_option maxRecDepth 100000 in
set_option maxHeartbeats 4000000 in
theorem k_X5_setPolicy {l : Launch} {D : va_G} {aC : Nat → ClassId} {ad : xAd} {h0 h : mH} {F : xFm} {W : xWm} {pm : Nat → Nat} (hR : xR xV ad h0 F W pm h) {q : Nat} (hq : q ≤ 2) : mCon l D aC mX5_setPolicy [.ref (ad 0 0 0), .int (nI q)] h (mRi (F 0 0 0 5) (fun h' => xR xV ad h0 (fr F 0 0 0 (upd (F 0 0 0) 5 (nI q))) W pm h')) := by
  refine mCon.of [some (.ref (ad 0 0 0)), some (.int (nI q)), none] (by decide +kernel) rfl (Nat.le_of_ble_eq_true rfl) ?_
  intro K el eD eC hK hZ
  subst el eD eC
  refine mJ_iload_n hK dX5_setPolicy_0 rfl ?_
  refine mJ_nif_lt (tgt := 9) hK dX5_setPolicy_1 (by decide) (by omega) ?_
  refine mJ_iload_n hK dX5_setPolicy_4 rfl ?_
  refine mJ_iconst (v := nI 2) hK dX5_setPolicy_5 (by decide) ?_
  refine mJ_nle (tgt := 19) hK dX5_setPolicy_6 (by decide) (by omega) (by omega) (fun c_6 => ?_) (fun c_6 => ?_)
  · refine mJ_aload_n hK dX5_setPolicy_19 rfl ?_
    refine xJ_geti hR hK dX5_setPolicy_20 fX5_100 (by unfold xV; omega) (fun _ _ => rfl) (by decide) rfl ?_
    refine mJ_istore_n hK dX5_setPolicy_23 (by decide) rfl ?_
    refine mJ_aload_n hK dX5_setPolicy_24 rfl ?_
    refine mJ_iload_n hK dX5_setPolicy_25 rfl ?_
    refine xJ_puti hR hK dX5_setPolicy_26 fX5_100 sX5_5 rfl rfl (by unfold xV; omega) (fun _ _ => rfl) (by decide) rfl (fun h hR => ?_)
    refine mJ_iload_n hK dX5_setPolicy_29 rfl ?_
    refine mJ_iret hK dX5_setPolicy_30 rfl hZ (by decide) (by decide) ?_
    exact ⟨rfl, hR⟩
  · exact absurd c_6 (by omega)

set_option maxRecDepth 100000 in
set_option maxHeartbeats 4000000 in
theorem k_X5_setPolicy_x {l : Launch} {D : va_G} {aC : Nat → ClassId} {ad : xAd} {h0 h : mH} {F : xFm} {W : xWm} {pm : Nat → Nat} (hR : xR xV ad h0 F W pm h) {x : Int32} (hx : ¬ (0 ≤ x ∧ x ≤ nI 2)) : mXon l D aC mX5_setPolicy [.ref (ad 0 0 0), .int x] h (fun _ _ => False) (fun E h' => E = "java/lang/IllegalArgumentException" ∧ h' = h) := by
  refine mXon.of [some (.ref (ad 0 0 0)), some (.int x), none] (by decide +kernel) rfl (Nat.le_of_ble_eq_true rfl) ?_
  intro K el eD eC hK hZ hX
  subst el eD eC
  refine mJ_iload_n hK dX5_setPolicy_0 rfl ?_
  refine mJ_if_lt (tgt := 9) hK dX5_setPolicy_1 (by decide) (fun c_1 => ?_) (fun c_1 => ?_)
  · refine mJ_throw (text := "the policy is not 0 to 2") hK hX tw_46 (by decide +kernel) dX5_setPolicy_9 dX5_setPolicy_12 dX5_setPolicy_13 dX5_setPolicy_15 dX5_setPolicy_18 (by decide) (Nat.le_of_ble_eq_true rfl) (by decide) (by decide) ?_
    exact ⟨rfl, rfl⟩
  · refine mJ_iload_n hK dX5_setPolicy_4 rfl ?_
    refine mJ_iconst (v := nI 2) hK dX5_setPolicy_5 (by decide) ?_
    refine mJ_icmp_le (tgt := 19) hK dX5_setPolicy_6 (by decide) (fun c_6 => ?_) (fun c_6 => ?_)
    · exact absurd ⟨Int32.not_lt.mp c_1, c_6⟩ hx
    · refine mJ_throw (text := "the policy is not 0 to 2") hK hX tw_46 (by decide +kernel) dX5_setPolicy_9 dX5_setPolicy_12 dX5_setPolicy_13 dX5_setPolicy_15 dX5_setPolicy_18 (by decide) (Nat.le_of_ble_eq_true rfl) (by decide) (by decide) ?_
      exact ⟨rfl, rfl⟩

set_option maxRecDepth 100000 in
set_option maxHeartbeats 4000000 in
theorem k_X5_queueLength {l : Launch} {D : va_G} {aC : Nat → ClassId} {ad : xAd} {h0 h : mH} {F : xFm} {W : xWm} {pm : Nat → Nat} (hR : xR xV ad h0 F W pm h) {c : Nat} (hc : c < 8) : mCon l D aC mX5_queueLength [.ref (ad 0 0 0), .int (nI c)] h (mRi (F 13 0 c 3) (fun h' => h' = h)) := by
  refine mCon.of [some (.ref (ad 0 0 0)), some (.int (nI c))] (by decide +kernel) rfl (Nat.le_of_ble_eq_true rfl) ?_
  intro K el eD eC hK hZ
  subst el eD eC
  refine mJ_iload_n hK dX5_queueLength_0 rfl ?_
  refine mJ_cSv hK dX5_queueLength_1 lX5_103 (by unfold mFit; decide) (by decide) (k_X5_requireChannel hc) rfl rfl (Nat.le_of_ble_eq_true rfl) (fun h e9 => ?_)
  subst e9
  refine mJ_aload_n hK dX5_queueLength_4 rfl ?_
  refine xJ_getr hR hK dX5_queueLength_5 fX5_29 (by unfold xV; omega) (fun _ _ => rfl) (by decide) (fun _ _ => rfl) ?_
  refine xJ_getr hR hK dX5_queueLength_8 fX5_108 (by unfold xV; omega) (fun _ _ => rfl) (by decide) (fun _ _ => rfl) ?_
  refine mJ_iload_n hK dX5_queueLength_11 rfl ?_
  refine xJ_aldC c hR hK dX5_queueLength_12 (by unfold xV; omega) rfl (by omega) ?_
  refine xJ_geti hR hK dX5_queueLength_13 fX5_135 (by unfold xV; omega) (fun _ _ => rfl) (by decide) rfl ?_
  refine mJ_iret hK dX5_queueLength_16 rfl hZ (by decide) (by decide) ?_
  exact ⟨rfl, rfl⟩

set_option maxRecDepth 100000 in
set_option maxHeartbeats 4000000 in
theorem k_X5_queueLength_x {l : Launch} {D : va_G} {aC : Nat → ClassId} {ad : xAd} {h0 h : mH} {F : xFm} {W : xWm} {pm : Nat → Nat} (hR : xR xV ad h0 F W pm h) {x : Int32} (hx : ¬ (0 ≤ x ∧ x < nI 8)) : mXon l D aC mX5_queueLength [.ref (ad 0 0 0), .int x] h (fun _ _ => False) (fun E h' => E = "java/lang/IndexOutOfBoundsException" ∧ h' = h) := by
  refine mXon.of [some (.ref (ad 0 0 0)), some (.int x)] (by decide +kernel) rfl (Nat.le_of_ble_eq_true rfl) ?_
  intro K el eD eC hK hZ hX
  subst el eD eC
  refine mJ_iload_n hK dX5_queueLength_0 rfl ?_
  exact mJ_xS hK hX dX5_queueLength_1 lX5_103 (by unfold mFit; decide) (by decide) (k_X5_requireChannel_x hx) (fun _ _ z => z) rfl rfl (Nat.le_of_ble_eq_true rfl)

set_option maxRecDepth 100000 in
set_option maxHeartbeats 4000000 in
theorem k_X5_consumed {l : Launch} {D : va_G} {aC : Nat → ClassId} {ad : xAd} {h0 h : mH} {F : xFm} {W : xWm} {pm : Nat → Nat} (hR : xR xV ad h0 F W pm h) {c : Nat} (hc : c < 8) : mCon l D aC mX5_consumed [.ref (ad 0 0 0), .int (nI c)] h (mRi (F 13 0 c 4) (fun h' => h' = h)) := by
  refine mCon.of [some (.ref (ad 0 0 0)), some (.int (nI c))] (by decide +kernel) rfl (Nat.le_of_ble_eq_true rfl) ?_
  intro K el eD eC hK hZ
  subst el eD eC
  refine mJ_iload_n hK dX5_consumed_0 rfl ?_
  refine mJ_cSv hK dX5_consumed_1 lX5_103 (by unfold mFit; decide) (by decide) (k_X5_requireChannel hc) rfl rfl (Nat.le_of_ble_eq_true rfl) (fun h e9 => ?_)
  subst e9
  refine mJ_aload_n hK dX5_consumed_4 rfl ?_
  refine xJ_getr hR hK dX5_consumed_5 fX5_29 (by unfold xV; omega) (fun _ _ => rfl) (by decide) (fun _ _ => rfl) ?_
  refine xJ_getr hR hK dX5_consumed_8 fX5_108 (by unfold xV; omega) (fun _ _ => rfl) (by decide) (fun _ _ => rfl) ?_
  refine mJ_iload_n hK dX5_consumed_11 rfl ?_
  refine xJ_aldC c hR hK dX5_consumed_12 (by unfold xV; omega) rfl (by omega) ?_
  refine xJ_geti hR hK dX5_consumed_13 fX5_199 (by unfold xV; omega) (fun _ _ => rfl) (by decide) rfl ?_
  refine mJ_iret hK dX5_consumed_16 rfl hZ (by decide) (by decide) ?_
  exact ⟨rfl, rfl⟩

set_option maxRecDepth 100000 in
set_option maxHeartbeats 4000000 in
theorem k_X5_consumed_x {l : Launch} {D : va_G} {aC : Nat → ClassId} {ad : xAd} {h0 h : mH} {F : xFm} {W : xWm} {pm : Nat → Nat} (hR : xR xV ad h0 F W pm h) {x : Int32} (hx : ¬ (0 ≤ x ∧ x < nI 8)) : mXon l D aC mX5_consumed [.ref (ad 0 0 0), .int x] h (fun _ _ => False) (fun E h' => E = "java/lang/IndexOutOfBoundsException" ∧ h' = h) := by
  refine mXon.of [some (.ref (ad 0 0 0)), some (.int x)] (by decide +kernel) rfl (Nat.le_of_ble_eq_true rfl) ?_
  intro K el eD eC hK hZ hX
  subst el eD eC
  refine mJ_iload_n hK dX5_consumed_0 rfl ?_
  exact mJ_xS hK hX dX5_consumed_1 lX5_103 (by unfold mFit; decide) (by decide) (k_X5_requireChannel_x hx) (fun _ _ z => z) rfl rfl (Nat.le_of_ble_eq_true rfl)

set_option maxRecDepth 100000 in
set_option maxHeartbeats 4000000 in
theorem k_X5_messageAt {l : Launch} {D : va_G} {aC : Nat → ClassId} {ad : xAd} {h0 h : mH} {F : xFm} {W : xWm} {pm : Nat → Nat} (hR : xR xV ad h0 F W pm h) {c : Nat} (hc : c < 8) {n : Nat} (hn : F 13 0 c 3 = nI n) (hn8 : n ≤ 8) {i : Nat} (hi : i < n) : mCon l D aC mX5_messageAt [.ref (ad 0 0 0), .int (nI c), .int (nI i)] h (mRi (F 14 0 c i) (fun h' => h' = h)) := by
  refine mCon.of [some (.ref (ad 0 0 0)), some (.int (nI c)), some (.int (nI i))] (by decide +kernel) rfl (Nat.le_of_ble_eq_true rfl) ?_
  intro K el eD eC hK hZ
  subst el eD eC
  refine mJ_iload_n hK dX5_messageAt_0 rfl ?_
  refine mJ_cSv hK dX5_messageAt_1 lX5_103 (by unfold mFit; decide) (by decide) (k_X5_requireChannel hc) rfl rfl (Nat.le_of_ble_eq_true rfl) (fun h e9 => ?_)
  subst e9
  refine mJ_aload_n hK dX5_messageAt_4 rfl ?_
  refine xJ_getr hR hK dX5_messageAt_5 fX5_29 (by unfold xV; omega) (fun _ _ => rfl) (by decide) (fun _ _ => rfl) ?_
  refine xJ_getr hR hK dX5_messageAt_8 fX5_108 (by unfold xV; omega) (fun _ _ => rfl) (by decide) (fun _ _ => rfl) ?_
  refine mJ_iload_n hK dX5_messageAt_11 rfl ?_
  refine xJ_aldC c hR hK dX5_messageAt_12 (by unfold xV; omega) rfl (by omega) ?_
  refine mJ_iload_n hK dX5_messageAt_13 rfl ?_
  refine mJ_cVi hK dX5_messageAt_14 lX5_138 (by unfold mFit; decide) (by decide) (k_X0_has hR (by omega) hc hn hn8 _) rfl rfl (Nat.le_of_ble_eq_true rfl) (hR.1 _ _ _ (by unfold xV; omega)) ⟨_, _, rfl⟩ (fun h e9 => ?_)
  subst e9
  refine mJ_ifb_ne (tgt := 30) hK dX5_messageAt_17 (by decide) (fun c_17 => ?_) (fun c_17 => ?_)
  · refine mJ_aload_n hK dX5_messageAt_30 rfl ?_
    refine xJ_getr hR hK dX5_messageAt_31 fX5_29 (by unfold xV; omega) (fun _ _ => rfl) (by decide) (fun _ _ => rfl) ?_
    refine xJ_getr hR hK dX5_messageAt_34 fX5_108 (by unfold xV; omega) (fun _ _ => rfl) (by decide) (fun _ _ => rfl) ?_
    refine mJ_iload_n hK dX5_messageAt_37 rfl ?_
    refine xJ_aldC c hR hK dX5_messageAt_38 (by unfold xV; omega) rfl (by omega) ?_
    refine mJ_iload_n hK dX5_messageAt_39 rfl ?_
    refine mJ_cVi hK dX5_messageAt_40 lX5_147 (by unfold mFit; decide) (by decide) (k_X0_valueAt hR (by omega) hc hn hn8 hi) rfl rfl (Nat.le_of_ble_eq_true rfl) (hR.1 _ _ _ (by unfold xV; omega)) ⟨_, _, rfl⟩ (fun h e9 => ?_)
    subst e9
    refine mJ_iret hK dX5_messageAt_43 rfl hZ (by decide) (by decide) ?_
    exact ⟨rfl, rfl⟩
  · exact (c_17 ⟨nI_pos' (by omega), nI_lt hi (by omega)⟩).elim

set_option maxRecDepth 100000 in
set_option maxHeartbeats 4000000 in
theorem k_X5_messageAt_x1 {l : Launch} {D : va_G} {aC : Nat → ClassId} {ad : xAd} {h0 h : mH} {F : xFm} {W : xWm} {pm : Nat → Nat} (hR : xR xV ad h0 F W pm h) {x : Int32} (hx : ¬ (0 ≤ x ∧ x < nI 8)) (y : Int32) : mXon l D aC mX5_messageAt [.ref (ad 0 0 0), .int x, .int y] h (fun _ _ => False) (fun E h' => E = "java/lang/IndexOutOfBoundsException" ∧ h' = h) := by
  refine mXon.of [some (.ref (ad 0 0 0)), some (.int x), some (.int y)] (by decide +kernel) rfl (Nat.le_of_ble_eq_true rfl) ?_
  intro K el eD eC hK hZ hX
  subst el eD eC
  refine mJ_iload_n hK dX5_messageAt_0 rfl ?_
  exact mJ_xS hK hX dX5_messageAt_1 lX5_103 (by unfold mFit; decide) (by decide) (k_X5_requireChannel_x hx) (fun _ _ z => z) rfl rfl (Nat.le_of_ble_eq_true rfl)

set_option maxRecDepth 100000 in
set_option maxHeartbeats 4000000 in
theorem k_X5_messageAt_x2 {l : Launch} {D : va_G} {aC : Nat → ClassId} {ad : xAd} {h0 h : mH} {F : xFm} {W : xWm} {pm : Nat → Nat} (hR : xR xV ad h0 F W pm h) {c : Nat} (hc : c < 8) {n : Nat} (hn : F 13 0 c 3 = nI n) (hn8 : n ≤ 8) {y : Int32} (hy : ¬ (0 ≤ y ∧ y < nI n)) : mXon l D aC mX5_messageAt [.ref (ad 0 0 0), .int (nI c), .int y] h (fun _ _ => False) (fun E h' => E = "java/lang/IndexOutOfBoundsException" ∧ h' = h) := by
  refine mXon.of [some (.ref (ad 0 0 0)), some (.int (nI c)), some (.int y)] (by decide +kernel) rfl (Nat.le_of_ble_eq_true rfl) ?_
  intro K el eD eC hK hZ hX
  subst el eD eC
  refine mJ_iload_n hK dX5_messageAt_0 rfl ?_
  refine mJ_cSv hK dX5_messageAt_1 lX5_103 (by unfold mFit; decide) (by decide) (k_X5_requireChannel hc) rfl rfl (Nat.le_of_ble_eq_true rfl) (fun h e9 => ?_)
  subst e9
  refine mJ_aload_n hK dX5_messageAt_4 rfl ?_
  refine xJ_getr hR hK dX5_messageAt_5 fX5_29 (by unfold xV; omega) (fun _ _ => rfl) (by decide) (fun _ _ => rfl) ?_
  refine xJ_getr hR hK dX5_messageAt_8 fX5_108 (by unfold xV; omega) (fun _ _ => rfl) (by decide) (fun _ _ => rfl) ?_
  refine mJ_iload_n hK dX5_messageAt_11 rfl ?_
  refine xJ_aldC c hR hK dX5_messageAt_12 (by unfold xV; omega) rfl (by omega) ?_
  refine mJ_iload_n hK dX5_messageAt_13 rfl ?_
  refine mJ_cVi hK dX5_messageAt_14 lX5_138 (by unfold mFit; decide) (by decide) (k_X0_has hR (by omega) hc hn hn8 _) rfl rfl (Nat.le_of_ble_eq_true rfl) (hR.1 _ _ _ (by unfold xV; omega)) ⟨_, _, rfl⟩ (fun h e9 => ?_)
  subst e9
  refine mJ_ifb_ne (tgt := 30) hK dX5_messageAt_17 (by decide) (fun c_17 => ?_) (fun c_17 => ?_)
  · exact absurd c_17 hy
  · refine mJ_throw (text := "the queue has no such message") hK hX tw_142 (by decide +kernel) dX5_messageAt_20 dX5_messageAt_23 dX5_messageAt_24 dX5_messageAt_26 dX5_messageAt_29 (by decide) (Nat.le_of_ble_eq_true rfl) (by decide) (by decide) ?_
    exact ⟨rfl, rfl⟩

set_option maxRecDepth 100000 in
set_option maxHeartbeats 4000000 in
theorem k_X5_ticketState {l : Launch} {D : va_G} {aC : Nat → ClassId} {ad : xAd} {h0 h : mH} {F : xFm} {W : xWm} {pm : Nat → Nat} (hR : xR xV ad h0 F W pm h) {g : Nat} (hg : F 9 0 0 2 = nI g) (hgb : g < 1000000) {t : Nat} (ht1 : g - 24 ≤ t) (ht2 : t < g) : mCon l D aC mX5_ticketState [.ref (ad 0 0 0), .int (nI t)] h (mRi (F 10 0 0 (t % 24)) (fun h' => h' = h)) := by
  refine mCon.of [some (.ref (ad 0 0 0)), some (.int (nI t))] (by decide +kernel) rfl (Nat.le_of_ble_eq_true rfl) ?_
  intro K el eD eC hK hZ
  subst el eD eC
  refine mJ_aload_n hK dX5_ticketState_0 rfl ?_
  refine mJ_iload_n hK dX5_ticketState_1 rfl ?_
  refine mJ_cVv hK dX5_ticketState_2 lX5_188 (by unfold mFit; decide) (by decide) (k_X5_requireTicket hR hg hgb ht1 ht2) rfl rfl (Nat.le_of_ble_eq_true rfl) (hR.1 _ _ _ (by unfold xV; omega)) ⟨_, _, rfl⟩ (fun h e9 => ?_)
  subst e9
  refine mJ_aload_n hK dX5_ticketState_5 rfl ?_
  refine xJ_getr hR hK dX5_ticketState_6 fX5_29 (by unfold xV; omega) (fun _ _ => rfl) (by decide) (fun _ _ => rfl) ?_
  refine xJ_getr hR hK dX5_ticketState_9 fX5_122 (by unfold xV; omega) (fun _ _ => rfl) (by decide) (fun _ _ => rfl) ?_
  refine mJ_iload_n hK dX5_ticketState_12 rfl ?_
  refine mJ_cVi hK dX5_ticketState_13 lX5_191 (by unfold mFit; decide) (by decide) (k_X4_stateOf hR (by omega) hg hgb ht1 ht2) rfl rfl (Nat.le_of_ble_eq_true rfl) (hR.1 _ _ _ (by unfold xV; omega)) ⟨_, _, rfl⟩ (fun h e9 => ?_)
  subst e9
  refine mJ_iret hK dX5_ticketState_16 rfl hZ (by decide) (by decide) ?_
  exact ⟨rfl, rfl⟩

set_option maxRecDepth 100000 in
set_option maxHeartbeats 4000000 in
theorem k_X5_ticketState_x {l : Launch} {D : va_G} {aC : Nat → ClassId} {ad : xAd} {h0 h : mH} {F : xFm} {W : xWm} {pm : Nat → Nat} (hR : xR xV ad h0 F W pm h) {g : Nat} (hg : F 9 0 0 2 = nI g) (hgb : g < 1000000) {x : Int32} (hx : ¬ (nI (g - 24) ≤ x ∧ x < nI g)) : mXon l D aC mX5_ticketState [.ref (ad 0 0 0), .int x] h (fun _ _ => False) (fun E h' => E = "java/lang/IndexOutOfBoundsException" ∧ h' = h) := by
  refine mXon.of [some (.ref (ad 0 0 0)), some (.int x)] (by decide +kernel) rfl (Nat.le_of_ble_eq_true rfl) ?_
  intro K el eD eC hK hZ hX
  subst el eD eC
  refine mJ_aload_n hK dX5_ticketState_0 rfl ?_
  refine mJ_iload_n hK dX5_ticketState_1 rfl ?_
  exact mJ_xV hK hX dX5_ticketState_2 lX5_188 (by unfold mFit; decide) (by decide) (k_X5_requireTicket_x hR hg hgb hx) (fun _ _ z => z) rfl rfl (Nat.le_of_ble_eq_true rfl) (hR.1 _ _ _ (by unfold xV; omega)) ⟨_, _, rfl⟩

set_option maxRecDepth 100000 in
set_option maxHeartbeats 4000000 in
theorem k_X5_replyOf {l : Launch} {D : va_G} {aC : Nat → ClassId} {ad : xAd} {h0 h : mH} {F : xFm} {W : xWm} {pm : Nat → Nat} (hR : xR xV ad h0 F W pm h) {g : Nat} (hg : F 9 0 0 2 = nI g) (hgb : g < 1000000) {t : Nat} (ht1 : g - 24 ≤ t) (ht2 : t < g) (ha : F 10 0 0 (t % 24) = nI 1) : mCon l D aC mX5_replyOf [.ref (ad 0 0 0), .int (nI t)] h (mRi (F 11 0 0 (t % 24)) (fun h' => h' = h)) := by
  refine mCon.of [some (.ref (ad 0 0 0)), some (.int (nI t))] (by decide +kernel) rfl (Nat.le_of_ble_eq_true rfl) ?_
  intro K el eD eC hK hZ
  subst el eD eC
  refine mJ_aload_n hK dX5_replyOf_0 rfl ?_
  refine mJ_iload_n hK dX5_replyOf_1 rfl ?_
  refine mJ_cVv hK dX5_replyOf_2 lX5_188 (by unfold mFit; decide) (by decide) (k_X5_requireTicket hR hg hgb ht1 ht2) rfl rfl (Nat.le_of_ble_eq_true rfl) (hR.1 _ _ _ (by unfold xV; omega)) ⟨_, _, rfl⟩ (fun h e9 => ?_)
  subst e9
  refine mJ_aload_n hK dX5_replyOf_5 rfl ?_
  refine xJ_getr hR hK dX5_replyOf_6 fX5_29 (by unfold xV; omega) (fun _ _ => rfl) (by decide) (fun _ _ => rfl) ?_
  refine xJ_getr hR hK dX5_replyOf_9 fX5_122 (by unfold xV; omega) (fun _ _ => rfl) (by decide) (fun _ _ => rfl) ?_
  refine mJ_iload_n hK dX5_replyOf_12 rfl ?_
  refine mJ_cVi hK dX5_replyOf_13 lX5_191 (by unfold mFit; decide) (by decide) (k_X4_stateOf hR (by omega) hg hgb ht1 ht2) rfl rfl (Nat.le_of_ble_eq_true rfl) (hR.1 _ _ _ (by unfold xV; omega)) ⟨_, _, rfl⟩ (fun h e9 => ?_)
  subst e9
  refine mJ_iconst (v := nI 1) hK dX5_replyOf_16 (by decide) ?_
  refine mJ_icmp_eq (tgt := 30) hK dX5_replyOf_17 (by decide) (fun c_17 => ?_) (fun c_17 => ?_)
  · refine mJ_aload_n hK dX5_replyOf_30 rfl ?_
    refine xJ_getr hR hK dX5_replyOf_31 fX5_29 (by unfold xV; omega) (fun _ _ => rfl) (by decide) (fun _ _ => rfl) ?_
    refine xJ_getr hR hK dX5_replyOf_34 fX5_122 (by unfold xV; omega) (fun _ _ => rfl) (by decide) (fun _ _ => rfl) ?_
    refine mJ_iload_n hK dX5_replyOf_37 rfl ?_
    refine mJ_cVi hK dX5_replyOf_38 lX5_196 (by unfold mFit; decide) (by decide) (k_X4_answerTo hR (by omega) hg hgb ht1 ht2) rfl rfl (Nat.le_of_ble_eq_true rfl) (hR.1 _ _ _ (by unfold xV; omega)) ⟨_, _, rfl⟩ (fun h e9 => ?_)
    subst e9
    refine mJ_iret hK dX5_replyOf_41 rfl hZ (by decide) (by decide) ?_
    exact ⟨rfl, rfl⟩
  · exact absurd ha c_17

set_option maxRecDepth 100000 in
set_option maxHeartbeats 4000000 in
theorem k_X5_replyOf_x1 {l : Launch} {D : va_G} {aC : Nat → ClassId} {ad : xAd} {h0 h : mH} {F : xFm} {W : xWm} {pm : Nat → Nat} (hR : xR xV ad h0 F W pm h) {g : Nat} (hg : F 9 0 0 2 = nI g) (hgb : g < 1000000) {x : Int32} (hx : ¬ (nI (g - 24) ≤ x ∧ x < nI g)) : mXon l D aC mX5_replyOf [.ref (ad 0 0 0), .int x] h (fun _ _ => False) (fun E h' => E = "java/lang/IndexOutOfBoundsException" ∧ h' = h) := by
  refine mXon.of [some (.ref (ad 0 0 0)), some (.int x)] (by decide +kernel) rfl (Nat.le_of_ble_eq_true rfl) ?_
  intro K el eD eC hK hZ hX
  subst el eD eC
  refine mJ_aload_n hK dX5_replyOf_0 rfl ?_
  refine mJ_iload_n hK dX5_replyOf_1 rfl ?_
  exact mJ_xV hK hX dX5_replyOf_2 lX5_188 (by unfold mFit; decide) (by decide) (k_X5_requireTicket_x hR hg hgb hx) (fun _ _ z => z) rfl rfl (Nat.le_of_ble_eq_true rfl) (hR.1 _ _ _ (by unfold xV; omega)) ⟨_, _, rfl⟩

set_option maxRecDepth 100000 in
set_option maxHeartbeats 4000000 in
theorem k_X5_replyOf_x2 {l : Launch} {D : va_G} {aC : Nat → ClassId} {ad : xAd} {h0 h : mH} {F : xFm} {W : xWm} {pm : Nat → Nat} (hR : xR xV ad h0 F W pm h) {g : Nat} (hg : F 9 0 0 2 = nI g) (hgb : g < 1000000) {t : Nat} (ht1 : g - 24 ≤ t) (ht2 : t < g) (ha : ¬ F 10 0 0 (t % 24) = nI 1) : mXon l D aC mX5_replyOf [.ref (ad 0 0 0), .int (nI t)] h (fun _ _ => False) (fun E h' => E = "java/lang/IllegalStateException" ∧ h' = h) := by
  refine mXon.of [some (.ref (ad 0 0 0)), some (.int (nI t))] (by decide +kernel) rfl (Nat.le_of_ble_eq_true rfl) ?_
  intro K el eD eC hK hZ hX
  subst el eD eC
  refine mJ_aload_n hK dX5_replyOf_0 rfl ?_
  refine mJ_iload_n hK dX5_replyOf_1 rfl ?_
  refine mJ_cVv hK dX5_replyOf_2 lX5_188 (by unfold mFit; decide) (by decide) (k_X5_requireTicket hR hg hgb ht1 ht2) rfl rfl (Nat.le_of_ble_eq_true rfl) (hR.1 _ _ _ (by unfold xV; omega)) ⟨_, _, rfl⟩ (fun h e9 => ?_)
  subst e9
  refine mJ_aload_n hK dX5_replyOf_5 rfl ?_
  refine xJ_getr hR hK dX5_replyOf_6 fX5_29 (by unfold xV; omega) (fun _ _ => rfl) (by decide) (fun _ _ => rfl) ?_
  refine xJ_getr hR hK dX5_replyOf_9 fX5_122 (by unfold xV; omega) (fun _ _ => rfl) (by decide) (fun _ _ => rfl) ?_
  refine mJ_iload_n hK dX5_replyOf_12 rfl ?_
  refine mJ_cVi hK dX5_replyOf_13 lX5_191 (by unfold mFit; decide) (by decide) (k_X4_stateOf hR (by omega) hg hgb ht1 ht2) rfl rfl (Nat.le_of_ble_eq_true rfl) (hR.1 _ _ _ (by unfold xV; omega)) ⟨_, _, rfl⟩ (fun h e9 => ?_)
  subst e9
  refine mJ_iconst (v := nI 1) hK dX5_replyOf_16 (by decide) ?_
  refine mJ_icmp_eq (tgt := 30) hK dX5_replyOf_17 (by decide) (fun c_17 => ?_) (fun c_17 => ?_)
  · exact absurd c_17 ha
  · refine mJ_throw (text := "the ticket is not answered") hK hX tw_57 (by decide +kernel) dX5_replyOf_20 dX5_replyOf_23 dX5_replyOf_24 dX5_replyOf_26 dX5_replyOf_29 (by decide) (Nat.le_of_ble_eq_true rfl) (by decide) (by decide) ?_
    exact ⟨rfl, rfl⟩
