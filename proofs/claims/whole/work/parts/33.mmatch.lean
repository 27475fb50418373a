theorem gdM_cong {F : xFm} {r a b : Nat} {cn cn' : Nat → Nat} (h : ∀ c, c < 8 → cn c = cn' c) : gdM F r a b cn → gdM F r a b cn' := by
  have e : ∀ a, vlM F a (cn a) = vlM F a (cn' a) := by
    intro a
    unfold vlM
    split
    · rw [h a (by omega)]
    · rfl
  intro z
  unfold gdM at z ⊢
  rw [← e, ← e]
  exact z
set_option maxRecDepth 100000 in
set_option maxHeartbeats 4000000 in
theorem lp_X6_matches_z {K : mK} (hK : mCx K mX6_matches) {ad : xAd} {h0 : mH} {F : xFm} {W : xWm} {pm : Nat → Nat} {r : Nat} (hkk : ∀ h' : mH, xR yV ad h0 (fr F 66 0 0 (zf (F 66 0 0) (nI 0) 8)) W pm h' → mJ K 0 0 21 [some (.ref (ad 30 0 0)), some (.int (nI r)), some (.int (nI 8)), none] [] h') : ∀ (fu : Nat) (e : Nat) (h : mH), 8 - e < fu → (e ≤ 8) → (xR yV ad h0 (fr F 66 0 0 (zf (F 66 0 0) (nI 0) e)) W pm h) → mJ K 0 0 2 [some (.ref (ad 30 0 0)), some (.int (nI r)), some (.int (nI e)), none] [] h := by
  intro fu
  induction fu with
  | zero =>
    intro e h hm0
    exact absurd hm0 (by omega)
  | succ fu ih =>
    intro e h hm0 he hR
    refine mJ_iload_n hK dX6_matches_2 rfl ?_
    refine mJ_bipush (v := nI 8) hK dX6_matches_3 (by decide) ?_
    refine mJ_nge (tgt := 21) hK dX6_matches_5 (by decide) (by omega) (by omega) (fun c_5 => ?_) (fun c_5 => ?_)
    · have : e = 8 := by omega
      subst this
      exact hkk _ hR
    · refine mJ_aload_n hK dX6_matches_8 rfl ?_
      refine xJ_getr hR hK dX6_matches_9 fX6_81 (by unfold yV; omega) (fun _ _ => rfl) (by decide) (fun _ _ => rfl) ?_
      refine mJ_iload_n hK dX6_matches_12 rfl ?_
      refine mJ_iconst (v := nI 0) hK dX6_matches_13 (by decide) ?_
      refine xJ_iast e hR hK dX6_matches_14 (by unfold yV; omega) (fun _ _ => rfl) rfl (by omega) (by decide) (fun h hR => ?_)
      refine mJ_iincN hK dX6_matches_15 rfl rfl (by decide) rfl ?_
      refine mJ_goto (tgt := 2) hK dX6_matches_18 (by decide) ?_
      exact ih (e + 1) _ (by omega) (by omega) (xR_ext hR (by rw [fr_s, fr_fr, zf_s]))

set_option maxRecDepth 100000 in
set_option maxHeartbeats 4000000 in
theorem lp_X6_matches {K : mK} (hK : mCx K mX6_matches) {ad : xAd} {h0 : mH} {F : xFm} {W : xWm} {pm : Nat → Nat} {r : Nat} (hr : r < 8) {q : Nat → Nat} (hq : ∀ c, c < 8 → F 44 0 0 c = nI (q c) ∧ q c ≤ 8) {a b : Nat} (hgd : ¬ F 35 0 0 (3 * r + 1) = 0 → F 35 0 0 (3 * r) = nI a ∧ a < 18 ∧ F 35 0 0 (3 * r + 2) = nI b ∧ b < 18) {mt : Option (Nat → Nat)} (hmt : isMt (wR F q r) (gdM F r a b) (F 34 0 0 r &&& wtM q = F 34 0 0 r) mt) (hrd : F 34 0 0 r &&& wtM q = F 34 0 0 r) (hZ : mRt K mX6_matches (mRi (bI (mt.isSome = true)) (fun h' => ∃ ch : Nat → Int32, xR yV ad h0 (fr F 66 0 0 ch) W pm h' ∧ ∀ cn, mt = some cn → ∀ c, c < 8 → ch c = nI (cn c)))) : ∀ (fu : Nat) (cn : Nat → Nat) (ch : Nat → Int32) (h : mH), pq (wR F q r) 8 - vq (wR F q r) cn 8 < fu → (∀ c, c < 8 → ch c = nI (cn c)) → (∀ c, c < 8 → cn c < wR F q r c) → (∀ c9, mt = some c9 → vq (wR F q r) cn 8 ≤ vq (wR F q r) c9 8) → (xR yV ad h0 (fr F 66 0 0 ch) W pm h) → mJ K 0 0 42 [some (.ref (ad 30 0 0)), some (.int (nI r)), some (.int (bI (gdM F r a b cn))), some (.int (nI 1))] [] h := by
  intro fu
  induction fu with
  | zero =>
    intro cn ch h hm0
    exact absurd hm0 (by omega)
  | succ fu ih =>
    intro cn ch h hm0 hch hv hle hR
    refine mJ_iload_n hK dX6_matches_42 rfl ?_
    refine mJ_ifb_ne (tgt := 77) hK dX6_matches_43 (by decide) (fun c_43 => ?_) (fun c_43 => ?_)
    · refine mJ_iload_n hK dX6_matches_77 rfl ?_
      refine mJ_zret hK dX6_matches_78 rfl bI_nar hZ (by decide) (by decide) ?_
      have hm9 : ∃ c9, mt = some c9 := by
        rcases mt with _ | c9
        · exact absurd c_43 (hmt hrd cn hv)
        · exact ⟨c9, rfl⟩
      obtain ⟨c9, rfl⟩ := hm9
      have h1 := hle c9 rfl
      have e1 : vq (wR F q r) cn 8 = vq (wR F q r) c9 8 := by
        by_cases h2 : vq (wR F q r) cn 8 < vq (wR F q r) c9 8
        · exact absurd c_43 (hmt.2.2.2 cn hv h2)
        · omega
      refine ⟨congrArg (fun z => some (Value.int z)) (by rw [bI_t c_43]; exact b1 rfl), ch, hR, ?_⟩
      intro c8 h8 c hc
      cases h8
      rw [hch c hc, vq_inj hv hmt.2.1 e1 c hc]
    · refine mJ_iload_n hK dX6_matches_46 rfl ?_
      refine mJ_nif_eq (tgt := 77) hK dX6_matches_47 (by decide) (by omega) (fun c_47 => ?_) (fun c_47 => ?_)
      · exact absurd c_47 (by omega)
      · have hng := c_43
        refine mJ_aload_n hK dX6_matches_50 rfl ?_
        refine mJ_iload_n hK dX6_matches_51 rfl ?_
        refine mJ_cVi hK dX6_matches_52 lX6_230 (by unfold mFit; decide) (by decide) (k_X6_goOn hR hr (q := q) hq (cn := cn) (fun c hc => ⟨by rw [fr_s]; exact hch c hc, Nat.lt_of_lt_of_le (hv c hc) (wR_le (hq c hc).2)⟩) hv (gres := goW (wR F q r) 8 cn) rfl) rfl rfl (Nat.le_of_ble_eq_true rfl) (hR.1 _ _ _ (by unfold yV; omega)) ⟨_, _, rfl⟩ (fun h hE => ?_)
        obtain ⟨ch9, hR, hch9⟩ := hE
        rw [fr_fr] at hR
        refine mJ_istore_n hK dX6_matches_55 (by decide) rfl ?_
        refine mJ_iload_n hK dX6_matches_56 rfl ?_
        refine mJ_ifb_eq (tgt := 72) hK dX6_matches_57 (by decide) (fun c_57 => ?_) (fun c_57 => ?_)
        · refine mJ_iconst (v := nI 0) hK dX6_matches_72 (by decide) ?_
          refine mJ_istore_n hK dX6_matches_73 (by decide) rfl ?_
          refine mJ_goto (tgt := 42) hK dX6_matches_74 (by decide) ?_
          refine mJ_iload_n hK dX6_matches_42 rfl ?_
          refine mJ_nif_ne (tgt := 77) hK dX6_matches_43 (by decide) (by omega) (fun c_43 => ?_) (fun c_43 => ?_)
          · exact absurd c_43 (by omega)
          · refine mJ_iload_n hK dX6_matches_46 rfl ?_
            refine mJ_ifb_eq (tgt := 77) hK dX6_matches_47 (by decide) (fun c_47 => ?_) (fun c_47 => ?_)
            · refine mJ_iload_n hK dX6_matches_77 rfl ?_
              refine mJ_zret hK dX6_matches_78 rfl (by decide) hZ (by decide) (by decide) ?_
              have hn9 := Option.not_isSome_iff_eq_none.mp c_57
              have hm9 : mt = none := by
                rcases mt with _ | c9
                · rfl
                · have h1 := hle c9 rfl
                  have h2 := goW_none hv hn9
                  have h3 := vq_lt hmt.2.1
                  have e1 : vq (wR F q r) cn 8 = vq (wR F q r) c9 8 := by omega
                  exact absurd (gdM_cong (fun c hc => (vq_inj hv hmt.2.1 e1 c hc).symm) hmt.2.2.1) hng
              subst hm9
              exact ⟨congrArg (fun z => some (Value.int z)) (b0 (fun z => by cases z)), ch9, hR, fun _ z => by cases z⟩
            · exact absurd c_47 c_57
        · obtain ⟨cn9, hcn9⟩ := Option.isSome_iff_exists.mp c_57
          have hs9 := goW_some hv hcn9
          have hc9 := hch9 cn9 hcn9
          refine mJ_aload_n hK dX6_matches_60 rfl ?_
          refine mJ_iload_n hK dX6_matches_61 rfl ?_
          refine mJ_cVi hK dX6_matches_62 lX6_227 (by unfold mFit; decide) (by decide) (k_X6_isGuarded hR hr hgd (cn := cn9) (fun c hc => ⟨by rw [fr_s]; exact hc9 c hc, Nat.lt_of_lt_of_le (hs9.2.1 c hc) (wR_le (hq c hc).2)⟩)) rfl rfl (Nat.le_of_ble_eq_true rfl) (hR.1 _ _ _ (by unfold yV; omega)) ⟨_, _, rfl⟩ (fun h e9 => ?_)
          subst e9
          refine mJ_ifb_eq (tgt := 72) hK dX6_matches_65 (by decide) (fun c_65 => ?_) (fun c_65 => ?_)
          · refine mJ_iconst (v := nI 0) hK dX6_matches_72 (by decide) ?_
            refine mJ_istore_n hK dX6_matches_73 (by decide) rfl ?_
            refine mJ_goto (tgt := 42) hK dX6_matches_74 (by decide) ?_
            refine mJ_L ?_ (ih cn9 ch9 _ ?_ hc9 hs9.2.1 ?_ hR)
            · first | (rw [bI_t c_57, bI_t (p := gdM F r a b cn9) c_65]; rfl) | (rw [bI_t c_57, bI_f (p := gdM F r a b cn9) c_65]; rfl)
            · have := vq_lt hv; rw [hs9.1]; omega
            · intro c9 h9
              subst h9
              rw [hs9.1]
              have h1 := hle c9 rfl
              by_cases e1 : vq (wR F q r) cn 8 = vq (wR F q r) c9 8
              · exact absurd (gdM_cong (fun c hc => (vq_inj hv hmt.2.1 e1 c hc).symm) hmt.2.2.1) hng
              · omega
          · refine mJ_iconst (v := nI 1) hK dX6_matches_68 (by decide) ?_
            refine mJ_goto (tgt := 73) hK dX6_matches_69 (by decide) ?_
            refine mJ_istore_n hK dX6_matches_73 (by decide) rfl ?_
            refine mJ_goto (tgt := 42) hK dX6_matches_74 (by decide) ?_
            refine mJ_L ?_ (ih cn9 ch9 _ ?_ hc9 hs9.2.1 ?_ hR)
            · first | (rw [bI_t c_57, bI_t (p := gdM F r a b cn9) c_65]; rfl) | (rw [bI_t c_57, bI_f (p := gdM F r a b cn9) c_65]; rfl)
            · have := vq_lt hv; rw [hs9.1]; omega
            · intro c9 h9
              subst h9
              rw [hs9.1]
              have h1 := hle c9 rfl
              by_cases e1 : vq (wR F q r) cn 8 = vq (wR F q r) c9 8
              · exact absurd (gdM_cong (fun c hc => (vq_inj hv hmt.2.1 e1 c hc).symm) hmt.2.2.1) hng
              · omega

set_option maxRecDepth 100000 in
set_option maxHeartbeats 4000000 in
theorem k_X6_matches {l : Launch} {D : va_G} {aC : Nat → ClassId} {ad : xAd} {h0 h : mH} {F : xFm} {W : xWm} {pm : Nat → Nat} (hR : xR yV ad h0 F W pm h) {rn : Nat} (hrn : F 30 0 0 3 = nI rn) (hrn8 : rn ≤ 8) {r : Nat} (hr : r < rn) {q : Nat → Nat} (hq : ∀ c, c < 8 → F 44 0 0 c = nI (q c) ∧ q c ≤ 8) {a b : Nat} (hgd : ¬ F 35 0 0 (3 * r + 1) = 0 → F 35 0 0 (3 * r) = nI a ∧ a < 18 ∧ F 35 0 0 (3 * r + 2) = nI b ∧ b < 18) {mt : Option (Nat → Nat)} (hmt : isMt (wR F q r) (gdM F r a b) (F 34 0 0 r &&& wtM q = F 34 0 0 r) mt) : mCon l D aC mX6_matches [.ref (ad 30 0 0), .int (nI r)] h (mRi (bI (mt.isSome = true)) (fun h' => ∃ ch : Nat → Int32, xR yV ad h0 (fr F 66 0 0 ch) W pm h' ∧ ∀ cn, mt = some cn → ∀ c, c < 8 → ch c = nI (cn c))) := by
  refine mCon.of [some (.ref (ad 30 0 0)), some (.int (nI r)), none, none] (by decide +kernel) rfl (Nat.le_of_ble_eq_true rfl) ?_
  intro K el eD eC hK hZ
  subst el eD eC
  refine mJ_iconst (v := nI 0) hK dX6_matches_0 (by decide) ?_
  refine mJ_istore_n hK dX6_matches_1 (by decide) rfl ?_
  refine lp_X6_matches_z hK (r := r) ?_ 9 0 _ (by omega) (by omega) (xR_ext hR (by rw [zf_0, fr_self]))
  intro h hR
  refine mJ_aload_n hK dX6_matches_21 rfl ?_
  refine mJ_cVi hK dX6_matches_22 lX6_220 (by unfold mFit; decide) (by decide) (k_X6_readyNow hR (rn := rn) hrn hrn8 (q := q) hq) rfl rfl (Nat.le_of_ble_eq_true rfl) (hR.1 _ _ _ (by unfold yV; omega)) ⟨_, _, rfl⟩ (fun h e9 => ?_)
  subst e9
  refine mJ_iload_n hK dX6_matches_25 rfl ?_
  refine mJ_ishr hK dX6_matches_26 ?_
  refine mJ_iconst (v := nI 1) hK dX6_matches_27 (by decide) ?_
  refine mJ_iand hK dX6_matches_28 ?_
  refine mJ_if_ne (tgt := 34) hK dX6_matches_29 (by decide) (fun c_29 => ?_) (fun c_29 => ?_)
  · refine mJ_aload_n hK dX6_matches_34 rfl ?_
    refine mJ_iload_n hK dX6_matches_35 rfl ?_
    refine mJ_cVi hK dX6_matches_36 lX6_227 (by unfold mFit; decide) (by decide) (k_X6_isGuarded hR (by omega) hgd (cn := fun _ => 0) (fun c hc => ⟨by rw [fr_s]; unfold zf; rw [if_pos hc], by omega⟩)) rfl rfl (Nat.le_of_ble_eq_true rfl) (hR.1 _ _ _ (by unfold yV; omega)) ⟨_, _, rfl⟩ (fun h e9 => ?_)
    subst e9
    refine mJ_istore_n hK dX6_matches_39 (by decide) rfl ?_
    refine mJ_iconst (v := nI 1) hK dX6_matches_40 (by decide) ?_
    refine mJ_istore_n hK dX6_matches_41 (by decide) rfl ?_
    have hrd : F 34 0 0 r &&& wtM q = F 34 0 0 r := of_decide_eq_true ((bmk_us (p := fun r => decide (F 34 0 0 r &&& wtM q = F 34 0 0 r)) (by omega) hr).mp c_29)
    have hv0 : ∀ c, c < 8 → (fun _ => 0 : Nat → Nat) c < wR F q r c := by
      intro c hc
      by_cases hu : usP (F 34 0 0 r) (nI c)
      · rw [wR_t hu]; exact rdy_of hrd hc hu
      · rw [wR_f hu]; exact Nat.zero_lt_one
    refine lp_X6_matches hK (by omega) hq hgd hmt hrd hZ (pq (wR F q r) 8 + 1) (fun _ => 0) (zf (F 66 0 0) (nI 0) 8) _ (by omega) (fun c hc => by unfold zf; rw [if_pos hc]) hv0 ?_ hR
    intro c9 _
    have e0 : ∀ e, vq (wR F q r) (fun _ => 0) e = 0 := by
      intro e
      induction e with
      | zero => rfl
      | succ e ih => unfold vq; rw [ih]; omega
    rw [e0]
    exact Nat.zero_le _
  · refine mJ_iconst (v := nI 0) hK dX6_matches_32 (by decide) ?_
    refine mJ_zret hK dX6_matches_33 rfl (by decide) hZ (by decide) (by decide) ?_
    have hnr : ¬ F 34 0 0 r &&& wtM q = F 34 0 0 r := fun z => absurd c_29 ((bmk_us (p := fun r => decide (F 34 0 0 r &&& wtM q = F 34 0 0 r)) (by omega) hr).mpr (decide_eq_true z))
    rcases mt with _ | c9
    · exact ⟨congrArg (fun z => some (Value.int z)) (b0 (fun z => by cases z)), _, hR, fun _ z => by cases z⟩
    · exact absurd hmt.1 hnr

def snM (t : Nat → Int32) (b : Nat) (c : Int32) : Nat → Nat
  | 0 => 0
  | i + 1 => if t (b + i) = c then snM t b c i + 1 else snM t b c i
theorem snM_le {t : Nat → Int32} {b : Nat} {c : Int32} : ∀ {n : Nat}, snM t b c n ≤ n
  | 0 => Nat.le_refl 0
  | n + 1 => by
    have := snM_le (t := t) (b := b) (c := c) (n := n)
    unfold snM
    split <;> omega
theorem us01 {x : Int32} {c : Nat} : (x >>> (nI c &&& 31)) &&& nI 1 = nI (if usP x (nI c) then 1 else 0) := by
  by_cases h : usP x (nI c)
  · rw [if_pos h, us1.mpr h]
  · rw [if_neg h]
    exact Decidable.not_not.mp h
abbrev rmW (F : xFm) (r : Nat) (q : Nat → Nat) (m c : Nat) : Prop := q c - (if usP (F 34 0 0 r) (nI c) then 1 else 0) + snM (F 37 0 0) (4 * r) (nI c) m ≤ 8
def rmM (F : xFm) (r : Nat) (q : Nat → Nat) (m : Nat) : Nat → Bool
  | 0 => true
  | c + 1 => rmM F r q m c && decide (rmW F r q m c)
set_option maxRecDepth 100000 in
set_option maxHeartbeats 4000000 in
theorem lp_X6_hasRoom_i {K : mK} (hK : mCx K mX6_hasRoom) {ad : xAd} {h0 : mH} {F : xFm} {W : xWm} {pm : Nat → Nat} {r : Nat} (hr : r < 8) {q : Nat → Nat} (hq : ∀ c, c < 8 → F 44 0 0 c = nI (q c) ∧ q c ≤ 8) {m : Nat} (hm : F 36 0 0 r = nI m) (hm4 : m ≤ 4) {e ub : Nat} (he : e < 8) {h9 : mH} (hkk : ∀ h' : mH, h' = h9 → xR yV ad h0 F W pm h' → mJ K 0 0 74 [some (.ref (ad 30 0 0)), some (.int (nI r)), some (.int (bI (rmM F r q m e = true))), some (.int (nI e)), some (.int (nI (q e - ub + snM (F 37 0 0) (4 * r) (nI e) m))), some (.int (nI m))] [] h') : ∀ (fu : Nat) (j : Nat) (h : mH), m - j < fu → (j ≤ m) → (h = h9) → (xR yV ad h0 F W pm h) → mJ K 0 0 32 [some (.ref (ad 30 0 0)), some (.int (nI r)), some (.int (bI (rmM F r q m e = true))), some (.int (nI e)), some (.int (nI (q e - ub + snM (F 37 0 0) (4 * r) (nI e) j))), some (.int (nI j))] [] h := by
  intro fu
  induction fu with
  | zero =>
    intro j h hm0
    exact absurd hm0 (by omega)
  | succ fu ih =>
    intro j h hm0 hj eh hR
    refine mJ_iload hK dX6_hasRoom_32 rfl ?_
    refine mJ_aload_n hK dX6_hasRoom_34 rfl ?_
    refine xJ_getr hR hK dX6_hasRoom_35 fX6_19 (by unfold yV; omega) (fun _ _ => rfl) (by decide) (fun _ _ => rfl) ?_
    refine mJ_iload_n hK dX6_hasRoom_38 rfl ?_
    refine xJ_ialdx r (nI m) hR hK dX6_hasRoom_39 (by unfold yV; omega) (fun _ _ => rfl) rfl (by omega) (by decide) (hm) ?_
    refine mJ_nge (tgt := 74) hK dX6_hasRoom_40 (by decide) (by first | omega | (have := (hq e (by omega)).2; have := snM_le (t := F 37 0 0) (b := 4 * r) (c := nI e) (n := j); omega)) (by first | omega | (have := (hq e (by omega)).2; have := snM_le (t := F 37 0 0) (b := 4 * r) (c := nI e) (n := j); omega)) (fun c_40 => ?_) (fun c_40 => ?_)
    · have : j = m := by omega
      subst this
      exact hkk _ eh hR
    · refine mJ_iload hK dX6_hasRoom_43 rfl ?_
      refine mJ_aload_n hK dX6_hasRoom_45 rfl ?_
      refine xJ_getr hR hK dX6_hasRoom_46 fX6_22 (by unfold yV; omega) (fun _ _ => rfl) (by decide) (fun _ _ => rfl) ?_
      refine mJ_iconst (v := nI 4) hK dX6_hasRoom_49 (by decide) ?_
      refine mJ_iload_n hK dX6_hasRoom_50 rfl ?_
      refine mJ_imulN hK dX6_hasRoom_51 ?_
      refine mJ_iload hK dX6_hasRoom_52 rfl ?_
      refine mJ_iaddN hK dX6_hasRoom_54 ?_
      refine xJ_iald ((4 * r) + j) hR hK dX6_hasRoom_55 (by unfold yV; omega) (fun _ _ => rfl) rfl (by omega) (by decide) ?_
      refine mJ_iload_n hK dX6_hasRoom_56 rfl ?_
      refine mJ_icmp_ne (tgt := 64) hK dX6_hasRoom_57 (by decide) (fun c_57 => ?_) (fun c_57 => ?_)
      · refine mJ_iconst (v := nI 0) hK dX6_hasRoom_64 (by decide) ?_
        refine mJ_iaddN hK dX6_hasRoom_65 ?_
        refine mJ_istore hK dX6_hasRoom_66 (by decide) rfl ?_
        refine mJ_iincN hK dX6_hasRoom_68 rfl rfl (by decide) rfl ?_
        refine mJ_goto (tgt := 32) hK dX6_hasRoom_71 (by decide) ?_
        refine mJ_L ?_ (ih (j + 1) _ (by omega) (by omega) eh hR)
        first | (rw [snM, if_pos c_57]; rfl) | (rw [snM, if_neg c_57]; rfl)
      · refine mJ_iconst (v := nI 1) hK dX6_hasRoom_60 (by decide) ?_
        refine mJ_goto (tgt := 65) hK dX6_hasRoom_61 (by decide) ?_
        refine mJ_iaddN hK dX6_hasRoom_65 ?_
        refine mJ_istore hK dX6_hasRoom_66 (by decide) rfl ?_
        refine mJ_iincN hK dX6_hasRoom_68 rfl rfl (by decide) rfl ?_
        refine mJ_goto (tgt := 32) hK dX6_hasRoom_71 (by decide) ?_
        refine mJ_L ?_ (ih (j + 1) _ (by omega) (by omega) eh hR)
        first | (rw [snM, if_pos c_57]; rfl) | (rw [snM, if_neg c_57]; rfl)

set_option maxRecDepth 100000 in
set_option maxHeartbeats 4000000 in
theorem lp_X6_hasRoom {K : mK} (hK : mCx K mX6_hasRoom) {ad : xAd} {h0 : mH} {F : xFm} {W : xWm} {pm : Nat → Nat} {r : Nat} (hr : r < 8) {q : Nat → Nat} (hq : ∀ c, c < 8 → F 44 0 0 c = nI (q c) ∧ q c ≤ 8) {m : Nat} (hm : F 36 0 0 r = nI m) (hm4 : m ≤ 4) (hrd : ∀ c, c < 8 → usP (F 34 0 0 r) (nI c) → 0 < q c) {h9 : mH} (hZ : mRt K mX6_hasRoom (mRi (bI (rmM F r q m 8 = true)) (fun h' => h' = h9))) : ∀ (fu : Nat) (e : Nat) (u v : Option Value) (h : mH), 8 - e < fu → (e ≤ 8) → (h = h9) → (xR yV ad h0 F W pm h) → mJ K 0 0 4 [some (.ref (ad 30 0 0)), some (.int (nI r)), some (.int (bI (rmM F r q m e = true))), some (.int (nI e)), u, v] [] h := by
  intro fu
  induction fu with
  | zero =>
    intro e u v h hm0
    exact absurd hm0 (by omega)
  | succ fu ih =>
    intro e u v h hm0 he eh hR
    refine mJ_iload_n hK dX6_hasRoom_4 rfl ?_
    refine mJ_bipush (v := nI 8) hK dX6_hasRoom_5 (by decide) ?_
    refine mJ_nge (tgt := 97) hK dX6_hasRoom_7 (by decide) (by first | omega | (have := (hq e (by omega)).2; have := snM_le (t := F 37 0 0) (b := 4 * r) (c := nI e) (n := m); omega)) (by first | omega | (have := (hq e (by omega)).2; have := snM_le (t := F 37 0 0) (b := 4 * r) (c := nI e) (n := m); omega)) (fun c_7 => ?_) (fun c_7 => ?_)
    · refine mJ_iload_n hK dX6_hasRoom_97 rfl ?_
      refine mJ_zret hK dX6_hasRoom_98 rfl bI_nar hZ (by decide) (by decide) ?_
      have : e = 8 := by omega
      subst this
      exact ⟨rfl, eh⟩
    · refine mJ_aload_n hK dX6_hasRoom_10 rfl ?_
      refine xJ_getr hR hK dX6_hasRoom_11 fX6_41 (by unfold yV; omega) (fun _ _ => rfl) (by decide) (fun _ _ => rfl) ?_
      refine mJ_iload_n hK dX6_hasRoom_14 rfl ?_
      refine xJ_ialdx e (nI (q e)) hR hK dX6_hasRoom_15 (by unfold yV; omega) (fun _ _ => rfl) rfl (by omega) (by decide) ((hq e (by omega)).1) ?_
      refine mJ_aload_n hK dX6_hasRoom_16 rfl ?_
      refine xJ_getr hR hK dX6_hasRoom_17 fX6_13 (by unfold yV; omega) (fun _ _ => rfl) (by decide) (fun _ _ => rfl) ?_
      refine mJ_iload_n hK dX6_hasRoom_20 rfl ?_
      refine xJ_iald r hR hK dX6_hasRoom_21 (by unfold yV; omega) (fun _ _ => rfl) rfl (by omega) (by decide) ?_
      refine mJ_iload_n hK dX6_hasRoom_22 rfl ?_
      refine mJ_ishr hK dX6_hasRoom_23 ?_
      refine mJ_iconst (v := nI 1) hK dX6_hasRoom_24 (by decide) ?_
      refine mJ_iand hK dX6_hasRoom_25 ?_
      rw [us01]
      generalize hub : (if usP (F 34 0 0 r) (nI e) then 1 else 0) = ub
      have hub1 : ub ≤ q e := by rw [← hub]; split; exact hrd e (by omega) (by assumption); omega
      refine mJ_isubN hK dX6_hasRoom_26 (by first | omega | (have := (hq e (by omega)).2; have := snM_le (t := F 37 0 0) (b := 4 * r) (c := nI e) (n := m); omega)) ?_
      refine mJ_istore hK dX6_hasRoom_27 (by decide) rfl ?_
      refine mJ_iconst (v := nI 0) hK dX6_hasRoom_29 (by decide) ?_
      refine mJ_istore hK dX6_hasRoom_30 (by decide) rfl ?_
      refine lp_X6_hasRoom_i hK hr hq hm hm4 (e := e) (ub := ub) (by omega) (h9 := h) ?_ (m + 1) 0 _ (by omega) (by omega) rfl hR
      intro h' eh9 hR
      subst eh9
      refine mJ_iload_n hK dX6_hasRoom_74 rfl ?_
      refine mJ_ifb_eq (tgt := 89) hK dX6_hasRoom_75 (by decide) (fun c_75 => ?_) (fun c_75 => ?_)
      · refine mJ_iconst (v := nI 0) hK dX6_hasRoom_89 (by decide) ?_
        refine mJ_istore_n hK dX6_hasRoom_90 (by decide) rfl ?_
        refine mJ_iincN hK dX6_hasRoom_91 rfl rfl (by decide) rfl ?_
        refine mJ_goto (tgt := 4) hK dX6_hasRoom_94 (by decide) ?_
        refine mJ_L ?_ (ih (e + 1) (some (.int (nI (q e - ub + snM (F 37 0 0) (4 * r) (nI e) m)))) (some (.int (nI m))) _ (by omega) (by omega) eh hR)
        have hb9 : ∀ x : Int32, x = bI (rmM F r q m (e + 1) = true) → ([some (.ref (ad 30 0 0)), some (.int (nI r)), some (.int x), some (.int (nI (e + 1))), some (.int (nI (q e - ub + snM (F 37 0 0) (4 * r) (nI e) m))), some (.int (nI m))] : List (Option Value)) = [some (.ref (ad 30 0 0)), some (.int (nI r)), some (.int (bI (rmM F r q m (e + 1) = true))), some (.int (nI (e + 1))), some (.int (nI (q e - ub + snM (F 37 0 0) (4 * r) (nI e) m))), some (.int (nI m))] := fun x hx => by rw [hx]
        refine hb9 _ ?_
        first | exact b1 (by rw [rmM, Bool.and_eq_true]; exact ⟨c_75, decide_eq_true (by unfold rmW; rw [hub]; exact c_82)⟩) | exact b0 (by rw [rmM, Bool.and_eq_true]; exact fun z => absurd (of_decide_eq_true z.2) (by unfold rmW; rw [hub]; omega)) | exact b0 (by rw [rmM, Bool.and_eq_true]; exact fun z => c_75 z.1)
      · refine mJ_iload hK dX6_hasRoom_78 rfl ?_
        refine mJ_bipush (v := nI 8) hK dX6_hasRoom_80 (by decide) ?_
        refine mJ_ngt (tgt := 89) hK dX6_hasRoom_82 (by decide) (by first | omega | (have := (hq e (by omega)).2; have := snM_le (t := F 37 0 0) (b := 4 * r) (c := nI e) (n := m); omega)) (by first | omega | (have := (hq e (by omega)).2; have := snM_le (t := F 37 0 0) (b := 4 * r) (c := nI e) (n := m); omega)) (fun c_82 => ?_) (fun c_82 => ?_)
        · refine mJ_iconst (v := nI 0) hK dX6_hasRoom_89 (by decide) ?_
          refine mJ_istore_n hK dX6_hasRoom_90 (by decide) rfl ?_
          refine mJ_iincN hK dX6_hasRoom_91 rfl rfl (by decide) rfl ?_
          refine mJ_goto (tgt := 4) hK dX6_hasRoom_94 (by decide) ?_
          refine mJ_L ?_ (ih (e + 1) (some (.int (nI (q e - ub + snM (F 37 0 0) (4 * r) (nI e) m)))) (some (.int (nI m))) _ (by omega) (by omega) eh hR)
          have hb9 : ∀ x : Int32, x = bI (rmM F r q m (e + 1) = true) → ([some (.ref (ad 30 0 0)), some (.int (nI r)), some (.int x), some (.int (nI (e + 1))), some (.int (nI (q e - ub + snM (F 37 0 0) (4 * r) (nI e) m))), some (.int (nI m))] : List (Option Value)) = [some (.ref (ad 30 0 0)), some (.int (nI r)), some (.int (bI (rmM F r q m (e + 1) = true))), some (.int (nI (e + 1))), some (.int (nI (q e - ub + snM (F 37 0 0) (4 * r) (nI e) m))), some (.int (nI m))] := fun x hx => by rw [hx]
          refine hb9 _ ?_
          first | exact b1 (by rw [rmM, Bool.and_eq_true]; exact ⟨c_75, decide_eq_true (by unfold rmW; rw [hub]; exact c_82)⟩) | exact b0 (by rw [rmM, Bool.and_eq_true]; exact fun z => absurd (of_decide_eq_true z.2) (by unfold rmW; rw [hub]; omega)) | exact b0 (by rw [rmM, Bool.and_eq_true]; exact fun z => c_75 z.1)
        · refine mJ_iconst (v := nI 1) hK dX6_hasRoom_85 (by decide) ?_
          refine mJ_goto (tgt := 90) hK dX6_hasRoom_86 (by decide) ?_
          refine mJ_istore_n hK dX6_hasRoom_90 (by decide) rfl ?_
          refine mJ_iincN hK dX6_hasRoom_91 rfl rfl (by decide) rfl ?_
          refine mJ_goto (tgt := 4) hK dX6_hasRoom_94 (by decide) ?_
          refine mJ_L ?_ (ih (e + 1) (some (.int (nI (q e - ub + snM (F 37 0 0) (4 * r) (nI e) m)))) (some (.int (nI m))) _ (by omega) (by omega) eh hR)
          have hb9 : ∀ x : Int32, x = bI (rmM F r q m (e + 1) = true) → ([some (.ref (ad 30 0 0)), some (.int (nI r)), some (.int x), some (.int (nI (e + 1))), some (.int (nI (q e - ub + snM (F 37 0 0) (4 * r) (nI e) m))), some (.int (nI m))] : List (Option Value)) = [some (.ref (ad 30 0 0)), some (.int (nI r)), some (.int (bI (rmM F r q m (e + 1) = true))), some (.int (nI (e + 1))), some (.int (nI (q e - ub + snM (F 37 0 0) (4 * r) (nI e) m))), some (.int (nI m))] := fun x hx => by rw [hx]
          refine hb9 _ ?_
          first | exact b1 (by rw [rmM, Bool.and_eq_true]; exact ⟨c_75, decide_eq_true (by unfold rmW; rw [hub]; exact c_82)⟩) | exact b0 (by rw [rmM, Bool.and_eq_true]; exact fun z => absurd (of_decide_eq_true z.2) (by unfold rmW; rw [hub]; omega)) | exact b0 (by rw [rmM, Bool.and_eq_true]; exact fun z => c_75 z.1)

set_option maxRecDepth 100000 in
set_option maxHeartbeats 4000000 in
theorem k_X6_hasRoom {l : Launch} {D : va_G} {aC : Nat → ClassId} {ad : xAd} {h0 h : mH} {F : xFm} {W : xWm} {pm : Nat → Nat} (hR : xR yV ad h0 F W pm h) {r : Nat} (hr : r < 8) {q : Nat → Nat} (hq : ∀ c, c < 8 → F 44 0 0 c = nI (q c) ∧ q c ≤ 8) {m : Nat} (hm : F 36 0 0 r = nI m) (hm4 : m ≤ 4) (hrd : ∀ c, c < 8 → usP (F 34 0 0 r) (nI c) → 0 < q c) : mCon l D aC mX6_hasRoom [.ref (ad 30 0 0), .int (nI r)] h (mRi (bI (rmM F r q m 8 = true)) (fun h' => h' = h)) := by
  refine mCon.of [some (.ref (ad 30 0 0)), some (.int (nI r)), none, none, none, none] (by decide +kernel) rfl (Nat.le_of_ble_eq_true rfl) ?_
  intro K el eD eC hK hZ
  subst el eD eC
  refine mJ_iconst (v := nI 1) hK dX6_hasRoom_0 (by decide) ?_
  refine mJ_istore_n hK dX6_hasRoom_1 (by decide) rfl ?_
  refine mJ_iconst (v := nI 0) hK dX6_hasRoom_2 (by decide) ?_
  refine mJ_istore_n hK dX6_hasRoom_3 (by decide) rfl ?_
  refine mJ_L ?_ (lp_X6_hasRoom hK hr hq hm hm4 hrd hZ 9 0 none none _ (by omega) (by omega) rfl hR)
  rfl
