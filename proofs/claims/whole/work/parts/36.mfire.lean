def mcS (cn q : Nat → Nat) (g r c : Nat) (z : xFm × xWm) : xFm × xWm := if usP (z.1 34 0 0 r) (nI c) then (mSe (mTk z.1 c (cn c) (q c)) g (mTk z.1 c (cn c) (q c) 68 0 0 c) (nI 2) (nI 0), mTw z.1 z.2 c (cn c)) else z
def mcN (cn q : Nat → Nat) (g r : Nat) (z : xFm × xWm) : Nat → xFm × xWm
  | 0 => z
  | c + 1 => mcS cn q g r c (mcN cn q g r z c)
theorem mSe_o {F : xFm} {g : Nat} {x a b : Int32} {k i j : Nat} (h1 : k ≠ 50) (h2 : k ≠ 51) : mSe F g x a b k i j = F k i j := by
  unfold mSe
  split
  · rw [fr_k h2, fr_k h1]
  · rfl
theorem mTk_o {F : xFm} {c b n : Nat} {k i j : Nat} (h1 : k ≠ 67) (h2 : k ≠ 68) (h3 : k ≠ 52) (h4 : k ≠ 44) (h5 : k ≠ 45) (h6 : k ≠ 46) (h7 : k ≠ 47) : mTk F c b n k i j = F k i j := by
  unfold mTk mSh mTb
  rw [fr_k h7, fr_k h6, fr_k h5, fr_k h4, fr_k h3, fr_k h2, fr_k h1]
theorem mcS_fix {cn q : Nat → Nat} {g r c : Nat} {z : xFm × xWm} {k i j : Nat} (h1 : k ≠ 67) (h2 : k ≠ 68) (h3 : k ≠ 52) (h4 : k ≠ 44) (h5 : k ≠ 45) (h6 : k ≠ 46) (h7 : k ≠ 47) (h8 : k ≠ 50) (h9 : k ≠ 51) : (mcS cn q g r c z).1 k i j = z.1 k i j := by
  unfold mcS
  split
  · dsimp only; rw [mSe_o h8 h9, mTk_o h1 h2 h3 h4 h5 h6 h7]
  · rfl
theorem mcN_fix {cn q : Nat → Nat} {g r : Nat} {z : xFm × xWm} {k i j : Nat} (h1 : k ≠ 67) (h2 : k ≠ 68) (h3 : k ≠ 52) (h4 : k ≠ 44) (h5 : k ≠ 45) (h6 : k ≠ 46) (h7 : k ≠ 47) (h8 : k ≠ 50) (h9 : k ≠ 51) : ∀ e, (mcN cn q g r z e).1 k i j = z.1 k i j
  | 0 => rfl
  | e + 1 => (mcS_fix h1 h2 h3 h4 h5 h6 h7 h8 h9).trans (mcN_fix h1 h2 h3 h4 h5 h6 h7 h8 h9 e)
theorem mcS_len {cn q : Nat → Nat} {g r c d : Nat} {z : xFm × xWm} (h : d ≠ c) : (mcS cn q g r c z).1 44 0 0 d = z.1 44 0 0 d := by
  unfold mcS
  split
  · dsimp only
    rw [mSe_o (by omega) (by omega)]
    simp [mTk, mSh, mTb, fr, upd, h]
  · rfl
theorem mcN_len {cn q : Nat → Nat} {g r d : Nat} {z : xFm × xWm} : ∀ e, e ≤ d → (mcN cn q g r z e).1 44 0 0 d = z.1 44 0 0 d
  | 0, _ => rfl
  | e + 1, h => (mcS_len (by omega)).trans (mcN_len e (by omega))
def mF0 (F : xFm) (ch : Nat → Int32) : xFm := fr (fr F 66 0 0 ch) 30 0 0 (upd (F 30 0 0) 18 (F 30 0 0 18 + nI 1))
def oT (F : xFm) (r o : Nat) : Nat := (F 37 0 0 (4 * r + o)).toNatClampNeg
def oK (F : xFm) (r o : Nat) : Nat := (F 38 0 0 (4 * r + o)).toNatClampNeg
def oN (F : xFm) (i : Nat) : Nat := (F 39 0 0 i).toNatClampNeg
def oL (F : xFm) (c : Nat) : Nat := (F 44 0 0 c).toNatClampNeg
def oV (F : xFm) (r o : Nat) : Int32 := ovC (ovM (F 40 0 0) (oN F) (F 67 0 0) (3 * (4 * r + o)) (oK F r o))
def moS (F : xFm) (r g o : Nat) : xFm := if oT F r o < 8 then mPut F (oT F r o) (oL F (oT F r o)) (oV F r o) (-1) else mSe F g (F 68 0 0 (oT F r o - 8)) (nI 1) (oV F r o)
def moN (r g : Nat) : Nat → xFm → xFm
  | 0, F => F
  | o + 1, F => moS (moN r g o F) r g o
def moOk (F : xFm) (r g o : Nat) : Prop := o < 4 ∧ F 37 0 0 (4 * r + o) = nI (oT F r o) ∧ oT F r o < 16 ∧ F 38 0 0 (4 * r + o) = nI (oK F r o) ∧ oK F r o ≤ 3 ∧ (∀ i, i < oK F r o → F 39 0 0 (3 * (4 * r + o) + i) = nI (oN F (3 * (4 * r + o) + i)) ∧ oN F (3 * (4 * r + o) + i) < 18) ∧ F 30 0 0 19 = nI g ∧ (oT F r o < 8 → F 44 0 0 (oT F r o) = nI (oL F (oT F r o)) ∧ oL F (oT F r o) < 8)
theorem moS_fix {F : xFm} {r g o : Nat} {k i j : Nat} (h4 : k ≠ 44) (h5 : k ≠ 45) (h6 : k ≠ 46) (h7 : k ≠ 47) (h8 : k ≠ 50) (h9 : k ≠ 51) : moS F r g o k i j = F k i j := by
  unfold moS
  split
  · unfold mPut
    rw [fr_k h4, fr_k h7, fr_k h6, fr_k h5]
  · exact mSe_o h8 h9
theorem moN_fix {F : xFm} {r g : Nat} {k i j : Nat} (h4 : k ≠ 44) (h5 : k ≠ 45) (h6 : k ≠ 46) (h7 : k ≠ 47) (h8 : k ≠ 50) (h9 : k ≠ 51) : ∀ o, moN r g o F k i j = F k i j
  | 0 => rfl
  | o + 1 => (moS_fix h4 h5 h6 h7 h8 h9).trans (moN_fix h4 h5 h6 h7 h8 h9 o)
def mEnd (G : xFm) (r : Nat) : xFm := fr (fr G 41 0 0 (upd (G 41 0 0) r (G 41 0 0 r + nI 1))) 30 0 0 (upd (G 30 0 0) 12 (nI r))
set_option maxRecDepth 100000 in
set_option maxHeartbeats 4000000 in
theorem lp_X6_fireNow_c {K : mK} (hK : mCx K mX6_fireNow) {ad : xAd} {h0 : mH} {F : xFm} {W : xWm} {pm : Nat → Nat} {r : Nat} (hr : r < 8) {q : Nat → Nat} (hq : ∀ c, c < 8 → F 44 0 0 c = nI (q c) ∧ q c ≤ 8) {cn : Nat → Nat} {m9 : Option (Nat → Nat)} (hm9 : m9 = some cn) (hch : ∀ c, c < 8 → F 66 0 0 c = nI (cn c)) (hcn : ∀ c, c < 8 → usP (F 34 0 0 r) (nI c) → cn c < q c) {g : Nat} (hg : F 30 0 0 19 = nI g) (hgb : g < 1000000) (hkk : ∀ h' : mH, xR yV ad h0 (mcN cn q g r (F, W) 8).1 (mcN cn q g r (F, W) 8).2 pm h' → mJ K 0 0 65 [some (.ref (ad 30 0 0)), some (.int (nI r)), some (.int (bI (m9.isSome = true))), some (.int (nI 8)), none, none] [] h') : ∀ (fu : Nat) (e : Nat) (G : xFm) (V : xWm) (h : mH), 8 - e < fu → (e ≤ 8) → (mcN cn q g r (F, W) e = (G, V)) → (xR yV ad h0 G V pm h) → mJ K 0 0 18 [some (.ref (ad 30 0 0)), some (.int (nI r)), some (.int (bI (m9.isSome = true))), some (.int (nI e)), none, none] [] h := by
  intro fu
  induction fu with
  | zero =>
    intro e G V h hm0
    exact absurd hm0 (by omega)
  | succ fu ih =>
    intro e G V h hm0 he hT hR
    have rG : G 34 0 0 = F 34 0 0 := by have := mcN_fix (cn := cn) (q := q) (g := g) (r := r) (z := (F, W)) (k := 34) (i := 0) (j := 0) (by omega) (by omega) (by omega) (by omega) (by omega) (by omega) (by omega) (by omega) (by omega) e; rw [hT] at this; exact this
    have cG : G 66 0 0 = F 66 0 0 := by have := mcN_fix (cn := cn) (q := q) (g := g) (r := r) (z := (F, W)) (k := 66) (i := 0) (j := 0) (by omega) (by omega) (by omega) (by omega) (by omega) (by omega) (by omega) (by omega) (by omega) e; rw [hT] at this; exact this
    have sG : G 30 0 0 = F 30 0 0 := by have := mcN_fix (cn := cn) (q := q) (g := g) (r := r) (z := (F, W)) (k := 30) (i := 0) (j := 0) (by omega) (by omega) (by omega) (by omega) (by omega) (by omega) (by omega) (by omega) (by omega) e; rw [hT] at this; exact this
    have lG : G 44 0 0 e = F 44 0 0 e := by have := mcN_len (cn := cn) (q := q) (g := g) (r := r) (z := (F, W)) e (Nat.le_refl e); rw [hT] at this; exact this
    refine mJ_iload_n hK dX6_fireNow_18 rfl ?_
    refine mJ_bipush (v := nI 8) hK dX6_fireNow_19 (by decide) ?_
    refine mJ_nge (tgt := 65) hK dX6_fireNow_21 (by decide) (by omega) (by omega) (fun c_21 => ?_) (fun c_21 => ?_)
    · have : e = 8 := by omega
      subst this
      exact hkk _ (by rw [hT]; exact hR)
    · refine mJ_iload_n hK dX6_fireNow_24 rfl ?_
      refine mJ_ifb_eq (tgt := 65) hK dX6_fireNow_25 (by decide) (fun c_25 => ?_) (fun c_25 => ?_)
      · exact absurd (by rw [hm9]; rfl) c_25
      · refine mJ_aload_n hK dX6_fireNow_28 rfl ?_
        refine xJ_getr hR hK dX6_fireNow_29 fX6_13 (by unfold yV; omega) (fun _ _ => rfl) (by decide) (fun _ _ => rfl) ?_
        refine mJ_iload_n hK dX6_fireNow_32 rfl ?_
        refine xJ_iald r hR hK dX6_fireNow_33 (by unfold yV; omega) (fun _ _ => rfl) rfl (by omega) (by decide) ?_
        refine mJ_iload_n hK dX6_fireNow_34 rfl ?_
        refine mJ_ishr hK dX6_fireNow_35 ?_
        refine mJ_iconst (v := nI 1) hK dX6_fireNow_36 (by decide) ?_
        refine mJ_iand hK dX6_fireNow_37 ?_
        refine mJ_iconst (v := nI 1) hK dX6_fireNow_38 (by decide) ?_
        refine mJ_icmp_ne (tgt := 59) hK dX6_fireNow_39 (by decide) (fun c_39 => ?_) (fun c_39 => ?_)
        · refine mJ_iincN hK dX6_fireNow_59 rfl rfl (by decide) rfl ?_
          refine mJ_goto (tgt := 18) hK dX6_fireNow_62 (by decide) ?_
          refine ih (e + 1) _ _ _ (by omega) (by omega) ?_ hR
          show mcS cn q g r e (mcN cn q g r (F, W) e) = _
          rw [hT]
          unfold mcS
          first | rw [if_neg (fun z => c_39 (us1.mpr z))] | rw [if_pos (us1.mp c_39)]
        · have hu : usP (F 34 0 0 r) (nI e) := by have := us1.mp c_39; rw [rG] at this; exact this
          have hn : G 44 0 0 e = nI (q e) := by rw [lG]; exact (hq e (by omega)).1
          have hce : G 66 0 0 e = nI (cn e) := by rw [cG]; exact hch e (by omega)
          refine mJ_aload_n hK dX6_fireNow_42 rfl ?_
          refine mJ_iload_n hK dX6_fireNow_43 rfl ?_
          refine mJ_cVv hK dX6_fireNow_44 lX6_255 (by unfold mFit; decide) (by decide) (k_X6_consume hR (by omega) (hq e (by omega)).2 (hcn e (by omega) hu) hn hce) rfl rfl (Nat.le_of_ble_eq_true rfl) (hR.1 _ _ _ (by unfold yV; omega)) ⟨_, _, rfl⟩ (fun h hR => ?_)
          refine mJ_aload_n hK dX6_fireNow_47 rfl ?_
          refine mJ_aload_n hK dX6_fireNow_48 rfl ?_
          refine xJ_getr hR hK dX6_fireNow_49 fX6_87 (by unfold yV; omega) (fun _ _ => rfl) (by decide) (fun _ _ => rfl) ?_
          refine mJ_iload_n hK dX6_fireNow_52 rfl ?_
          refine xJ_iald e hR hK dX6_fireNow_53 (by unfold yV; omega) (fun _ _ => rfl) rfl (by omega) (by decide) ?_
          refine mJ_iconst (v := nI 2) hK dX6_fireNow_54 (by decide) ?_
          refine mJ_iconst (v := nI 0) hK dX6_fireNow_55 (by decide) ?_
          refine mJ_cVv hK dX6_fireNow_56 lX6_259 (by unfold mFit; decide) (by decide) (k_X6_settle hR (g := g) (by show G 30 0 0 19 = nI g; rw [sG]; exact hg) hgb _ _ _) rfl rfl (Nat.le_of_ble_eq_true rfl) (hR.1 _ _ _ (by unfold yV; omega)) ⟨_, _, rfl⟩ (fun h hR => ?_)
          refine mJ_iincN hK dX6_fireNow_59 rfl rfl (by decide) rfl ?_
          refine mJ_goto (tgt := 18) hK dX6_fireNow_62 (by decide) ?_
          refine ih (e + 1) _ _ _ (by omega) (by omega) ?_ hR
          show mcS cn q g r e (mcN cn q g r (F, W) e) = _
          rw [hT]
          unfold mcS
          first | rw [if_neg (fun z => c_39 (us1.mpr z))] | rw [if_pos (us1.mp c_39)]

set_option maxRecDepth 100000 in
set_option maxHeartbeats 4000000 in
theorem lp_X6_fireNow_o {K : mK} (hK : mCx K mX6_fireNow) {ad : xAd} {h0 : mH} {F : xFm} {W : xWm} {pm : Nat → Nat} {r : Nat} (hr : r < 8) {m g : Nat} (hm : F 36 0 0 r = nI m) (hm4 : m ≤ 4) (hgb : g < 1000000) (hO : ∀ o, o < m → moOk (moN r g o F) r g o) {P : mH → Prop} (hP : ∀ {h'}, xR yV ad h0 (mEnd (moN r g m F) r) W pm h' → P h') {x : Int32} (hZ : mRt K mX6_fireNow (mRv P)) : ∀ (fu : Nat) (e : Nat) (u v : Option Value) (G : xFm) (h : mH), m - e < fu → (e ≤ m) → (moN r g e F = G) → (xR yV ad h0 G W pm h) → mJ K 0 0 67 [some (.ref (ad 30 0 0)), some (.int (nI r)), some (.int x), some (.int (nI e)), u, v] [] h := by
  intro fu
  induction fu with
  | zero =>
    intro e u v G h hm0
    exact absurd hm0 (by omega)
  | succ fu ih =>
    intro e u v G h hm0 he hT hR
    refine mJ_iload_n hK dX6_fireNow_67 rfl ?_
    refine mJ_aload_n hK dX6_fireNow_68 rfl ?_
    refine xJ_getr hR hK dX6_fireNow_69 fX6_19 (by unfold yV; omega) (fun _ _ => rfl) (by decide) (fun _ _ => rfl) ?_
    refine mJ_iload_n hK dX6_fireNow_72 rfl ?_
    refine xJ_ialdx r (nI m) hR hK dX6_fireNow_73 (by unfold yV; omega) (fun _ _ => rfl) rfl (by omega) (by decide) (by rw [← hT, moN_fix (by omega) (by omega) (by omega) (by omega) (by omega) (by omega) e]; exact hm) ?_
    refine mJ_nge (tgt := 139) hK dX6_fireNow_74 (by decide) (by omega) (by omega) (fun c_74 => ?_) (fun c_74 => ?_)
    · refine mJ_aload_n hK dX6_fireNow_139 rfl ?_
      refine xJ_getr hR hK dX6_fireNow_140 fX6_34 (by unfold yV; omega) (fun _ _ => rfl) (by decide) (fun _ _ => rfl) ?_
      refine mJ_iload_n hK dX6_fireNow_143 rfl ?_
      refine mJ_dup2 hK dX6_fireNow_144 rfl rfl ?_
      refine xJ_iald r hR hK dX6_fireNow_145 (by unfold yV; omega) (fun _ _ => rfl) rfl (by omega) (by decide) ?_
      refine mJ_iconst (v := nI 1) hK dX6_fireNow_146 (by decide) ?_
      refine mJ_iadd hK dX6_fireNow_147 ?_
      refine xJ_iast r hR hK dX6_fireNow_148 (by unfold yV; omega) (fun _ _ => rfl) rfl (by omega) (by decide) (fun h hR => ?_)
      refine mJ_aload_n hK dX6_fireNow_149 rfl ?_
      refine mJ_iload_n hK dX6_fireNow_150 rfl ?_
      refine xJ_puti hR hK dX6_fireNow_151 fX6_37 sX6_12 rfl rfl (by unfold yV; omega) (fun _ _ => rfl) (by decide) rfl (fun h hR => ?_)
      refine mJ_vret hK dX6_fireNow_154 rfl hZ (by decide) (by decide) ?_
      have : e = m := by omega
      subst this
      exact ⟨rfl, hP (by rw [hT]; exact hR)⟩
    · obtain ⟨h1, h2, h3, h4, h5, h6, h7, h8⟩ : moOk G r g e := by rw [← hT]; exact hO e (by omega)
      refine mJ_aload_n hK dX6_fireNow_77 rfl ?_
      refine xJ_getr hR hK dX6_fireNow_78 fX6_22 (by unfold yV; omega) (fun _ _ => rfl) (by decide) (fun _ _ => rfl) ?_
      refine mJ_iconst (v := nI 4) hK dX6_fireNow_81 (by decide) ?_
      refine mJ_iload_n hK dX6_fireNow_82 rfl ?_
      refine mJ_imulN hK dX6_fireNow_83 ?_
      refine mJ_iload_n hK dX6_fireNow_84 rfl ?_
      refine mJ_iaddN hK dX6_fireNow_85 ?_
      refine xJ_ialdx ((4 * r) + e) (nI (oT G r e)) hR hK dX6_fireNow_86 (by unfold yV; omega) (fun _ _ => rfl) rfl (by omega) (by decide) (h2) ?_
      refine mJ_istore hK dX6_fireNow_87 (by decide) rfl ?_
      refine mJ_aload_n hK dX6_fireNow_89 rfl ?_
      refine mJ_iload_n hK dX6_fireNow_90 rfl ?_
      refine mJ_iload_n hK dX6_fireNow_91 rfl ?_
      refine mJ_cVi hK dX6_fireNow_92 lX6_262 (by unfold mFit; decide) (by decide) (k_X6_computed hR hr h1 rfl h4 h5 h6) rfl rfl (Nat.le_of_ble_eq_true rfl) (hR.1 _ _ _ (by unfold yV; omega)) ⟨_, _, rfl⟩ (fun h e9 => ?_)
      subst e9
      refine mJ_istore hK dX6_fireNow_95 (by decide) rfl ?_
      refine mJ_iload hK dX6_fireNow_97 rfl ?_
      refine mJ_bipush (v := nI 8) hK dX6_fireNow_99 (by decide) ?_
      refine mJ_nge (tgt := 116) hK dX6_fireNow_101 (by decide) (by omega) (by omega) (fun c_101 => ?_) (fun c_101 => ?_)
      · refine mJ_aload_n hK dX6_fireNow_116 rfl ?_
        refine mJ_aload_n hK dX6_fireNow_117 rfl ?_
        refine xJ_getr hR hK dX6_fireNow_118 fX6_87 (by unfold yV; omega) (fun _ _ => rfl) (by decide) (fun _ _ => rfl) ?_
        refine mJ_iload hK dX6_fireNow_121 rfl ?_
        refine mJ_bipush (v := nI 8) hK dX6_fireNow_123 (by decide) ?_
        refine mJ_isubN hK dX6_fireNow_125 (by omega) ?_
        refine xJ_iald ((oT G r e) - 8) hR hK dX6_fireNow_126 (by unfold yV; omega) (fun _ _ => rfl) rfl (by omega) (by decide) ?_
        refine mJ_iconst (v := nI 1) hK dX6_fireNow_127 (by decide) ?_
        refine mJ_iload hK dX6_fireNow_128 rfl ?_
        refine mJ_cVv hK dX6_fireNow_130 lX6_259 (by unfold mFit; decide) (by decide) (k_X6_settle hR h7 hgb _ _ _) rfl rfl (Nat.le_of_ble_eq_true rfl) (hR.1 _ _ _ (by unfold yV; omega)) ⟨_, _, rfl⟩ (fun h hR => ?_)
        refine mJ_iincN hK dX6_fireNow_133 rfl rfl (by decide) rfl ?_
        refine mJ_goto (tgt := 67) hK dX6_fireNow_136 (by decide) ?_
        refine ih (e + 1) _ _ _ _ (by omega) (by omega) ?_ hR
        show moS (moN r g e F) r g e = _
        rw [hT]
        unfold moS
        first | (rw [if_pos (by omega)]; rfl) | (rw [if_neg (by omega)]; rfl)
      · refine mJ_aload_n hK dX6_fireNow_104 rfl ?_
        refine mJ_iload hK dX6_fireNow_105 rfl ?_
        refine mJ_iload hK dX6_fireNow_107 rfl ?_
        refine mJ_iconst (v := -1) hK dX6_fireNow_109 (by decide) ?_
        refine mJ_cVv hK dX6_fireNow_110 lX6_213 (by unfold mFit; decide) (by decide) (k_X6_put hR (by omega) (h8 (by omega)).1 (h8 (by omega)).2 _ _) rfl rfl (Nat.le_of_ble_eq_true rfl) (hR.1 _ _ _ (by unfold yV; omega)) ⟨_, _, rfl⟩ (fun h hR => ?_)
        refine mJ_goto (tgt := 133) hK dX6_fireNow_113 (by decide) ?_
        refine mJ_iincN hK dX6_fireNow_133 rfl rfl (by decide) rfl ?_
        refine mJ_goto (tgt := 67) hK dX6_fireNow_136 (by decide) ?_
        refine ih (e + 1) _ _ _ _ (by omega) (by omega) ?_ hR
        show moS (moN r g e F) r g e = _
        rw [hT]
        unfold moS
        first | (rw [if_pos (by omega)]; rfl) | (rw [if_neg (by omega)]; rfl)

set_option maxRecDepth 100000 in
set_option maxHeartbeats 4000000 in
theorem k_X6_fireNow {l : Launch} {D : va_G} {aC : Nat → ClassId} {ad : xAd} {h0 h : mH} {F : xFm} {W : xWm} {pm : Nat → Nat} (hR : xR yV ad h0 F W pm h) {rn : Nat} (hrn : F 30 0 0 3 = nI rn) (hrn8 : rn ≤ 8) {r : Nat} (hr : r < rn) {q : Nat → Nat} (hq : ∀ c, c < 8 → F 44 0 0 c = nI (q c) ∧ q c ≤ 8) {ga gb om : Nat → Nat} {mt : Nat → Option (Nat → Nat)} (hM : rM F q rn ga gb om mt) {g : Nat} (hg : F 30 0 0 19 = nI g) (hgb : g < 1000000) {cn : Nat → Nat} (hmt : mt r = some cn) (hO : ∀ (ch : Nat → Int32), (∀ c, c < 8 → ch c = nI (cn c)) → ∀ o, o < om r → moOk (moN r g o (mcN cn q g r (mF0 F ch, W) 8).1) r g o) : mCon l D aC mX6_fireNow [.ref (ad 30 0 0), .int (nI r)] h (mRv (fun h' => ∃ ch : Nat → Int32, (∀ c, c < 8 → ch c = nI (cn c)) ∧ xR yV ad h0 (mEnd (moN r g (om r) (mcN cn q g r (mF0 F ch, W) 8).1) r) (mcN cn q g r (mF0 F ch, W) 8).2 pm h')) := by
  refine mCon.of [some (.ref (ad 30 0 0)), some (.int (nI r)), none, none, none, none] (by decide +kernel) rfl (Nat.le_of_ble_eq_true rfl) ?_
  intro K el eD eC hK hZ
  subst el eD eC
  refine mJ_aload_n hK dX6_fireNow_0 rfl ?_
  refine mJ_iload_n hK dX6_fireNow_1 rfl ?_
  refine mJ_cVi hK dX6_fireNow_2 lX6_233 (by unfold mFit; decide) (by decide) (k_X6_matches hR (rn := rn) hrn hrn8 (r := r) hr (q := q) hq (hM r hr).1 (hM r hr).2.1) rfl rfl (Nat.le_of_ble_eq_true rfl) (hR.1 _ _ _ (by unfold yV; omega)) ⟨_, _, rfl⟩ (fun h hE => ?_)
  obtain ⟨ch, hR, hch⟩ := hE
  have hc9 := hch cn hmt
  refine mJ_istore_n hK dX6_fireNow_5 (by decide) rfl ?_
  refine mJ_aload_n hK dX6_fireNow_6 rfl ?_
  refine mJ_dup hK dX6_fireNow_7 rfl ?_
  refine xJ_geti hR hK dX6_fireNow_8 fX6_204 (by unfold yV; omega) (fun _ _ => rfl) (by decide) rfl ?_
  refine mJ_iconst (v := nI 1) hK dX6_fireNow_11 (by decide) ?_
  refine mJ_iadd hK dX6_fireNow_12 ?_
  refine xJ_puti hR hK dX6_fireNow_13 fX6_204 sX6_18 rfl rfl (by unfold yV; omega) (fun _ _ => rfl) (by decide) rfl (fun h hR => ?_)
  refine mJ_iconst (v := nI 0) hK dX6_fireNow_16 (by decide) ?_
  refine mJ_istore_n hK dX6_fireNow_17 (by decide) rfl ?_
  have eF : xR yV ad h0 (mF0 F ch) W pm h := hR
  have hcn : ∀ c, c < 8 → usP (F 34 0 0 r) (nI c) → cn c < q c := by
    intro c hc hu
    have h1 := (hM r hr).2.1
    rw [hmt] at h1
    have h2 := h1.2.1 c hc
    rw [wR_t hu] at h2
    exact h2
  refine lp_X6_fireNow_c hK (by omega) (F := mF0 F ch) (W := W) (q := q) hq (cn := cn) (m9 := mt r) hmt (fun c hc => hc9 c hc) hcn (g := g) (by show F 30 0 0 19 = nI g; exact hg) hgb ?_ 9 0 _ _ _ (by omega) (by omega) rfl eF
  intro h hR
  refine mJ_iconst (v := nI 0) hK dX6_fireNow_65 (by decide) ?_
  refine mJ_istore_n hK dX6_fireNow_66 (by decide) rfl ?_
  exact lp_X6_fireNow_o hK (by omega) (m := om r) (by rw [mcN_fix (by omega) (by omega) (by omega) (by omega) (by omega) (by omega) (by omega) (by omega) (by omega)]; exact (hM r hr).2.2.1) (hM r hr).2.2.2 hgb (hO ch hc9) (fun z => ⟨ch, hc9, z⟩) hZ (om r + 1) 0 none none _ _ (by omega) (by omega) rfl hR
