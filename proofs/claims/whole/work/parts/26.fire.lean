def cT (F : xFm) (r o : Nat) : Nat := (F 18 r 0 o).toNatClampNeg
def cK (F : xFm) (r o : Nat) : Nat := (F 20 r 0 o).toNatClampNeg
def cO (F : xFm) (r i : Nat) : Nat := (F 22 r 0 i).toNatClampNeg
def cL (F : xFm) (r o : Nat) : Nat := (F 13 0 (cT F r o) 3).toNatClampNeg
def cV (F : xFm) (r o : Nat) : Int32 := ovC (ovL (F 21 r 0) (cO F r) (F 5 0 0) (o * 3) (cK F r o))
def coS (F : xFm) (r g o : Nat) : xFm := if F 19 r 0 o = 0 then xPut F 0 (cT F r o) (cL F r o) (cV F r o) (F 7 0 0 3) (-1) else xSt F 0 g (F 6 0 0 (cT F r o)) (nI 1) (cV F r o)
def coN (r g : Nat) : Nat → xFm → xFm
  | 0, F => F
  | o + 1, F => coS (coN r g o F) r g o
def coOk (F : xFm) (r g o : Nat) : Prop := o < 4 ∧ F 18 r 0 o = nI (cT F r o) ∧ cT F r o < 8 ∧ F 20 r 0 o = nI (cK F r o) ∧ cK F r o ≤ 3 ∧ (∀ i, i < cK F r o → F 22 r 0 (o * 3 + i) = nI (cO F r (o * 3 + i)) ∧ cO F r (o * 3 + i) < 18) ∧ F 9 0 0 2 = nI g ∧ (F 19 r 0 o = 0 → F 13 0 (cT F r o) 3 = nI (cL F r o) ∧ cL F r o < 8)
theorem k_X5_carryOut {l : Launch} {D : va_G} {aC : Nat → ClassId} {ad : xAd} {h0 h : mH} {F : xFm} {W : xWm} {pm : Nat → Nat} (hR : xR xV ad h0 F W pm h) {r : Nat} (hr : r < 9) {o g : Nat} (hO : coOk F r g o) (hgb : g < 1000000) : mCon l D aC mX5_carryOut [.ref (ad 0 0 0), .ref (ad 17 r 0), .int (nI o)] h (mRv (fun h' => xR xV ad h0 (coS F r g o) W pm h')) := by
  obtain ⟨h1, h2, h3, h4, h5, h6, h7, h8⟩ := hO
  by_cases hp : F 19 r 0 o = 0
  · have e : coS F r g o = xPut F 0 (cT F r o) (cL F r o) (cV F r o) (F 7 0 0 3) (-1) := if_pos hp
    rw [e]
    exact k_X5_carryOut_p hR hr h1 h2 h3 h4 h5 h6 (h8 hp).1 (h8 hp).2 hp
  · have e : coS F r g o = xSt F 0 g (F 6 0 0 (cT F r o)) (nI 1) (cV F r o) := if_neg hp
    rw [e]
    exact k_X5_carryOut_r hR hr h1 h2 h3 h4 h5 h6 h7 hgb hp
def choN (f : Nat → Nat) (a i : Nat) : Nat → Nat := if a < 8 then va_up f a i else f
abbrev chN (gl gr i j : Nat) : Nat → Nat := choN (choN (fun _ => 0) gl i) gr j
theorem cho_N {f : Nat → Int32} {g : Nat → Nat} (h : ∀ c, f c = nI (g c)) (a i c : Nat) : cho f a i c = nI (choN g a i c) := by
  unfold cho choN
  split
  · unfold upd va_up
    split
    · rfl
    · exact h c
  · exact h c
theorem chs_N {gl gr i j c : Nat} : chs gl gr i j c = nI (chN gl gr i j c) := cho_N (fun c => cho_N (fun _ => rfl) gl i c) gr j c
/-- the rows as a firing begins: chosen, the clock, last, the count -/
def feF (F : xFm) (ch : Nat → Int32) (k : Nat) : xFm := fr (fr (fr F 4 0 0 ch) 7 0 0 (upd (upd (F 7 0 0) 3 (F 7 0 0 3 + nI 1)) 4 (nI k))) 12 0 0 (upd (F 12 0 0) k (F 12 0 0 k + nI 1))
theorem feF_ch {F : xFm} {c1 ch : Nat → Int32} {k : Nat} : feF (fr F 4 0 0 c1) ch k = feF F ch k := by
  unfold feF
  rw [fr_fr]
  rfl
set_option maxRecDepth 100000 in
set_option maxHeartbeats 4000000 in
theorem lp_X5_fireEnabled {K : mK} (hK : mCx K mX5_fireEnabled) {ad : xAd} {h0 : mH} {F : xFm} {W : xWm} {pm : Nat → Nat} {r : Nat} (hr : r < 9) {m g : Nat} (hm4 : m ≤ 4) (hgb : g < 1000000) (hmo : ∀ o, o ≤ m → coN r g o F 17 r 0 5 = nI m) (hO : ∀ o, o < m → coOk (coN r g o F) r g o) {P : mH → Prop} (hP : ∀ {h'}, xR xV ad h0 (coN r g m F) W pm h' → P h') {x : Int32} (hZ : mRt K mX5_fireEnabled (mRv P)) : ∀ (fu : Nat) (e : Nat) (G : xFm) (h : mH), m - e < fu → (e ≤ m) → (coN r g e F = G) → (xR xV ad h0 G W pm h) → mJ K 0 0 57 [some (.ref (ad 0 0 0)), some (.int x), some (.ref (ad 17 r 0)), some (.int (nI e))] [] h := by
  intro fu
  induction fu with
  | zero =>
    intro e G h hm0
    exact absurd hm0 (by omega)
  | succ fu ih =>
    intro e G h hm0 he hT hR
    refine mJ_iload_n hK dX5_fireEnabled_57 rfl ?_
    refine mJ_aload_n hK dX5_fireEnabled_58 rfl ?_
    refine xJ_getx (nI m) hR hK dX5_fireEnabled_59 fX5_289 (by unfold xV; omega) (fun _ _ => rfl) (by decide) rfl (by rw [← hT]; exact hmo e (by omega)) ?_
    refine mJ_nge (tgt := 77) hK dX5_fireEnabled_62 (by decide) (by omega) (by omega) (fun c_62 => ?_) (fun c_62 => ?_)
    · refine mJ_vret hK dX5_fireEnabled_77 rfl hZ (by decide) (by decide) ?_
      have : e = m := by omega
      subst this
      exact ⟨rfl, hP (hT ▸ hR)⟩
    · refine mJ_aload_n hK dX5_fireEnabled_65 rfl ?_
      refine mJ_aload_n hK dX5_fireEnabled_66 rfl ?_
      refine mJ_iload_n hK dX5_fireEnabled_67 rfl ?_
      refine mJ_cVv hK dX5_fireEnabled_68 lX5_292 (by unfold mFit; decide) (by decide) (k_X5_carryOut hR hr (by rw [← hT]; exact hO e c_62) hgb) rfl rfl (Nat.le_of_ble_eq_true rfl) (hR.1 _ _ _ (by unfold xV; omega)) ⟨_, _, rfl⟩ (fun h hR => ?_)
      refine mJ_iincN hK dX5_fireEnabled_71 rfl rfl (by decide) rfl ?_
      refine mJ_goto (tgt := 57) hK dX5_fireEnabled_74 (by decide) ?_
      exact ih (e + 1) _ _ (by omega) (by omega) (by rw [← hT]; rfl) hR

set_option maxRecDepth 100000 in
set_option maxHeartbeats 4000000 in
theorem k_X5_fireEnabled {l : Launch} {D : va_G} {aC : Nat → ClassId} {ad : xAd} {h0 h : mH} {F : xFm} {W : xWm} {pm : Nat → Nat} (hR : xR xV ad h0 F W pm h) {rn : Nat} (hrn8 : rn ≤ 8) (hpm : ∀ i, i < 9 → pm i < 9) {q : Nat → Nat} (hq : ∀ c, c < 8 → F 13 0 c 3 = nI (q c) ∧ q c ≤ 8) {k : Nat} (hk : k < rn) (hw : rwf F (pm k)) {i j : Nat} (hfm : fmF F q (pm k) = some (i, j)) {cn : Nat → Nat} (ecn : cn = chN (gL F (pm k)) (gR F (pm k)) i j) (hcn : ∀ c, c < 8 → usP (F 17 (pm k) 0 0) (nI c) → cn c < q c) {g : Nat} (hg : F 9 0 0 2 = nI g) (hgb : g < 1000000) (hO : ∀ (ch : Nat → Int32), (∀ c, c < 8 → ch c = nI (cn c)) → ∀ o, o < oC F (pm k) → coOk (coN (pm k) g o (tkN cn q g (pm k) (feF F ch k, W) 8).1) (pm k) g o) (hmo : ∀ (ch : Nat → Int32) (o : Nat), o ≤ oC F (pm k) → coN (pm k) g o (tkN cn q g (pm k) (feF F ch k, W) 8).1 (17) (pm k) 0 5 = nI (oC F (pm k))) : mCon l D aC mX5_fireEnabled [.ref (ad 0 0 0), .int (nI k)] h (mRv (fun h' => ∃ ch : Nat → Int32, (∀ c, c < 8 → ch c = nI (cn c)) ∧ xR xV ad h0 (coN (pm k) g (oC F (pm k)) (tkN cn q g (pm k) (feF F ch k, W) 8).1) (tkN cn q g (pm k) (feF F ch k, W) 8).2 pm h')) := by
  refine mCon.of [some (.ref (ad 0 0 0)), some (.int (nI k)), none, none] (by decide +kernel) rfl (Nat.le_of_ble_eq_true rfl) ?_
  intro K el eD eC hK hZ
  subst el eD eC
  refine mJ_aload_n hK dX5_fireEnabled_0 rfl ?_
  refine xJ_getr hR hK dX5_fireEnabled_1 fX5_22 (by unfold xV; first | omega | (have := hpm k (by omega); omega)) (fun _ _ => rfl) (by decide) (fun _ _ => rfl) ?_
  refine mJ_iload_n hK dX5_fireEnabled_4 rfl ?_
  refine xJ_aldR k hR hK dX5_fireEnabled_5 (by unfold xV; first | omega | (have := hpm k (by omega); omega)) rfl (by omega) ?_
  refine mJ_astore_n hK dX5_fireEnabled_6 (by decide) rfl ?_
  refine mJ_aload_n hK dX5_fireEnabled_7 rfl ?_
  refine mJ_aload_n hK dX5_fireEnabled_8 rfl ?_
  refine mJ_cVi hK dX5_fireEnabled_9 lX5_169 (by unfold mFit; decide) (by decide) (k_X5_findMatchF hR (hpm k (by omega)) hq hw) rfl rfl (Nat.le_of_ble_eq_true rfl) (hR.1 _ _ _ (by unfold xV; first | omega | (have := hpm k (by omega); omega))) ⟨_, _, rfl⟩ (fun h hE => ?_)
  obtain ⟨ch, hR, hch⟩ := hE
  have hc9 : ∀ c, c < 8 → ch c = nI (cn c) := fun c hc => by rw [hch i j hfm c hc, ecn]; exact chs_N
  refine mJ_ifb_ne (tgt := 16) hK dX5_fireEnabled_12 (by decide) (fun c_12 => ?_) (fun c_12 => ?_)
  · refine mJ_aload_n hK dX5_fireEnabled_16 rfl ?_
    refine xJ_getr hR hK dX5_fireEnabled_17 fX5_29 (by unfold xV; first | omega | (have := hpm k (by omega); omega)) (fun _ _ => rfl) (by decide) (fun _ _ => rfl) ?_
    refine mJ_dup hK dX5_fireEnabled_20 rfl ?_
    refine xJ_geti hR hK dX5_fireEnabled_21 fX5_119 (by unfold xV; first | omega | (have := hpm k (by omega); omega)) (fun _ _ => rfl) (by decide) rfl ?_
    refine mJ_iconst (v := nI 1) hK dX5_fireEnabled_24 (by decide) ?_
    refine mJ_iadd hK dX5_fireEnabled_25 ?_
    refine xJ_puti hR hK dX5_fireEnabled_26 fX5_119 sX3_3 rfl rfl (by unfold xV; first | omega | (have := hpm k (by omega); omega)) (fun _ _ => rfl) (by decide) rfl (fun h hR => ?_)
    refine mJ_aload_n hK dX5_fireEnabled_29 rfl ?_
    refine xJ_getr hR hK dX5_fireEnabled_30 fX5_29 (by unfold xV; first | omega | (have := hpm k (by omega); omega)) (fun _ _ => rfl) (by decide) (fun _ _ => rfl) ?_
    refine mJ_iload_n hK dX5_fireEnabled_33 rfl ?_
    refine xJ_puti hR hK dX5_fireEnabled_34 fX5_92 sX3_4 rfl rfl (by unfold xV; first | omega | (have := hpm k (by omega); omega)) (fun _ _ => rfl) (by decide) rfl (fun h hR => ?_)
    refine mJ_aload_n hK dX5_fireEnabled_37 rfl ?_
    refine xJ_getr hR hK dX5_fireEnabled_38 fX5_29 (by unfold xV; first | omega | (have := hpm k (by omega); omega)) (fun _ _ => rfl) (by decide) (fun _ _ => rfl) ?_
    refine xJ_getr hR hK dX5_fireEnabled_41 fX5_81 (by unfold xV; first | omega | (have := hpm k (by omega); omega)) (fun _ _ => rfl) (by decide) (fun _ _ => rfl) ?_
    refine mJ_iload_n hK dX5_fireEnabled_44 rfl ?_
    refine mJ_dup2 hK dX5_fireEnabled_45 rfl rfl ?_
    refine xJ_iald k hR hK dX5_fireEnabled_46 (by unfold xV; first | omega | (have := hpm k (by omega); omega)) (fun _ _ => rfl) rfl (by omega) (by decide) ?_
    refine mJ_iconst (v := nI 1) hK dX5_fireEnabled_47 (by decide) ?_
    refine mJ_iadd hK dX5_fireEnabled_48 ?_
    refine xJ_iast k hR hK dX5_fireEnabled_49 (by unfold xV; first | omega | (have := hpm k (by omega); omega)) (fun _ _ => rfl) rfl (by omega) (by decide) (fun h hR => ?_)
    have eF : fr (fr (fr (fr F 4 0 0 ch) 7 0 0 (upd (fr F 4 0 0 ch 7 0 0) 3 (fr F 4 0 0 ch 7 0 0 3 + nI 1))) 7 0 0 (upd (fr (fr F 4 0 0 ch) 7 0 0 (upd (fr F 4 0 0 ch 7 0 0) 3 (fr F 4 0 0 ch 7 0 0 3 + nI 1)) 7 0 0) 4 (nI k))) 12 0 0 (upd (fr (fr (fr F 4 0 0 ch) 7 0 0 (upd (fr F 4 0 0 ch 7 0 0) 3 (fr F 4 0 0 ch 7 0 0 3 + nI 1))) 7 0 0 (upd (fr (fr F 4 0 0 ch) 7 0 0 (upd (fr F 4 0 0 ch 7 0 0) 3 (fr F 4 0 0 ch 7 0 0 3 + nI 1)) 7 0 0) 4 (nI k)) 12 0 0) k (fr (fr (fr F 4 0 0 ch) 7 0 0 (upd (fr F 4 0 0 ch 7 0 0) 3 (fr F 4 0 0 ch 7 0 0 3 + nI 1))) 7 0 0 (upd (fr (fr F 4 0 0 ch) 7 0 0 (upd (fr F 4 0 0 ch 7 0 0) 3 (fr F 4 0 0 ch 7 0 0 3 + nI 1)) 7 0 0) 4 (nI k)) 12 0 0 k + nI 1)) = feF F ch k := by simp only [fr_s, fr_fr]; rfl
    rw [eF] at hR
    refine mJ_aload_n hK dX5_fireEnabled_50 rfl ?_
    refine mJ_aload_n hK dX5_fireEnabled_51 rfl ?_
    refine mJ_cVv hK dX5_fireEnabled_52 lX5_285 (by unfold mFit; decide) (by decide) (k_X5_takeMessages hR (hpm k (by omega)) hq hc9 hcn hg hgb) rfl rfl (Nat.le_of_ble_eq_true rfl) (hR.1 _ _ _ (by unfold xV; first | omega | (have := hpm k (by omega); omega))) ⟨_, _, rfl⟩ (fun h hR => ?_)
    refine mJ_iconst (v := nI 0) hK dX5_fireEnabled_55 (by decide) ?_
    refine mJ_istore_n hK dX5_fireEnabled_56 (by decide) rfl ?_
    exact lp_X5_fireEnabled hK (hpm k (by omega)) hw.2.2.2.2.2 hgb (hmo ch) (hO ch hc9) (fun z9 => ⟨ch, hc9, z9⟩) hZ (oC F (pm k) + 1) 0 _ _ (by omega) (by omega) rfl hR
  · exact absurd (by rw [hfm]; rfl) c_12
