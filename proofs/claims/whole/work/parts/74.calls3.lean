def eqR (F : xFm) (W : xWm) (pm : Nat → Nat) : xFm → xWm → (Nat → Nat) → Prop := fun F' W' p' => F' = F ∧ W' = W ∧ p' = pm
def chR (k : Nat) (F : xFm) (W : xWm) (pm : Nat → Nat) : xFm → xWm → (Nat → Nat) → Prop := fun F' W' p' => (∃ ch, F' = fr F k 0 0 ch) ∧ W' = W ∧ p' = pm
def exR (S : xFm → Prop) (W : xWm) (pm : Nat → Nat) : xFm → xWm → (Nat → Nat) → Prop := fun F' W' p' => S F' ∧ W' = W ∧ p' = pm
theorem rng_of {a b : Nat} {x : Int32} (h : nI a ≤ x ∧ x ≤ nI b) (ha : a < 2 ^ 31) (hb : b + 1 < 2 ^ 31) : ∃ t : Nat, a ≤ t ∧ t ≤ b ∧ x = nI t := by
  obtain ⟨t, h1, h2, h3⟩ := kn_of (a := a) (g := b + 1) (x := x) ⟨h.1, by
    rw [Int32.lt_iff_toInt_lt, nI_toInt (by omega)]
    have := h.2
    rw [Int32.le_iff_toInt_le, nI_toInt (by omega)] at this
    omega⟩ ha hb
  exact ⟨t, h1, by omega, h3⟩
theorem rng0 {b : Nat} {x : Int32} (h : 0 ≤ x ∧ x < nI b) (hb : b < 2 ^ 31) : ∃ t : Nat, t < b ∧ x = nI t := by
  obtain ⟨t, -, h2, h3⟩ := kn_of (a := 0) (g := b) (x := x) ⟨by rw [nI_0]; exact h.1, h.2⟩ (by omega) hb
  exact ⟨t, h2, h3⟩
theorem rng2 {b : Nat} {x : Int32} (h : 0 ≤ x ∧ x ≤ nI b) (hb : b + 1 < 2 ^ 31) : ∃ t : Nat, t ≤ b ∧ x = nI t := by
  obtain ⟨t, -, h2, h3⟩ := rng_of (a := 0) (b := b) (x := x) ⟨by rw [nI_0]; exact h.1, h.2⟩ (by omega) hb
  exact ⟨t, h2, h3⟩
theorem cP_to {V : Nat → Nat → Nat → Prop} {ad : xAd} {F : xFm} {W : xWm} {pm : Nat → Nat} {h h1 : mH} (hR : xR V ad h F W pm h1) : cP V ad (eqR F W pm) h h1 := ⟨F, W, pm, ⟨rfl, rfl, rfl⟩, hR⟩
theorem cP_eq {V : Nat → Nat → Nat → Prop} {ad : xAd} {F : xFm} {W : xWm} {pm : Nat → Nat} {h h1 : mH} (hR : xR V ad h F W pm h) (e : h1 = h) : cP V ad (eqR F W pm) h h1 := by
  subst e
  exact cP_to hR
theorem cP_ch {V : Nat → Nat → Nat → Prop} {ad : xAd} {F : xFm} {W : xWm} {pm : Nat → Nat} {h h1 : mH} {k : Nat} (hR : ∃ ch, xR V ad h (fr F k 0 0 ch) W pm h1) : cP V ad (chR k F W pm) h h1 := by
  obtain ⟨ch, hR⟩ := hR
  exact ⟨_, W, pm, ⟨⟨ch, rfl⟩, rfl, rfl⟩, hR⟩
theorem cP_ex {V : Nat → Nat → Nat → Prop} {ad : xAd} {W : xWm} {pm : Nat → Nat} {h h1 : mH} {S : xFm → Prop} {F' : xFm} (hR : xR V ad h F' W pm h1) (hs : S F') : cP V ad (exR S W pm) h h1 := ⟨_, W, pm, ⟨hs, rfl, rfl⟩, hR⟩
theorem tS_0 {G : xFm} {x : Int32} : tS G x 30 0 0 0 = x := by unfold tS; rw [fr_s, upd_s]
theorem mCon_v {l : Launch} {D : va_G} {aC : Nat → ClassId} {μ : mM} {vs : List Value} {h : mH} {v v' : Int32} {P : mH → Prop} (e : v = v') (hM : mCon l D aC μ vs h (mRi v P)) : mCon l D aC μ vs h (mRi v' P) := e ▸ hM
section
variable {F : xFm} {W : xWm} {pm : Nat → Nat} {G : xFm} {B : xWm} {pm' : Nat → Nat} {q : Nat → Nat} {g N N' rn po bl sv k : Nat}
theorem okE (ht : G 30 0 0 0 = nI k) (H : AllR F W pm G B q g N rn po bl sv) (hN : N ≤ N') : ∀ F' W' pm1 G' B' pm2, eqR F W pm F' W' pm1 → eqR G B pm' G' B' pm2 → G' 30 0 0 0 = nI k ∧ ∃ q g rn po bl sv, AllR F' W' pm1 G' B' q g N' rn po bl sv := by
  intro F' W' pm1 G' B' pm2 h1 h2
  obtain ⟨rfl, rfl, rfl⟩ := h1
  obtain ⟨rfl, rfl, rfl⟩ := h2
  exact ⟨ht, q, g, rn, po, bl, sv, H.up hN⟩
theorem okC (ht : G 30 0 0 0 = nI k) (H : AllR F W pm G B q g N rn po bl sv) (hN : N ≤ N') : ∀ F' W' pm1 G' B' pm2, chR 4 F W pm F' W' pm1 → chR 66 G B pm' G' B' pm2 → G' 30 0 0 0 = nI k ∧ ∃ q g rn po bl sv, AllR F' W' pm1 G' B' q g N' rn po bl sv := by
  intro F' W' pm1 G' B' pm2 h1 h2
  obtain ⟨⟨ch, rfl⟩, rfl, rfl⟩ := h1
  obtain ⟨⟨ch', rfl⟩, rfl, rfl⟩ := h2
  exact ⟨by rw [fr_k (by omega)]; exact ht, q, g, rn, po, bl, sv, (H.row sF.ch sG.ch rfl rfl).up hN⟩
theorem okX {S T : xFm → Prop} (H : ∀ F' G', S F' → T G' → G' 30 0 0 0 = nI k ∧ AllR F' W pm G' B q g N rn po bl sv) (hN : N ≤ N') : ∀ F' W' pm1 G' B' pm2, exR S W pm F' W' pm1 → exR T B pm' G' B' pm2 → G' 30 0 0 0 = nI k ∧ ∃ q g rn po bl sv, AllR F' W' pm1 G' B' q g N' rn po bl sv := by
  intro F' W' pm1 G' B' pm2 h1 h2
  obtain ⟨hs, rfl, rfl⟩ := h1
  obtain ⟨ht, rfl, rfl⟩ := h2
  exact ⟨(H _ _ hs ht).1, q, g, rn, po, bl, sv, (H _ _ hs ht).2.up hN⟩
end
section
variable {l : Launch} {D : va_G} {aC : Nat → ClassId} {ax ay : xAd} {o od N : Nat} {h : mH}
theorem bk_append (A : LwA ax ay o od) (I : LwI ax ay o od N h) (hN : N < 100000) (p : Int32) : BkX l D aC ax ay o od (N + 1) mL_append hhL_append mX6_append [.int p] h := by
  obtain ⟨F, W, pm, G, B, pm', q, g, rn, po, bl, sv, hx, hy, hA, ho⟩ := I
  obtain ⟨h1, h2, h3, h4, h5, h6, h7, h8, h9⟩ := id hA
  have hgb : g < 1000000 := by have := h1.2.2.2.2.1; omega
  have x0 := (hx.1 0 0 0 xV0)
  by_cases e1 : nI 32 ≤ p ∧ p ≤ nI 126
  · obtain ⟨cd, c1, c2, rfl⟩ := rng_of e1 (by omega) (by omega)
    by_cases hb : bl < 40
    · exact BkX.ok A hx hy ho (fun w hM hP => hL_append x0 hM hP) (k_X5_append hx h8.1 h8.2.2 hb c1 c2) (fun u1 z => cP_to z) (fun u1 hy1 => ⟨_, k_X6_append hy1 h8.2.1 h8.2.2 hb c1 c2, fun u2 z => cP_to z⟩) (okE rfl (hA.append hb (by omega)) (by omega))
    · have e : bl = 40 := by omega
      subst e
      exact BkX.no A hx hy ho (k := 2) (by omega) (by omega) (hL_append_x2 x0 (k_X5_append_x2 hx h8.1 c1 c2)) (fun u1 z => cP_eq hx z) (fun u1 hy1 => ⟨_, k_X6_append_x2 hy1 h8.2.1 c1 c2, fun u2 z => cP_to z⟩) (okE tS_0 (hA.row sF.rf sG.t rfl rfl) (by omega))
  · exact BkX.no A hx hy ho (k := 1) (by omega) (by omega) (hL_append_x1 x0 (k_X5_append_x1 hx e1)) (fun u1 z => cP_eq hx z) (fun u1 hy1 => ⟨_, k_X6_append_x1 hy1 e1, fun u2 z => cP_to z⟩) (okE tS_0 (hA.row sF.rf sG.t rfl rfl) (by omega))

theorem bk_removeRule (A : LwA ax ay o od) (I : LwI ax ay o od N h) (hN : N < 100000) (p : Int32) : BkX l D aC ax ay o od (N + 1) mL_removeRule hhL_removeRule mX6_removeRule [.int p] h := by
  obtain ⟨F, W, pm, G, B, pm', q, g, rn, po, bl, sv, hx, hy, hA, ho⟩ := I
  obtain ⟨h1, h2, h3, h4, h5, h6, h7, h8, h9⟩ := id hA
  have hgb : g < 1000000 := by have := h1.2.2.2.2.1; omega
  have x0 := (hx.1 0 0 0 xV0)
  by_cases e1 : 0 ≤ p ∧ p < nI rn
  · obtain ⟨i, hi, rfl⟩ := rng0 e1 (by omega)
    exact BkX.ok A hx hy ho (fun w hM hP => hL_removeRule x0 hM hP) (k_X5_removeRule hx h4.1 h4.2.2 h6.1 hi) (fun u1 z => cP_to z) (fun u1 hy1 => ⟨_, k_X6_removeRule hy1 h4.2.1 h4.2.2 hi, fun u2 z => cP_to z⟩) (okE rfl (hA.rem hi) (by omega))
  · exact BkX.no A hx hy ho (k := 1) (by omega) (by omega) (hL_removeRule_x1 x0 (k_X5_removeRule_x hx h4.1 h4.2.2 e1)) (fun u1 z => cP_eq hx z) (fun u1 hy1 => ⟨_, k_X6_removeRule_x hy1 h4.2.1 h4.2.2 e1, fun u2 z => cP_to z⟩) (okE tS_0 (hA.row sF.rf sG.t rfl rfl) (by omega))

theorem bk_patternOf (A : LwA ax ay o od) (I : LwI ax ay o od N h) (hN : N < 100000) (p : Int32) : BkX l D aC ax ay o od (N + 1) mL_patternOf hhL_patternOf mX6_patternOf [.int p] h := by
  obtain ⟨F, W, pm, G, B, pm', q, g, rn, po, bl, sv, hx, hy, hA, ho⟩ := I
  obtain ⟨h1, h2, h3, h4, h5, h6, h7, h8, h9⟩ := id hA
  have hgb : g < 1000000 := by have := h1.2.2.2.2.1; omega
  have x0 := (hx.1 0 0 0 xV0)
  by_cases e1 : 0 ≤ p ∧ p < nI rn
  · obtain ⟨i, hi, rfl⟩ := rng0 e1 (by omega)
    exact BkX.ok A hx hy ho (fun w hM hP => hL_patternOf x0 hM hP) (k_X5_patternOf hx h4.1 h4.2.2 h6.1 hi) (fun u1 z => cP_eq hx z) (fun u1 hy1 => ⟨_, mCon_v (h5 i hi).1.symm (k_X6_patternOf hy1 h4.2.1 h4.2.2 hi), fun u2 z => cP_to z⟩) (okE (tS_0) (hA.row sF.rf sG.t rfl rfl) (by omega))
  · exact BkX.no A hx hy ho (k := 1) (by omega) (by omega) (hL_patternOf_x1 x0 (k_X5_patternOf_x hx h4.1 h4.2.2 e1)) (fun u1 z => cP_eq hx z) (fun u1 hy1 => ⟨_, k_X6_patternOf_x hy1 h4.2.1 h4.2.2 e1, fun u2 z => cP_to z⟩) (okE tS_0 (hA.row sF.rf sG.t rfl rfl) (by omega))

theorem bk_firings (A : LwA ax ay o od) (I : LwI ax ay o od N h) (hN : N < 100000) (p : Int32) : BkX l D aC ax ay o od (N + 1) mL_firings hhL_firings mX6_firings [.int p] h := by
  obtain ⟨F, W, pm, G, B, pm', q, g, rn, po, bl, sv, hx, hy, hA, ho⟩ := I
  obtain ⟨h1, h2, h3, h4, h5, h6, h7, h8, h9⟩ := id hA
  have hgb : g < 1000000 := by have := h1.2.2.2.2.1; omega
  have x0 := (hx.1 0 0 0 xV0)
  by_cases e1 : 0 ≤ p ∧ p < nI rn
  · obtain ⟨i, hi, rfl⟩ := rng0 e1 (by omega)
    exact BkX.ok A hx hy ho (fun w hM hP => hL_firings x0 hM hP) (k_X5_firings hx h4.1 h4.2.2 hi) (fun u1 z => cP_eq hx z) (fun u1 hy1 => ⟨_, mCon_v (h1.2.2.2.2.2.1 i (by omega)).symm (k_X6_firings hy1 h4.2.1 h4.2.2 hi), fun u2 z => cP_to z⟩) (okE (tS_0) (hA.row sF.rf sG.t rfl rfl) (by omega))
  · exact BkX.no A hx hy ho (k := 1) (by omega) (by omega) (hL_firings_x1 x0 (k_X5_firings_x hx h4.1 h4.2.2 e1)) (fun u1 z => cP_eq hx z) (fun u1 hy1 => ⟨_, k_X6_firings_x hy1 h4.2.1 h4.2.2 e1, fun u2 z => cP_to z⟩) (okE tS_0 (hA.row sF.rf sG.t rfl rfl) (by omega))

theorem bk_setPolicy (A : LwA ax ay o od) (I : LwI ax ay o od N h) (hN : N < 100000) (p : Int32) : BkX l D aC ax ay o od (N + 1) mL_setPolicy hhL_setPolicy mX6_setPolicy [.int p] h := by
  obtain ⟨F, W, pm, G, B, pm', q, g, rn, po, bl, sv, hx, hy, hA, ho⟩ := I
  obtain ⟨h1, h2, h3, h4, h5, h6, h7, h8, h9⟩ := id hA
  have hgb : g < 1000000 := by have := h1.2.2.2.2.1; omega
  have x0 := (hx.1 0 0 0 xV0)
  by_cases e1 : 0 ≤ p ∧ p ≤ nI 2
  · obtain ⟨i, hi, rfl⟩ := rng2 e1 (by omega)
    exact BkX.ok A hx hy ho (fun w hM hP => hL_setPolicy x0 hM hP) (k_X5_setPolicy hx hi) (fun u1 z => cP_to z) (fun u1 hy1 => ⟨_, mCon_v (h7.2.1.trans h7.1.symm) (k_X6_setPolicy hy1 hi), fun u2 z => cP_to z⟩) (okE rfl (hA.policy hi) (by omega))
  · exact BkX.no A hx hy ho (k := 1) (by omega) (by omega) (hL_setPolicy_x1 x0 (k_X5_setPolicy_x hx e1)) (fun u1 z => cP_eq hx z) (fun u1 hy1 => ⟨_, k_X6_setPolicy_x hy1 e1, fun u2 z => cP_to z⟩) (okE tS_0 (hA.row sF.rf sG.t rfl rfl) (by omega))

theorem bk_send (A : LwA ax ay o od) (I : LwI ax ay o od N h) (hN : N < 100000) (p v : Int32) : BkX l D aC ax ay o od (N + 1) mL_send hhL_send mX6_send [.int p, .int v] h := by
  obtain ⟨F, W, pm, G, B, pm', q, g, rn, po, bl, sv, hx, hy, hA, ho⟩ := I
  obtain ⟨h1, h2, h3, h4, h5, h6, h7, h8, h9⟩ := id hA
  have hgb : g < 1000000 := by have := h1.2.2.2.2.1; omega
  have x0 := (hx.1 0 0 0 xV0)
  by_cases e1 : 0 ≤ p ∧ p < nI 8
  · obtain ⟨c, hc, rfl⟩ := rng0 e1 (by omega)
    have hqc := h1.1 c hc
    by_cases e2 : -9999 ≤ v ∧ v ≤ nI 9999
    · by_cases e3 : q c < 8
      · by_cases e4 : c < 4
        · exact BkX.ok A hx hy ho (fun w hM hP => hL_send x0 hM hP) (k_X5_send_s hx e4 hqc.1 hqc.2.1 e3 e2.1 e2.2 h1.2.2.1 hgb) (fun u1 z => cP_to z) (fun u1 hy1 => ⟨_, k_X6_send_s hy1 hc hqc.2.2.1 e3 e2 h1.2.2.2.1 hgb e4, fun u2 z => cP_to z⟩) (okE rfl (hA.sends hc e3 e2) (by omega))
        · exact BkX.ok A hx hy ho (fun w hM hP => hL_send x0 hM hP) (k_X5_send_a hx (by omega) hc hqc.1 hqc.2.1 e3 e2.1 e2.2) (fun u1 z => cP_to z) (fun u1 hy1 => ⟨_, k_X6_send_a hy1 hc hqc.2.2.1 e3 e2 (by omega), fun u2 z => cP_to z⟩) (okE rfl (hA.senda hc e3 e2) (by omega))
      · have e8 : q c = 8 := by have := hqc.2.1; omega
        exact BkX.no A hx hy ho (k := 3) (by omega) (by omega) (hL_send_x3 x0 (k_X5_send_x3 hx hc (by rw [← e8]; exact hqc.1) e2.1 e2.2)) (fun u1 z => cP_eq hx z) (fun u1 hy1 => ⟨_, k_X6_send_x3 hy1 hc (by rw [← e8]; exact hqc.2.2.1) e2, fun u2 z => cP_to z⟩) (okE tS_0 (hA.row sF.rf sG.t rfl rfl) (by omega))
    · exact BkX.no A hx hy ho (k := 2) (by omega) (by omega) (hL_send_x2 x0 (k_X5_send_x2 hx hc e2)) (fun u1 z => cP_eq hx z) (fun u1 hy1 => ⟨_, k_X6_send_x2 hy1 hc e2, fun u2 z => cP_to z⟩) (okE tS_0 (hA.row sF.rf sG.t rfl rfl) (by omega))
  · exact BkX.no A hx hy ho (k := 1) (by omega) (by omega) (hL_send_x1 x0 (k_X5_send_x1 hx e1 v)) (fun u1 z => cP_eq hx z) (fun u1 hy1 => ⟨_, k_X6_send_x1 hy1 e1 v, fun u2 z => cP_to z⟩) (okE tS_0 (hA.row sF.rf sG.t rfl rfl) (by omega))

theorem bk_queueLength (A : LwA ax ay o od) (I : LwI ax ay o od N h) (hN : N < 100000) (p : Int32) : BkX l D aC ax ay o od (N + 1) mL_queueLength hhL_queueLength mX6_queueLength [.int p] h := by
  obtain ⟨F, W, pm, G, B, pm', q, g, rn, po, bl, sv, hx, hy, hA, ho⟩ := I
  obtain ⟨h1, h2, h3, h4, h5, h6, h7, h8, h9⟩ := id hA
  have hgb : g < 1000000 := by have := h1.2.2.2.2.1; omega
  have x0 := (hx.1 0 0 0 xV0)
  by_cases e1 : 0 ≤ p ∧ p < nI 8
  · obtain ⟨c, hc, rfl⟩ := rng0 e1 (by omega)
    have hqc := h1.1 c hc
    exact BkX.ok A hx hy ho (fun w hM hP => hL_queueLength x0 hM hP) (k_X5_queueLength hx hc) (fun u1 z => cP_eq hx z) (fun u1 hy1 => ⟨_, mCon_v (hqc.2.2.1.trans hqc.1.symm) (k_X6_queueLength hy1 hc), fun u2 z => cP_to z⟩) (okE (tS_0) (hA.row sF.rf sG.t rfl rfl) (by omega))
  · exact BkX.no A hx hy ho (k := 1) (by omega) (by omega) (hL_queueLength_x1 x0 (k_X5_queueLength_x hx e1)) (fun u1 z => cP_eq hx z) (fun u1 hy1 => ⟨_, k_X6_queueLength_x hy1 e1, fun u2 z => cP_to z⟩) (okE tS_0 (hA.row sF.rf sG.t rfl rfl) (by omega))

theorem bk_consumed (A : LwA ax ay o od) (I : LwI ax ay o od N h) (hN : N < 100000) (p : Int32) : BkX l D aC ax ay o od (N + 1) mL_consumed hhL_consumed mX6_consumed [.int p] h := by
  obtain ⟨F, W, pm, G, B, pm', q, g, rn, po, bl, sv, hx, hy, hA, ho⟩ := I
  obtain ⟨h1, h2, h3, h4, h5, h6, h7, h8, h9⟩ := id hA
  have hgb : g < 1000000 := by have := h1.2.2.2.2.1; omega
  have x0 := (hx.1 0 0 0 xV0)
  by_cases e1 : 0 ≤ p ∧ p < nI 8
  · obtain ⟨c, hc, rfl⟩ := rng0 e1 (by omega)
    have hqc := h1.1 c hc
    exact BkX.ok A hx hy ho (fun w hM hP => hL_consumed x0 hM hP) (k_X5_consumed hx hc) (fun u1 z => cP_eq hx z) (fun u1 hy1 => ⟨_, mCon_v (hqc.2.2.2.1.symm) (k_X6_consumed hy1 hc), fun u2 z => cP_to z⟩) (okE (tS_0) (hA.row sF.rf sG.t rfl rfl) (by omega))
  · exact BkX.no A hx hy ho (k := 1) (by omega) (by omega) (hL_consumed_x1 x0 (k_X5_consumed_x hx e1)) (fun u1 z => cP_eq hx z) (fun u1 hy1 => ⟨_, k_X6_consumed_x hy1 e1, fun u2 z => cP_to z⟩) (okE tS_0 (hA.row sF.rf sG.t rfl rfl) (by omega))

theorem bk_messageAt (A : LwA ax ay o od) (I : LwI ax ay o od N h) (hN : N < 100000) (p v : Int32) : BkX l D aC ax ay o od (N + 1) mL_messageAt hhL_messageAt mX6_messageAt [.int p, .int v] h := by
  obtain ⟨F, W, pm, G, B, pm', q, g, rn, po, bl, sv, hx, hy, hA, ho⟩ := I
  obtain ⟨h1, h2, h3, h4, h5, h6, h7, h8, h9⟩ := id hA
  have hgb : g < 1000000 := by have := h1.2.2.2.2.1; omega
  have x0 := (hx.1 0 0 0 xV0)
  by_cases e1 : 0 ≤ p ∧ p < nI 8
  · obtain ⟨c, hc, rfl⟩ := rng0 e1 (by omega)
    have hqc := h1.1 c hc
    have q8 := hqc.2.1
    by_cases e2 : 0 ≤ v ∧ v < nI (q c)
    · obtain ⟨i, hi, rfl⟩ := rng0 e2 (by omega)
      exact BkX.ok A hx hy ho (fun w hM hP => hL_messageAt x0 hM hP) (k_X5_messageAt hx hc hqc.1 q8 hi) (fun u1 z => cP_eq hx z) (fun u1 hy1 => ⟨_, mCon_v (hqc.2.2.2.2.2 i hi).1.symm (k_X6_messageAt hy1 hc hqc.2.2.1 q8 hi), fun u2 z => cP_to z⟩) (okE (tS_0) (hA.row sF.rf sG.t rfl rfl) (by omega))
    · exact BkX.no A hx hy ho (k := 1) (by omega) (by omega) (hL_messageAt_x1 x0 (k_X5_messageAt_x2 hx hc hqc.1 q8 e2)) (fun u1 z => cP_eq hx z) (fun u1 hy1 => ⟨_, k_X6_messageAt_x2 hy1 hc hqc.2.2.1 q8 e2, fun u2 z => cP_to z⟩) (okE tS_0 (hA.row sF.rf sG.t rfl rfl) (by omega))
  · exact BkX.no A hx hy ho (k := 1) (by omega) (by omega) (hL_messageAt_x1 x0 (k_X5_messageAt_x1 hx e1 v)) (fun u1 z => cP_eq hx z) (fun u1 hy1 => ⟨_, k_X6_messageAt_x1 hy1 e1 v, fun u2 z => cP_to z⟩) (okE tS_0 (hA.row sF.rf sG.t rfl rfl) (by omega))

theorem bk_matchOf (A : LwA ax ay o od) (I : LwI ax ay o od N h) (hN : N < 100000) (p v : Int32) : BkX l D aC ax ay o od (N + 1) mL_matchOf hhL_matchOf mX6_matchOf [.int p, .int v] h := by
  obtain ⟨F, W, pm, G, B, pm', q, g, rn, po, bl, sv, hx, hy, hA, ho⟩ := I
  obtain ⟨h1, h2, h3, h4, h5, h6, h7, h8, h9⟩ := id hA
  have hgb : g < 1000000 := by have := h1.2.2.2.2.1; omega
  have x0 := (hx.1 0 0 0 xV0)
  by_cases e1 : 0 ≤ p ∧ p < nI rn
  · obtain ⟨i, hi, rfl⟩ := rng0 e1 (by omega)
    by_cases e2 : (0 ≤ v ∧ v < nI 8) ∧ usP (F 17 (pm i) 0 0) v
    · obtain ⟨c, hc, rfl⟩ := rng0 e2.1 (by omega)
      have hu : usP (G 34 0 0 i) (nI c) := by rw [← (h5 i hi).1]; exact e2.2
      have em : mtM (mtC F q pm) i c = mtR F q (pm i) c := by
        unfold mtM mtR mtC
        cases hf : fmF F q (pm i) with
        | none => rfl
        | some z => exact chs_N.symm
      exact BkX.ok A hx hy ho (fun w hM hP => hL_matchOf x0 hM hP) (k_X5_matchOf hx h4.1 h4.2.2 h6.1 h1.hq hA.rw hi hc e2.2) (fun u1 z => cP_ch z) (fun u1 hy1 => ⟨_, mCon_v em (k_X6_matchOf hy1 h4.2.1 h4.2.2 h1.hqM hA.rm hi hc hu), fun u2 z => cP_ch z⟩) (okC (tS_0) (hA.row sF.rf sG.t rfl rfl) (by omega))
    · exact BkX.no A hx hy ho (k := 2) (by omega) (by omega) (hL_matchOf_x2 x0 (k_X5_matchOf_x2 hx h4.1 h4.2.2 h6.1 hi e2)) (fun u1 z => cP_eq hx z) (fun u1 hy1 => ⟨_, k_X6_matchOf_x2 hy1 h4.2.1 h4.2.2 hi (by rw [← (h5 i hi).1]; exact e2), fun u2 z => cP_to z⟩) (okE tS_0 (hA.row sF.rf sG.t rfl rfl) (by omega))
  · exact BkX.no A hx hy ho (k := 1) (by omega) (by omega) (hL_matchOf_x1 x0 (k_X5_matchOf_x1 hx h4.1 h4.2.2 e1 v)) (fun u1 z => cP_eq hx z) (fun u1 hy1 => ⟨_, k_X6_matchOf_x1 hy1 h4.2.1 h4.2.2 e1 v, fun u2 z => cP_to z⟩) (okE tS_0 (hA.row sF.rf sG.t rfl rfl) (by omega))

theorem bk_ticketState (A : LwA ax ay o od) (I : LwI ax ay o od N h) (hN : N < 100000) (p : Int32) : BkX l D aC ax ay o od (N + 1) mL_ticketState hhL_ticketState mX6_ticketState [.int p] h := by
  obtain ⟨F, W, pm, G, B, pm', q, g, rn, po, bl, sv, hx, hy, hA, ho⟩ := I
  obtain ⟨h1, h2, h3, h4, h5, h6, h7, h8, h9⟩ := id hA
  have hgb : g < 1000000 := by have := h1.2.2.2.2.1; omega
  have x0 := (hx.1 0 0 0 xV0)
  by_cases e1 : nI (g - 24) ≤ p ∧ p < nI g
  · obtain ⟨t, t1, t2, rfl⟩ := kn_of e1 (by omega) (by omega)
    have ht := h1.2.1 (t % 24) (Nat.mod_lt _ (by omega))
    exact BkX.ok A hx hy ho (fun w hM hP => hL_ticketState x0 hM hP) (k_X5_ticketState hx h1.2.2.1 hgb t1 t2) (fun u1 z => cP_eq hx z) (fun u1 hy1 => ⟨_, mCon_v ht.1.symm (k_X6_ticketState hy1 h1.2.2.2.1 hgb t1 t2), fun u2 z => cP_to z⟩) (okE (tS_0) (hA.row sF.rf sG.t rfl rfl) (by omega))
  · exact BkX.no A hx hy ho (k := 1) (by omega) (by omega) (hL_ticketState_x1 x0 (k_X5_ticketState_x hx h1.2.2.1 hgb e1)) (fun u1 z => cP_eq hx z) (fun u1 hy1 => ⟨_, k_X6_ticketState_x hy1 h1.2.2.2.1 hgb e1, fun u2 z => cP_to z⟩) (okE tS_0 (hA.row sF.rf sG.t rfl rfl) (by omega))

theorem bk_replyOf (A : LwA ax ay o od) (I : LwI ax ay o od N h) (hN : N < 100000) (p : Int32) : BkX l D aC ax ay o od (N + 1) mL_replyOf hhL_replyOf mX6_replyOf [.int p] h := by
  obtain ⟨F, W, pm, G, B, pm', q, g, rn, po, bl, sv, hx, hy, hA, ho⟩ := I
  obtain ⟨h1, h2, h3, h4, h5, h6, h7, h8, h9⟩ := id hA
  have hgb : g < 1000000 := by have := h1.2.2.2.2.1; omega
  have x0 := (hx.1 0 0 0 xV0)
  by_cases e1 : nI (g - 24) ≤ p ∧ p < nI g
  · obtain ⟨t, t1, t2, rfl⟩ := kn_of e1 (by omega) (by omega)
    have ht := h1.2.1 (t % 24) (Nat.mod_lt _ (by omega))
    by_cases ea : G 50 0 0 (t % 24) = nI 1
    · exact BkX.ok A hx hy ho (fun w hM hP => hL_replyOf x0 hM hP) (k_X5_replyOf hx h1.2.2.1 hgb t1 t2 (ht.1.trans ea)) (fun u1 z => cP_eq hx z) (fun u1 hy1 => ⟨_, mCon_v (ht.2 ea).symm (k_X6_replyOf hy1 h1.2.2.2.1 hgb t1 t2 ea), fun u2 z => cP_to z⟩) (okE (tS_0) (hA.row sF.rf sG.t rfl rfl) (by omega))
    · exact BkX.no A hx hy ho (k := 2) (by omega) (by omega) (hL_replyOf_x2 x0 (k_X5_replyOf_x2 hx h1.2.2.1 hgb t1 t2 (by rw [ht.1]; exact ea))) (fun u1 z => cP_eq hx z) (fun u1 hy1 => ⟨_, k_X6_replyOf_x2 hy1 h1.2.2.2.1 hgb t1 t2 ea, fun u2 z => cP_to z⟩) (okE tS_0 (hA.row sF.rf sG.t rfl rfl) (by omega))
  · exact BkX.no A hx hy ho (k := 1) (by omega) (by omega) (hL_replyOf_x1 x0 (k_X5_replyOf_x1 hx h1.2.2.1 hgb e1)) (fun u1 z => cP_eq hx z) (fun u1 hy1 => ⟨_, k_X6_replyOf_x1 hy1 h1.2.2.2.1 hgb e1, fun u2 z => cP_to z⟩) (okE tS_0 (hA.row sF.rf sG.t rfl rfl) (by omega))

theorem bk_restore (A : LwA ax ay o od) (I : LwI ax ay o od N h) (hN : N < 100000) : BkX l D aC ax ay o od (N + 1) mL_restore hhL_restore mX6_restore [] h := by
  obtain ⟨F, W, pm, G, B, pm', q, g, rn, po, bl, sv, hx, hy, hA, ho⟩ := I
  obtain ⟨h1, h2, h3, h4, h5, h6, h7, h8, h9⟩ := id hA
  have hgb : g < 1000000 := by have := h1.2.2.2.2.1; omega
  have x0 := (hx.1 0 0 0 xV0)
  by_cases e1 : sv = 1
  · obtain ⟨q', g', ev, hall⟩ := hA.restore e1
    subst e1
    exact BkX.ok A hx hy ho (fun w hM hP => hL_restore x0 hM hP) (k_X5_restore hx h3.1) (fun u1 z => cP_to z) (fun u1 hy1 => ⟨_, mCon_v ev.symm (k_X6_restore hy1 h3.2.1), fun u2 z => cP_to z⟩) (okE rfl (hall) (by omega))
  · have e0 : sv = 0 := by have := h3.2.2; omega
    subst e0
    exact BkX.no A hx hy ho (k := 1) (by omega) (by omega) (hL_restore_x1 x0 (k_X5_restore_x hx h3.1)) (fun u1 z => cP_eq hx z) (fun u1 hy1 => ⟨_, k_X6_restore_x hy1 h3.2.1, fun u2 z => cP_to z⟩) (okE tS_0 (hA.row sF.rf sG.t rfl rfl) (by omega))

/-- the buffer's codes -/
def csF (F : xFm) (bl i : Nat) : Nat := if i < bl then (F 1 0 0 i).toNatClampNeg else 0
theorem csF_of {F G : xFm} {bl : Nat} (h : ∀ i, i < bl → F 1 0 0 i = G 32 0 0 i ∧ ∃ cd, F 1 0 0 i = nI cd ∧ cd < 1000) : (∀ i, csF F bl i < 1000) ∧ ∀ i, i < bl → (F 1 0 0 i = nI (csF F bl i) ∧ csF F bl i < 1000) ∧ G 32 0 0 i = nI (csF F bl i) ∧ csF F bl i < 1000 := by
  have key : ∀ i, i < bl → F 1 0 0 i = nI (csF F bl i) ∧ csF F bl i < 1000 := fun i hi => by
    obtain ⟨-, cd, e1, e2⟩ := h i hi
    unfold csF
    rw [if_pos hi, e1, nI_clamp (by omega)]
    exact ⟨rfl, e2⟩
  refine ⟨fun i => ?_, fun i hi => ⟨key i hi, (h i hi).1.symm.trans (key i hi).1, (key i hi).2⟩⟩
  by_cases hi : i < bl
  · exact (key i hi).2
  · unfold csF
    rw [if_neg hi]
    omega
theorem bk_addRule (A : LwA ax ay o od) (I : LwI ax ay o od N h) (hN : N < 100000) : BkX l D aC ax ay o od (N + 1) mL_addRule hhL_addRule mX6_addRule [] h := by
  obtain ⟨F, W, pm, G, B, pm', q, g, rn, po, bl, sv, hx, hy, hA, ho⟩ := I
  obtain ⟨h1, h2, h3, h4, h5, h6, h7, h8, h9⟩ := id hA
  have hgb : g < 1000000 := by have := h1.2.2.2.2.1; omega
  have x0 := (hx.1 0 0 0 xV0)
  obtain ⟨cs1, cs2⟩ := csF_of h9
  have hcx : ∀ i, i < bl → F 1 0 0 i = nI (csF F bl i) ∧ csF F bl i < 1000 := fun i hi => (cs2 i hi).1
  have hcy : ∀ i, i < bl → G 32 0 0 i = nI (csF F bl i) ∧ csF F bl i < 1000 := fun i hi => (cs2 i hi).2
  obtain ⟨r1, r2⟩ := rd_R (r := pm 8) cs1 bl 0 _ _ (PsR_0 (F := F) (G := G))
  have hsF : sF F (rdF (pm 8) (csF F bl) bl 0 (xGo (xCl F (pm 8)) (nI 0))).2 (pm 8) := sF.rd (rdF_p sRw_0)
  have hpO : pO G (rdM (csF F bl) bl 0 (m0 G)).2 := rdM_p m0_O
  have hw : woM (rdM (csF F bl) bl 0 (m0 G)) bl = if (rdM (csF F bl) bl 0 (m0 G)).1 = bl then woE (rdM (csF F bl) bl 0 (m0 G)).2 else none := rfl
  have hbad : ¬ ((rdF (pm 8) (csF F bl) bl 0 (xGo (xCl F (pm 8)) (nI 0))).1 = bl ∧ (pC (rdF (pm 8) (csF F bl) bl 0 (xGo (xCl F (pm 8)) (nI 0))).2 = 5 ∨ pC (rdF (pm 8) (csF F bl) bl 0 (xGo (xCl F (pm 8)) (nI 0))).2 = 10)) → woM (rdM (csF F bl) bl 0 (m0 G)) bl = none → BkX l D aC ax ay o od (N + 1) mL_addRule hhL_addRule mX6_addRule [] h := by
    intro z1 z2
    refine BkX.no A hx hy ho (k := 1) (RY := exR (fun G' => ∃ G2, G' = tS G2 (nI 1) ∧ pO G G2) B pm') (RX := exR (fun F' => sF F F' (pm 8)) W pm) (by omega) (by omega) (hL_addRule_x1 x0 (k_X5_addRule_x1 hx h8.1 h8.2.2 hcx h4.1 h4.2.2 h6.1 rfl z1)) (fun u1 z => cP_ex z hsF) (fun u1 hy1 => ⟨_, k_X6_addRule_x1 hy1 h8.2.1 h8.2.2 hcy rfl z2, fun u2 z => ?_⟩) (okX (N := N) (q := q) (g := g) (rn := rn) (po := po) (bl := bl) (sv := sv) (fun F' G' s t => ?_) (by omega))
    · obtain ⟨G2, z3, z4⟩ := z
      exact cP_ex z3 ⟨G2, rfl, z4⟩
    · obtain ⟨G2, rfl, z4⟩ := t
      exact ⟨tS_0, hA.row s ((sG.p z4).tr sG.t) rfl rfl⟩
  by_cases e1 : (rdF (pm 8) (csF F bl) bl 0 (xGo (xCl F (pm 8)) (nI 0))).1 = bl
  · rcases r2.ps with ⟨c1, m, m4, w1, -⟩ | ⟨c1, w1⟩
    · have hw2 : woM (rdM (csF F bl) bl 0 (m0 G)) bl = some m := by rw [hw, if_pos (r1.symm.trans e1)]; exact w1
      have hall := hA.row hsF (sG.p hpO) rfl rfl
      by_cases e2 : rn < 8
      · exact BkX.ok A hx hy ho (fun w hM hP => hL_addRule x0 hM hP) (k_X5_addRule hx h8.1 h8.2.2 hcx h4.1 h4.2.2 h6.1 rfl e1 c1 e2) (fun u1 z => cP_to z) (fun u1 hy1 => ⟨_, k_X6_addRule hy1 h8.2.1 h8.2.2 hcy rfl h4.2.1 e2 m4 hw2, fun u2 z => cP_to z⟩) (okE rfl (hall.add e2 r2 c1 w1) (by omega))
      · have e8 : rn = 8 := by omega
        subst e8
        refine BkX.no A hx hy ho (k := 2) (RY := exR (fun G' => ∃ G2, G' = tS G2 (nI 2) ∧ pO G G2) B pm') (RX := exR (fun F' => sF F F' (pm 8)) W pm) (by omega) (by omega) (hL_addRule_x2 x0 (k_X5_addRule_x2 hx h8.1 h8.2.2 hcx h4.1 h4.2.2 h6.1 rfl e1 c1 rfl)) (fun u1 z => cP_ex z hsF) (fun u1 hy1 => ⟨_, k_X6_addRule_x2 hy1 h8.2.1 h8.2.2 hcy rfl h4.2.1 m4 hw2, fun u2 z => ?_⟩) (okX (N := N) (q := q) (g := g) (rn := 8) (po := po) (bl := bl) (sv := sv) (fun F' G' s t => ?_) (by omega))
        · obtain ⟨G2, z3, z4⟩ := z
          exact cP_ex z3 ⟨G2, rfl, z4⟩
        · obtain ⟨G2, rfl, z4⟩ := t
          exact ⟨tS_0, hA.row s ((sG.p z4).tr sG.t) rfl rfl⟩
    · exact hbad (fun z => c1 z.2) (by rw [hw, if_pos (r1.symm.trans e1)]; exact w1)
  · exact hbad (fun z => e1 z.1) (by rw [hw, if_neg (fun z => e1 (r1.trans z))])

theorem okN {RX RY : xFm → xWm → (Nat → Nat) → Prop} {k N' : Nat} (H : ∀ F' W' pm1 G' B' pm2, RX F' W' pm1 → RY G' B' pm2 → G' 30 0 0 0 = nI k ∧ ∃ q g rn po bl sv, AllR F' W' pm1 G' B' q g N' rn po bl sv) : ∀ F' W' pm1 G' B' pm2, RX F' W' pm1 → RY G' B' pm2 → ∃ q g rn po bl sv, AllR F' W' pm1 G' B' q g N' rn po bl sv := fun _ _ _ _ _ _ a b => (H _ _ _ _ _ _ a b).2
theorem bk_clearBuffer (A : LwA ax ay o od) (I : LwI ax ay o od N h) (hN : N < 100000) : ∃ v, BkN l D aC ax ay o od (N + 1) mX5_clearBuffer mX6_clearBuffer (.int v) h := by
  obtain ⟨F, W, pm, G, B, pm', q, g, rn, po, bl, sv, hx, hy, hA, ho⟩ := I
  obtain ⟨h1, h2, h3, h4, h5, h6, h7, h8, h9⟩ := id hA
  have hgb : g < 1000000 := by have := h1.2.2.2.2.1; omega
  have x0 := (hx.1 0 0 0 xV0)
  exact ⟨_, BkN.of A hx hy ho (k_X5_clearBuffer hx) (fun u1 z => cP_to z) (fun u1 hy1 => ⟨_, mCon_v (h8.2.1.trans h8.1.symm) (k_X6_clearBuffer hy1), fun u2 z => cP_to z⟩) (okN (okE rfl (hA.clear) (by omega)))⟩

theorem bk_ruleCount (A : LwA ax ay o od) (I : LwI ax ay o od N h) (hN : N < 100000) : ∃ v, BkN l D aC ax ay o od (N + 1) mX5_ruleCount mX6_ruleCount (.int v) h := by
  obtain ⟨F, W, pm, G, B, pm', q, g, rn, po, bl, sv, hx, hy, hA, ho⟩ := I
  obtain ⟨h1, h2, h3, h4, h5, h6, h7, h8, h9⟩ := id hA
  have hgb : g < 1000000 := by have := h1.2.2.2.2.1; omega
  have x0 := (hx.1 0 0 0 xV0)
  exact ⟨_, BkN.of A hx hy ho (k_X5_ruleCount hx) (fun u1 z => cP_eq hx z) (fun u1 hy1 => ⟨_, mCon_v (h4.2.1.trans h4.1.symm) (k_X6_ruleCount hy1), fun u2 z => cP_to z⟩) (okN (okE (tS_0) (hA.row sF.rf sG.t rfl rfl) (by omega)))⟩

theorem bk_waitingChannels (A : LwA ax ay o od) (I : LwI ax ay o od N h) (hN : N < 100000) : ∃ v, BkN l D aC ax ay o od (N + 1) mX5_waitingChannels mX6_waitingChannels (.int v) h := by
  obtain ⟨F, W, pm, G, B, pm', q, g, rn, po, bl, sv, hx, hy, hA, ho⟩ := I
  obtain ⟨h1, h2, h3, h4, h5, h6, h7, h8, h9⟩ := id hA
  have hgb : g < 1000000 := by have := h1.2.2.2.2.1; omega
  have x0 := (hx.1 0 0 0 xV0)
  exact ⟨_, BkN.of A hx hy ho (k_X5_waitingChannels hx h1.hq) (fun u1 z => cP_eq hx z) (fun u1 hy1 => ⟨_, k_X6_waitingChannels hy1 h1.hqM, fun u2 z => cP_to z⟩) (okN (okE (tS_0) (hA.row sF.rf sG.t rfl rfl) (by omega)))⟩

theorem bk_readyRules (A : LwA ax ay o od) (I : LwI ax ay o od N h) (hN : N < 100000) : ∃ v, BkN l D aC ax ay o od (N + 1) mX5_readyRules mX6_readyRules (.int v) h := by
  obtain ⟨F, W, pm, G, B, pm', q, g, rn, po, bl, sv, hx, hy, hA, ho⟩ := I
  obtain ⟨h1, h2, h3, h4, h5, h6, h7, h8, h9⟩ := id hA
  have hgb : g < 1000000 := by have := h1.2.2.2.2.1; omega
  have x0 := (hx.1 0 0 0 xV0)
  exact ⟨_, BkN.of A hx hy ho (k_X5_readyRules hx h4.1 h4.2.2 h6.1 h1.hq) (fun u1 z => cP_eq hx z) (fun u1 hy1 => ⟨_, mCon_v hA.rd.symm (k_X6_readyRules hy1 h4.2.1 h4.2.2 h1.hqM), fun u2 z => cP_to z⟩) (okN (okE (tS_0) (hA.row sF.rf sG.t rfl rfl) (by omega)))⟩

theorem bk_enabledRules (A : LwA ax ay o od) (I : LwI ax ay o od N h) (hN : N < 100000) : ∃ v, BkN l D aC ax ay o od (N + 1) mX5_enabledRules mX6_enabledRules (.int v) h := by
  obtain ⟨F, W, pm, G, B, pm', q, g, rn, po, bl, sv, hx, hy, hA, ho⟩ := I
  obtain ⟨h1, h2, h3, h4, h5, h6, h7, h8, h9⟩ := id hA
  have hgb : g < 1000000 := by have := h1.2.2.2.2.1; omega
  have x0 := (hx.1 0 0 0 xV0)
  exact ⟨_, BkN.of A hx hy ho (k_X5_enabledRules hx h4.1 h4.2.2 h6.1 h1.hq hA.rw (fun _ _ => rdy_all)) (fun u1 z => cP_ch z) (fun u1 hy1 => ⟨_, mCon_v hA.en.symm (k_X6_enabledRules hy1 h4.2.1 h4.2.2 h1.hqM hA.rm), fun u2 z => cP_ch z⟩) (okN (okC (tS_0) (hA.row sF.rf sG.t rfl rfl) (by omega)))⟩

theorem bk_nextRule (A : LwA ax ay o od) (I : LwI ax ay o od N h) (hN : N < 100000) : ∃ v, BkN l D aC ax ay o od (N + 1) mX5_nextRule mX6_nextRule (.int v) h := by
  obtain ⟨F, W, pm, G, B, pm', q, g, rn, po, bl, sv, hx, hy, hA, ho⟩ := I
  obtain ⟨h1, h2, h3, h4, h5, h6, h7, h8, h9⟩ := id hA
  have hgb : g < 1000000 := by have := h1.2.2.2.2.1; omega
  have x0 := (hx.1 0 0 0 xV0)
  obtain ⟨z, z8, hz⟩ := h1.2.2.2.2.2.2.2.2
  have hzx : F 7 0 0 4 + nI 1 = nI z := by rw [h1.2.2.2.2.2.2.2.1]; exact hz
  exact ⟨_, BkN.of A hx hy ho (k_X5_nextRule hx h4.1 h4.2.2 h6.1 h1.hq hA.rw (fun _ _ => rdy_all) h7.1 h7.2.2 hzx z8 rfl) (fun u1 z => cP_ch z) (fun u1 hy1 => ⟨_, mCon_v (congrArg opI hA.nx.symm) (k_X6_nextRule hy1 h4.2.1 h4.2.2 h1.hqM hA.rm h7.2.1 h7.2.2 hz z8 rfl), fun u2 z => cP_ch z⟩) (okN (okC (tS_0) (hA.row sF.rf sG.t rfl rfl) (by omega)))⟩

theorem bk_isStuck (A : LwA ax ay o od) (I : LwI ax ay o od N h) (hN : N < 100000) : ∃ v, BkN l D aC ax ay o od (N + 1) mX5_isStuck mX6_isStuck (.int v) h := by
  obtain ⟨F, W, pm, G, B, pm', q, g, rn, po, bl, sv, hx, hy, hA, ho⟩ := I
  obtain ⟨h1, h2, h3, h4, h5, h6, h7, h8, h9⟩ := id hA
  have hgb : g < 1000000 := by have := h1.2.2.2.2.1; omega
  have x0 := (hx.1 0 0 0 xV0)
  exact ⟨_, BkN.of A hx hy ho (k_X5_isStuck hx h4.1 h4.2.2 h6.1 h1.hq hA.rw (fun _ _ => rdy_all)) (fun u1 z => cP_ch z) (fun u1 hy1 => ⟨_, mCon_v (by rw [hA.en]) (k_X6_isStuck hy1 h4.2.1 h4.2.2 h1.hqM hA.rm), fun u2 z => cP_ch z⟩) (okN (okC (tS_0) (hA.row sF.rf sG.t rfl rfl) (by omega)))⟩

theorem bk_clock (A : LwA ax ay o od) (I : LwI ax ay o od N h) (hN : N < 100000) : ∃ v, BkN l D aC ax ay o od (N + 1) mX5_clock mX6_clock (.int v) h := by
  obtain ⟨F, W, pm, G, B, pm', q, g, rn, po, bl, sv, hx, hy, hA, ho⟩ := I
  obtain ⟨h1, h2, h3, h4, h5, h6, h7, h8, h9⟩ := id hA
  have hgb : g < 1000000 := by have := h1.2.2.2.2.1; omega
  have x0 := (hx.1 0 0 0 xV0)
  exact ⟨_, BkN.of A hx hy ho (k_X5_clock hx) (fun u1 z => cP_eq hx z) (fun u1 hy1 => ⟨_, mCon_v h1.2.2.2.2.2.2.1.symm (k_X6_clock hy1), fun u2 z => cP_to z⟩) (okN (okE (tS_0) (hA.row sF.rf sG.t rfl rfl) (by omega)))⟩

theorem bk_save (A : LwA ax ay o od) (I : LwI ax ay o od N h) (hN : N < 100000) : ∃ v, BkN l D aC ax ay o od (N + 1) mX5_save mX6_save (.int v) h := by
  obtain ⟨F, W, pm, G, B, pm', q, g, rn, po, bl, sv, hx, hy, hA, ho⟩ := I
  obtain ⟨h1, h2, h3, h4, h5, h6, h7, h8, h9⟩ := id hA
  have hgb : g < 1000000 := by have := h1.2.2.2.2.1; omega
  have x0 := (hx.1 0 0 0 xV0)
  exact ⟨_, BkN.of A hx hy ho (k_X5_save hx) (fun u1 z => cP_to z) (fun u1 hy1 => ⟨_, mCon_v hA.save.1.symm (k_X6_save hy1), fun u2 z => cP_to z⟩) (okN (okE rfl (hA.save.2) (by omega)))⟩

end
