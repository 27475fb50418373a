theorem mCon.mono {l : Launch} {D : va_G} {aC : Nat → ClassId} {μ : mM} {vs : List Value} {h : mH} {Q Q' : Option Value → mH → Prop} (hM : mCon l D aC μ vs h Q) (hq : ∀ r h', Q r h' → Q' r h') : mCon l D aC μ vs h Q' := by
  intro w sz hs p e ha hc hk s m args below hf hap hP hK
  obtain ⟨n, o, a1, a2, a3, ⟨⟨r, h', e1, q, x⟩, y⟩⟩ := hM w sz hs p e ha hc hk s m args below hf hap hP hK
  exact ⟨n, o, a1, a2, a3, ⟨r, h', e1, hq _ _ q, x⟩, y⟩
theorem mCon_l {l : Launch} {D : va_G} {aC : Nat → ClassId} {μ : mM} {vs : List Value} {h : mH} {v v' : Int64} {P : mH → Prop} (e : v = v') (hM : mCon l D aC μ vs h (mRl v P)) : mCon l D aC μ vs h (mRl v' P) := e ▸ hM
section
variable {F : xFm} {W : xWm} {pm : Nat → Nat} {G : xFm} {B : xWm} {q : Nat → Nat} {g N rn po bl sv : Nat}
/-- the rule that is next can fire -/
theorem AllR.go (h : AllR F W pm G B q g N rn po bl sv) {k : Nat} (hk : k < rn) (hen : enF F q (pm k) = true) : ∃ i j cn, fmF F q (pm k) = some (i, j) ∧ cn = chN (gL F (pm k)) (gR F (pm k)) i j ∧ mtC F q pm k = some cn ∧ oC F (pm k) = omM G k ∧ (∀ c, c < 8 → usP (F 17 (pm k) 0 0) (nI c) → cn c < q c) ∧ (∀ (ch : Nat → Int32), (∀ c, c < 8 → ch c = nI (cn c)) → ∀ o, o < oC F (pm k) → coOk (coN (pm k) g o (tkN cn q g (pm k) (feF F ch k, W) 8).1) (pm k) g o) ∧ (∀ (ch : Nat → Int32) (o : Nat), o ≤ oC F (pm k) → coN (pm k) g o (tkN cn q g (pm k) (feF F ch k, W) 8).1 (17) (pm k) 0 5 = nI (oC F (pm k))) ∧ (∀ (ch : Nat → Int32), (∀ c, c < 8 → ch c = nI (cn c)) → ∀ o, o < omM G k → moOk (moN k g o (mcN cn q g k (mF0 (tS G (nI 0)) ch, B) 8).1) k g o) := by
  have hs : (fmF F q (pm k)).isSome = true := (Bool.and_eq_true_iff.mp hen).1
  obtain ⟨ij, hij⟩ := Option.isSome_iff_exists.mp hs
  obtain ⟨i, j⟩ := ij
  have rn8 := h.2.2.2.1.2.2
  have hmt : mtC F q pm k = some (chN (gL F (pm k)) (gR F (pm k)) i j) := by unfold mtC; rw [hij]; rfl
  have fR := fun ch ch' => fire_R h.1 (h.2.2.2.2.1 k hk) (by omega) hmt hen ch ch'
  have om3 := (h.2.2.2.2.1 k hk).om.2.2
  refine ⟨i, j, _, hij, rfl, hmt, om3, (fR (fun _ => 0) (fun _ => 0)).2.2, fun ch _ o ho => ((fR ch (fun _ => 0)).2.1 o ho).1, fun ch o _ => ?_, fun ch _ o ho => ((fR (fun _ => 0) ch).2.1 o (by omega)).2⟩
  rw [coN_n (by omega) (by omega), (tkN_n (by omega) (by omega) (by omega) 8).1]
  dsimp only
  rw [feF_o (by omega) (by omega) (by omega)]
  exact (h.rw k hk).2.2.2.2.1
theorem AllR.nxin (h : AllR F W pm G B q g N rn po bl sv) {s0 k : Nat} (hnx : nxL (fun i => enF F q (pm i)) (F 12 0 0) po rn s0 rn 0 none = some k) : k < rn ∧ enF F q (pm k) = true := by
  by_cases h0 : 0 < rn
  · exact nxL_in h0 rn 0 none (fun k hk => by cases hk) k hnx
  · have e : rn = 0 := by omega
    subst e
    cases hnx
end
def fiX (F : xFm) (W : xWm) (pm q : Nat → Nat) (g k : Nat) (cn : Nat → Nat) : xFm → xWm → (Nat → Nat) → Prop := fun F' W' p' => (∃ ch, F' = coN (pm k) g (oC F (pm k)) (tkN cn q g (pm k) (feF F ch k, W) 8).1 ∧ W' = (tkN cn q g (pm k) (feF F ch k, W) 8).2) ∧ p' = pm
def fiY (G : xFm) (B : xWm) (pm' q : Nat → Nat) (g k : Nat) (cn : Nat → Nat) : xFm → xWm → (Nat → Nat) → Prop := fun G' B' p' => (∃ ch, G' = mEnd (moN k g (omM G k) (mcN cn q g k (mF0 (tS G (nI 0)) ch, B) 8).1) k ∧ B' = (mcN cn q g k (mF0 (tS G (nI 0)) ch, B) 8).2) ∧ p' = pm'
theorem mEnd_0 {G : xFm} {B : xWm} {cn q : Nat → Nat} {g k m : Nat} {ch : Nat → Int32} : mEnd (moN k g m (mcN cn q g k (mF0 (tS G (nI 0)) ch, B) 8).1) k 30 0 0 0 = nI 0 := by
  unfold mEnd
  rw [fr_s, upd_n (by omega), moN_fix (by omega) (by omega) (by omega) (by omega) (by omega) (by omega), mcN_fix (by omega) (by omega) (by omega) (by omega) (by omega) (by omega) (by omega) (by omega) (by omega)]
  unfold mF0
  dsimp only
  rw [fr_s, upd_n (by omega), tS_0]
theorem okF {F : xFm} {W : xWm} {pm : Nat → Nat} {G : xFm} {B : xWm} {pm' : Nat → Nat} {q : Nat → Nat} {g N N' rn po bl sv k : Nat} {cn : Nat → Nat} (h : AllR F W pm G B q g N rn po bl sv) (hk : k < rn) (hmt : mtC F q pm k = some cn) (hen : enF F q (pm k) = true) (hN : N ≤ N') : ∀ F' W' pm1 G' B' pm2, fiX F W pm q g k cn F' W' pm1 → fiY G B pm' q g k cn G' B' pm2 → G' 30 0 0 0 = nI 0 ∧ ∃ q g rn po bl sv, AllR F' W' pm1 G' B' q g N' rn po bl sv := by
  intro F' W' pm1 G' B' pm2 h1 h2
  obtain ⟨⟨ch, rfl, rfl⟩, rfl⟩ := h1
  obtain ⟨⟨ch', rfl, rfl⟩, rfl⟩ := h2
  exact ⟨mEnd_0, _, _, _, _, _, _, (h.fire hk hmt hen ch ch').up hN⟩
section
variable {l : Launch} {D : va_G} {aC : Nat → ClassId} {ax ay : xAd} {o od N : Nat} {h : mH}
theorem bk_firstError (A : LwA ax ay o od) (I : LwI ax ay o od N h) (hN : N < 100000) : ∃ v, BkN l D aC ax ay o od (N + 1) mX5_firstError mX6_firstError (.int v) h := by
  obtain ⟨F, W, pm, G, B, pm', q, g, rn, po, bl, sv, hx, hy, hA, ho⟩ := I
  obtain ⟨h1, h2, h3, h4, h5, h6, h7, h8, h9⟩ := id hA
  have hgb : g < 1000000 := by have := h1.2.2.2.2.1; omega
  have x0 := (hx.1 0 0 0 xV0)
  obtain ⟨cs1, cs2⟩ := csF_of h9
  have hcx : ∀ i, i < bl → F 1 0 0 i = nI (csF F bl i) ∧ csF F bl i < 1000 := fun i hi => (cs2 i hi).1
  have hcy : ∀ i, i < bl → G 32 0 0 i = nI (csF F bl i) ∧ csF F bl i < 1000 := fun i hi => (cs2 i hi).2
  obtain ⟨r1, r2⟩ := rd_R (r := pm 8) cs1 bl 0 _ _ (PsR_0 (F := F) (G := tS G (nI 0)))
  have hsF : sF F (rdF (pm 8) (csF F bl) bl 0 (xGo (xCl F (pm 8)) (nI 0))).2 (pm 8) := sF.rd (rdF_p sRw_0)
  refine ⟨_, BkN.of A hx hy ho (RX := exR (fun F' => sF F F' (pm 8)) W pm) (RY := exR (fun G' => pO (tS G (nI 0)) G') B pm') (k_X5_firstError hx h8.1 h8.2.2 hcx (h6.1 8 (by omega))) (fun u1 z => cP_ex z hsF) (fun u1 hy1 => ⟨_, mCon_v (congrArg nI r1.symm) (k_X6_firstError hy1 h8.2.1 h8.2.2 hcy rfl), fun u2 z => ?_⟩) (fun F' W' pm1 G' B' pm2 s t => ?_)⟩
  · obtain ⟨G2, z3, z4⟩ := z
    exact cP_ex z3 z4
  · obtain ⟨s, rfl, rfl⟩ := s
    obtain ⟨t, rfl, rfl⟩ := t
    exact ⟨q, g, rn, po, bl, sv, (hA.row s (sG.t.tr (sG.p t)) rfl rfl).up (by omega)⟩

theorem bk_fire (A : LwA ax ay o od) (I : LwI ax ay o od N h) (hN : N < 100000) : ∃ v, BkN l D aC ax ay o od (N + 1) mX5_fire mX6_fire (.int v) h := by
  obtain ⟨F, W, pm, G, B, pm', q, g, rn, po, bl, sv, hx, hy, hA, ho⟩ := I
  obtain ⟨h1, h2, h3, h4, h5, h6, h7, h8, h9⟩ := id hA
  have hgb : g < 1000000 := by have := h1.2.2.2.2.1; omega
  have x0 := (hx.1 0 0 0 xV0)
  obtain ⟨z, z8, hz⟩ := h1.2.2.2.2.2.2.2.2
  have hzx : F 7 0 0 4 + nI 1 = nI z := by rw [h1.2.2.2.2.2.2.2.1]; exact hz
  rcases hnx : nxL (fun i => enF F q (pm i)) (F 12 0 0) po rn (if po = 1 then z else 0) rn 0 none with _ | k
  · have hny := hA.nx.symm.trans hnx
    exact ⟨_, BkN.of A hx hy ho (k_X5_fire_n hx h4.1 h4.2.2 h6.1 h1.hq hA.rw (fun _ _ => rdy_all) h7.1 h7.2.2 hzx z8 rfl hnx) (fun u1 z => cP_ch z) (fun u1 hy1 => ⟨_, k_X6_fire_n hy1 h4.2.1 h4.2.2 h1.hqM hA.rm h7.2.1 h7.2.2 hz z8 rfl hny, fun u2 z => cP_ch z⟩) (okN (okC tS_0 (hA.row sF.rf sG.t rfl rfl) (by omega)))⟩
  · have hny := hA.nx.symm.trans hnx
    obtain ⟨hk, hen⟩ := hA.nxin hnx
    obtain ⟨i, j, cn, f1, f2, f3, f4, f5, f6, f7, f8⟩ := hA.go hk hen
    refine ⟨_, BkN.of A hx hy ho (RX := fiX F W pm q g k cn) (RY := fiY G B pm' q g k cn) (k_X5_fire_s hx h4.1 h4.2.2 h6.1 h1.hq hA.rw (fun _ _ => rdy_all) h7.1 h7.2.2 hzx z8 rfl hk f1 f2 f5 h1.2.2.1 hgb f6 f7 hnx) (fun u1 z => ?_) (fun u1 hy1 => ⟨_, k_X6_fire_s hy1 h4.2.1 h4.2.2 h1.hqM hA.rm h7.2.1 h7.2.2 hz z8 rfl hk f3 h1.2.2.2.1 hgb f8 hny, fun u2 z => ?_⟩) (okN (okF hA hk f3 hen (by omega)))⟩
    · obtain ⟨ch, -, z2⟩ := z
      exact ⟨_, _, _, ⟨⟨ch, rfl, rfl⟩, rfl⟩, z2⟩
    · obtain ⟨ch, -, z2⟩ := z
      exact ⟨_, _, _, ⟨⟨ch, rfl, rfl⟩, rfl⟩, z2⟩

theorem bk_fireRule (A : LwA ax ay o od) (I : LwI ax ay o od N h) (hN : N < 100000) (p : Int32) : BkX l D aC ax ay o od (N + 1) mL_fireRule hhL_fireRule mX6_fireRule [.int p] h := by
  obtain ⟨F, W, pm, G, B, pm', q, g, rn, po, bl, sv, hx, hy, hA, ho⟩ := I
  obtain ⟨h1, h2, h3, h4, h5, h6, h7, h8, h9⟩ := id hA
  have hgb : g < 1000000 := by have := h1.2.2.2.2.1; omega
  have x0 := (hx.1 0 0 0 xV0)
  by_cases e1 : 0 ≤ p ∧ p < nI rn
  · obtain ⟨k, hk, rfl⟩ := rng0 e1 (by omega)
    have een := enM_of (q := q) (h5 k hk)
    by_cases hen : enF F q (pm k) = true
    · obtain ⟨i, j, cn, f1, f2, f3, f4, f5, f6, f7, f8⟩ := hA.go hk hen
      have vx : ∀ ch : Nat → Int32, coN (pm k) g (oC F (pm k)) (tkN cn q g (pm k) (feF F ch k, W) 8).1 12 0 0 k = F 12 0 0 k + nI 1 := fun ch => by
        rw [coN_n (by omega) (by omega), (tkN_n (by omega) (by omega) (by omega) 8).1]
        show upd (F 12 0 0) k (F 12 0 0 k + nI 1) k = _
        rw [upd_s]
      have vy : ∀ ch : Nat → Int32, mEnd (moN k g (omM G k) (mcN cn q g k (mF0 (tS G (nI 0)) ch, B) 8).1) k 41 0 0 k = F 12 0 0 k + nI 1 := fun ch => by
        unfold mEnd
        rw [fr_k (by omega), fr_s, upd_s, moN_fix (by omega) (by omega) (by omega) (by omega) (by omega) (by omega), mcN_fix (by omega) (by omega) (by omega) (by omega) (by omega) (by omega) (by omega) (by omega) (by omega)]
        show G 41 0 0 k + nI 1 = _
        rw [h1.2.2.2.2.2.1 k (by omega)]
      refine BkX.ok A hx hy ho (v := F 12 0 0 k + nI 1) (P := cP xV ax (fiX F W pm q g k cn) h) (fun w hM hP => hL_fireRule x0 hM hP) ((k_X5_fireRule hx h4.1 h4.2.2 h6.1 h1.hq hA.rw (fun _ _ => rdy_all) hk f1 f2 f5 h1.2.2.1 hgb f6 f7 hen).mono (fun r u z => ?_)) (fun u1 z => z) (fun u1 hy1 => ⟨cP yV ay (fiY G B pm' q g k cn) u1, (k_X6_fireRule hy1 h4.2.1 h4.2.2 h1.hqM hA.rm hk f3 h1.2.2.2.1 hgb f8 (een.trans hen)).mono (fun r u z => ?_), fun u2 z => z⟩) (okF hA hk f3 hen (by omega))
      · obtain ⟨ch, rfl, -, z2⟩ := z
        exact ⟨by rw [vx], _, _, _, ⟨⟨ch, rfl, rfl⟩, rfl⟩, z2⟩
      · obtain ⟨ch, rfl, -, z2⟩ := z
        exact ⟨by rw [vy], _, _, _, ⟨⟨ch, rfl, rfl⟩, rfl⟩, z2⟩
    · exact BkX.no A hx hy ho (k := 2) (by omega) (by omega) (hL_fireRule_x2 x0 (k_X5_fireRule_x2 hx h4.1 h4.2.2 h6.1 h1.hq hA.rw (fun _ _ => rdy_all) hk hen)) (fun u1 z => cP_ch z) (fun u1 hy1 => ⟨_, k_X6_fireRule_x2 hy1 h4.2.1 h4.2.2 h1.hqM hA.rm hk (by rw [een]; exact hen), fun u2 z => cP_ch z⟩) (okC tS_0 (hA.row sF.rf sG.t rfl rfl) (by omega))
  · exact BkX.no A hx hy ho (k := 1) (by omega) (by omega) (hL_fireRule_x1 x0 (k_X5_fireRule_x1 hx h4.1 h4.2.2 e1)) (fun u1 z => cP_eq hx z) (fun u1 hy1 => ⟨_, k_X6_fireRule_x1 hy1 h4.2.1 h4.2.2 e1, fun u2 z => cP_to z⟩) (okE tS_0 (hA.row sF.rf sG.t rfl rfl) (by omega))

theorem bk_digest (A : LwA ax ay o od) (I : LwI ax ay o od N h) (hN : N < 100000) : ∃ v, BkN l D aC ax ay o od (N + 1) mX5_digest mX6_digest (.long v) h := by
  obtain ⟨F, W, pm, G, B, pm', q, g, rn, po, bl, sv, hx, hy, hA, ho⟩ := I
  obtain ⟨h1, h2, h3, h4, h5, h6, h7, h8, h9⟩ := id hA
  have hgb : g < 1000000 := by have := h1.2.2.2.2.1; omega
  have x0 := (hx.1 0 0 0 xV0)
  obtain ⟨z, z8, hz⟩ := h1.2.2.2.2.2.2.2.2
  have hzx : F 7 0 0 4 + nI 1 = nI z := by rw [h1.2.2.2.2.2.2.2.1]; exact hz
  by_cases e1 : sv = 1
  · subst e1
    refine ⟨_, BkN.of A hx hy ho (RX := chR 4 F W pm) (RY := fun G' B' p' => (∃ ch, G' = fr (tS G (nI 0)) 66 0 0 ch) ∧ (∃ x, B' = hS B x) ∧ p' = pm') (k_X5_digest_1 hx h4.1 h4.2.2 h6.1 h1.hq hA.rw (fun _ _ => rdy_all) h7.1 h7.2.2 hzx z8 rfl h1.2.2.1 hgb h8.1 h8.2.2 h3.1) (fun u1 z => cP_ch z) (fun u1 hy1 => ⟨_, mCon_l hA.dg.symm (k_X6_digest_1 hy1 h4.2.1 h4.2.2 h1.hqM hA.rm h7.2.1 h7.2.2 hz z8 rfl h1.2.2.2.1 hgb h8.2.1 h8.2.2 h3.2.1), fun u2 z => ?_⟩) (fun F' W' pm1 G' B' pm2 s t => ?_)⟩
    · obtain ⟨ch, x, z2⟩ := z
      exact ⟨_, _, _, ⟨⟨ch, rfl⟩, ⟨x, rfl⟩, rfl⟩, z2⟩
    · obtain ⟨⟨ch, rfl⟩, rfl, rfl⟩ := s
      obtain ⟨⟨ch', rfl⟩, ⟨x, rfl⟩, rfl⟩ := t
      exact ⟨q, g, rn, po, bl, _, (hA.row sF.ch (sG.t.tr sG.ch) rfl rfl).up (by omega)⟩
  · have e0 : sv = 0 := by have := h3.2.2; omega
    subst e0
    refine ⟨_, BkN.of A hx hy ho (RX := chR 4 F W pm) (RY := fun G' B' p' => (∃ ch, G' = fr (tS G (nI 0)) 66 0 0 ch) ∧ (∃ x, B' = hS B x) ∧ p' = pm') (k_X5_digest_0 hx h4.1 h4.2.2 h6.1 h1.hq hA.rw (fun _ _ => rdy_all) h7.1 h7.2.2 hzx z8 rfl h1.2.2.1 hgb h8.1 h8.2.2 h3.1) (fun u1 z => cP_ch z) (fun u1 hy1 => ⟨_, mCon_l hA.dg.symm (k_X6_digest_0 hy1 h4.2.1 h4.2.2 h1.hqM hA.rm h7.2.1 h7.2.2 hz z8 rfl h1.2.2.2.1 hgb h8.2.1 h8.2.2 h3.2.1), fun u2 z => ?_⟩) (fun F' W' pm1 G' B' pm2 s t => ?_)⟩
    · obtain ⟨ch, x, z2⟩ := z
      exact ⟨_, _, _, ⟨⟨ch, rfl⟩, ⟨x, rfl⟩, rfl⟩, z2⟩
    · obtain ⟨⟨ch, rfl⟩, rfl, rfl⟩ := s
      obtain ⟨⟨ch', rfl⟩, ⟨x, rfl⟩, rfl⟩ := t
      exact ⟨q, g, rn, po, bl, _, (hA.row sF.ch (sG.t.tr sG.ch) rfl rfl).up (by omega)⟩

/-- as BkX, with a double -/
def BkD (l : Launch) (D : va_G) (aC : Nat → ClassId) (ax ay : xAd) (o od N' : Nat) (μ : mM) (hh : mHh) (ν : mM) (tr : Value → UInt64 → Prop) (As : List Value) (h : mH) : Prop :=
  ∃ (k : Nat) (P : mH → Prop), k < 100 ∧ mHon l D aC μ hh (.ref (ax 0 0 0) :: (As ++ [.ref od])) h (fun r h1 => r = some (.int (nI k)) ∧ P h1) ∧ ∀ h1, P h1 → (∃ fs, h1 (ay 30 0 0) = some (.inr (6, fs))) ∧ ∃ (b : Value) (c : UInt64) (Q : mH → Prop), tr b c ∧ Jvm.FP.Core.dIsNaN c = false ∧ mCon l D aC ν (.ref (ay 30 0 0) :: As) h1 (fun r h2 => r = some b ∧ Q h2) ∧ ∀ h2, Q h2 → (∃ fs, h2 (ay 30 0 0) = some (.inr (6, fs))) ∧ mCon l D aC mX6_thrown [.ref (ay 30 0 0)] h2 (mRi (nI k) (fun h3 => h3 = h2)) ∧ (∃ f, h2 od = some (.inl (5, 1, .inr (.inr (.inr (.inl f))))) ∧ (k = 0 → f 0 = c)) ∧ LwI ax ay o od N' h2
theorem BkD.tail {F' : xFm} {W' : xWm} {pm1 : Nat → Nat} {G : xFm} {B : xWm} {pm' : Nat → Nat} {ν : mM} {tr : Value → UInt64 → Prop} {As : List Value} {b : Value} {c : UInt64} {k N' : Nat} {RY : xFm → xWm → (Nat → Nat) → Prop} {h1 : mH} {w : Nat → Int64} {f : Nat → UInt64} (A : LwA ax ay o od) (hx1 : xR xV ax h1 F' W' pm1 h1) (hy1 : xR yV ay h1 G B pm' h1) (hw : h1 o = some (.inl (1, 1, .inr (.inl w)))) (hf : h1 od = some (.inl (5, 1, .inr (.inr (.inr (.inl f)))))) (hk : k = 0 → f 0 = c) (ht : tr b c) (hn : Jvm.FP.Core.dIsNaN c = false)
    (hM : ∀ h1, xR yV ay h1 G B pm' h1 → ∃ Q : mH → Prop, mCon l D aC ν (.ref (ay 30 0 0) :: As) h1 (fun r h2 => r = some b ∧ Q h2) ∧ ∀ h2, Q h2 → cP yV ay RY h1 h2)
    (hA : ∀ G' B' pm2, RY G' B' pm2 → G' 30 0 0 0 = nI k ∧ ∃ q g rn po bl sv, AllR F' W' pm1 G' B' q g N' rn po bl sv) :
    (∃ fs, h1 (ay 30 0 0) = some (.inr (6, fs))) ∧ ∃ (b : Value) (c : UInt64) (Q : mH → Prop), tr b c ∧ Jvm.FP.Core.dIsNaN c = false ∧ mCon l D aC ν (.ref (ay 30 0 0) :: As) h1 (fun r h2 => r = some b ∧ Q h2) ∧ ∀ h2, Q h2 → (∃ fs, h2 (ay 30 0 0) = some (.inr (6, fs))) ∧ mCon l D aC mX6_thrown [.ref (ay 30 0 0)] h2 (mRi (nI k) (fun h3 => h3 = h2)) ∧ (∃ f, h2 od = some (.inl (5, 1, .inr (.inr (.inr (.inl f))))) ∧ (k = 0 → f 0 = c)) ∧ LwI ax ay o od N' h2 := by
  refine ⟨⟨_, (hy1.1 30 0 0 yV0).trans rfl⟩, b, c, ?_⟩
  obtain ⟨Q, q1, q2⟩ := hM h1 hy1
  refine ⟨Q, ht, hn, q1, fun h2 h2Q => ?_⟩
  obtain ⟨G', B', pm2, hry, hy2⟩ := q2 h2 h2Q
  have fy : Fx yV ay h1 h2 := hy2.2.2
  obtain ⟨h0, q, g, rn, po, bl, sv, hall⟩ := hA _ _ _ hry
  have ew : h2 o = some (.inl (1, 1, .inr (.inl w))) := by
    rw [fy _ (fun k i j hv z => (A.2.2.1 k i j hv).1 z.symm)]
    exact hw
  have ef : h2 od = some (.inl (5, 1, .inr (.inr (.inr (.inl f))))) := by
    rw [fy _ (fun k i j hv z => (A.2.2.1 k i j hv).2 z.symm)]
    exact hf
  have ht := k_X6_thrown (l := l) (D := D) (aC := aC) hy2
  rw [h0] at ht
  exact ⟨⟨_, (hy2.1 30 0 0 yV0).trans rfl⟩, ht, ⟨f, ef, hk⟩, F', W', pm1, G', B', pm2, q, g, rn, po, bl, sv, hx1.keep fy (fun k i j k' i' j' a b => A.1 _ _ _ _ _ _ a b), hy2.self, hall, ⟨w, ew⟩, ⟨f, ef⟩⟩
theorem BkD.ok {F : xFm} {W : xWm} {pm : Nat → Nat} {G : xFm} {B : xWm} {pm' : Nat → Nat} {μL : mM} {hh : mHh} {ν : mM} {tr : Value → UInt64 → Prop} {As : List Value} {b : Value} {c : UInt64} {N' : Nat} {RY : xFm → xWm → (Nat → Nat) → Prop} (A : LwA ax ay o od) (hx : xR xV ax h F W pm h) (hy : xR yV ay h G B pm' h) (ho : LwO o od h)
    (hL : ∀ w : Nat → UInt64, h od = some (.inl (5, 1, .inr (.inr (.inr (.inl w))))) → mHon l D aC μL hh (.ref (ax 0 0 0) :: (As ++ [.ref od])) h (mRi (nI 0) (fun h2 => ∃ h1, h1 = h ∧ h2 = mset h1 od (.inl (5, 1, .inr (.inr (.inr (.inl (vf_upd w 0 c)))))))))
    (ht : tr b c) (hn : Jvm.FP.Core.dIsNaN c = false)
    (hM : ∀ h1, xR yV ay h1 G B pm' h1 → ∃ Q : mH → Prop, mCon l D aC ν (.ref (ay 30 0 0) :: As) h1 (fun r h2 => r = some b ∧ Q h2) ∧ ∀ h2, Q h2 → cP yV ay RY h1 h2)
    (hA : ∀ F' W' pm1 G' B' pm2, eqR F W pm F' W' pm1 → RY G' B' pm2 → G' 30 0 0 0 = nI 0 ∧ ∃ q g rn po bl sv, AllR F' W' pm1 G' B' q g N' rn po bl sv) : BkD l D aC ax ay o od N' μL hh ν tr As h := by
  obtain ⟨⟨w, hw⟩, ⟨f, hf⟩⟩ := ho
  refine ⟨0, _, by omega, hL f hf, fun h2 h2P => ?_⟩
  obtain ⟨h1, rfl, rfl⟩ := h2P
  exact BkD.tail (w := w) (f := vf_upd f 0 c) A (hx.ms (fun k i j hv => (A.2.1 k i j hv).2)) (hy.ms (fun k i j hv => (A.2.2.1 k i j hv).2)) (by rw [mset_n A.2.2.2]; exact hw) mset_s (fun _ => by simp [vf_upd]) ht hn hM (fun G' B' pm2 hry => hA _ _ _ _ _ _ ⟨rfl, rfl, rfl⟩ hry)
theorem BkD.no {F : xFm} {W : xWm} {pm : Nat → Nat} {G : xFm} {B : xWm} {pm' : Nat → Nat} {μL : mM} {hh : mHh} {ν : mM} {tr : Value → UInt64 → Prop} {As : List Value} {b : Value} {c : UInt64} {N' : Nat} {RY : xFm → xWm → (Nat → Nat) → Prop} (A : LwA ax ay o od) (hx : xR xV ax h F W pm h) (hy : xR yV ay h G B pm' h) (ho : LwO o od h)
    (hL : mHon l D aC μL hh (.ref (ax 0 0 0) :: (As ++ [.ref od])) h (mRi (nI 1) (fun h1 => h1 = h)))
    (ht : tr b c) (hn : Jvm.FP.Core.dIsNaN c = false)
    (hM : ∀ h1, xR yV ay h1 G B pm' h1 → ∃ Q : mH → Prop, mCon l D aC ν (.ref (ay 30 0 0) :: As) h1 (fun r h2 => r = some b ∧ Q h2) ∧ ∀ h2, Q h2 → cP yV ay RY h1 h2)
    (hA : ∀ F' W' pm1 G' B' pm2, eqR F W pm F' W' pm1 → RY G' B' pm2 → G' 30 0 0 0 = nI 1 ∧ ∃ q g rn po bl sv, AllR F' W' pm1 G' B' q g N' rn po bl sv) : BkD l D aC ax ay o od N' μL hh ν tr As h := by
  obtain ⟨⟨w, hw⟩, ⟨f, hf⟩⟩ := ho
  refine ⟨1, _, by omega, hL, fun h2 h2P => ?_⟩
  subst h2P
  exact BkD.tail (w := w) (f := f) A hx hy hw hf (fun z => by omega) ht hn hM (fun G' B' pm2 hry => hA _ _ _ _ _ _ ⟨rfl, rfl, rfl⟩ hry)
def trD (b : Value) (c : UInt64) : Prop := b = .double c
def trF (b : Value) (c : UInt64) : Prop := ∃ x, b = .float x ∧ c = FP.f2d x ∧ Jvm.FP.Core.fIsNaN x = false
theorem dc0 : Jvm.FP.Core.dIsNaN FP.dconst0 = false := by decide +kernel
theorem fc0 : Jvm.FP.Core.fIsNaN FP.fconst0 = false := by decide +kernel
theorem bk_meanWait (A : LwA ax ay o od) (I : LwI ax ay o od N h) (hN : N < 100000) (p : Int32) : BkD l D aC ax ay o od (N + 1) mL_meanWait hhL_meanWait mX6_meanWait trD [.int p] h := by
  obtain ⟨F, W, pm, G, B, pm', q, g, rn, po, bl, sv, hx, hy, hA, ho⟩ := I
  obtain ⟨h1, h2, h3, h4, h5, h6, h7, h8, h9⟩ := id hA
  have hgb : g < 1000000 := by have := h1.2.2.2.2.1; omega
  have x0 := (hx.1 0 0 0 xV0)
  by_cases e1 : 0 ≤ p ∧ p < nI 8
  · obtain ⟨c, hc, rfl⟩ := rng0 e1 (by omega)
    have hqc := h1.1 c hc
    have ev : mwV (G 52 0 0 c) (B 53 0 0 c) = mwV (F 13 0 c 4) (W 13 0 c 0) := by rw [hqc.2.2.2.1, hqc.2.2.2.2.1]
    exact BkD.ok A hx hy ho (fun w hw => hL_meanWait x0 (k_X5_meanWait hx hc) (fun u z => by rw [z]; exact hw)) (c := mwV (F 13 0 c 4) (W 13 0 c 0)) rfl mwV_n (fun u1 hy1 => ⟨_, (k_X6_meanWait hy1 hc).mono (fun r u z => by rw [ev] at z; exact z), fun u2 z => cP_to z⟩) (okE tS_0 (hA.row sF.rf sG.t rfl rfl) (by omega))
  · exact BkD.no A hx hy ho (hL_meanWait_x1 x0 (k_X5_meanWait_x hx e1)) (c := FP.dconst0) rfl dc0 (fun u1 hy1 => ⟨_, k_X6_meanWait_x hy1 e1, fun u2 z => cP_to z⟩) (okE tS_0 (hA.row sF.rf sG.t rfl rfl) (by omega))

theorem bk_shareOf (A : LwA ax ay o od) (I : LwI ax ay o od N h) (hN : N < 100000) (p : Int32) : BkD l D aC ax ay o od (N + 1) mL_shareOf hhL_shareOf mX6_shareOf trF [.int p] h := by
  obtain ⟨F, W, pm, G, B, pm', q, g, rn, po, bl, sv, hx, hy, hA, ho⟩ := I
  obtain ⟨h1, h2, h3, h4, h5, h6, h7, h8, h9⟩ := id hA
  have hgb : g < 1000000 := by have := h1.2.2.2.2.1; omega
  have x0 := (hx.1 0 0 0 xV0)
  by_cases e1 : 0 ≤ p ∧ p < nI rn
  · obtain ⟨i, hi, rfl⟩ := rng0 e1 (by omega)
    have ev : shV (G 41 0 0 i) (msm (G 41 0 0) rn) = shV (F 12 0 0 i) (msm (F 12 0 0) rn) := by rw [h1.2.2.2.2.2.1 i (by omega), msm_cong (fun i hi => h1.2.2.2.2.2.1 i (by omega))]
    exact BkD.ok A hx hy ho (fun w hw => hL_shareOf x0 (k_X5_shareOf hx h4.1 h4.2.2 hi) (fun u z => by rw [z]; exact hw) shV_n) (c := FP.f2d (shV (F 12 0 0 i) (msm (F 12 0 0) rn))) ⟨_, rfl, rfl, shV_n⟩ (f2d_n shV_n) (fun u1 hy1 => ⟨_, (k_X6_shareOf hy1 h4.2.1 h4.2.2 hi).mono (fun r u z => by rw [ev] at z; exact z), fun u2 z => cP_to z⟩) (okE tS_0 (hA.row sF.rf sG.t rfl rfl) (by omega))
  · exact BkD.no A hx hy ho (hL_shareOf_x1 x0 (k_X5_shareOf_x hx h4.1 h4.2.2 e1)) (c := FP.f2d FP.fconst0) ⟨_, rfl, rfl, fc0⟩ (f2d_n fc0) (fun u1 hy1 => ⟨_, k_X6_shareOf_x hy1 h4.2.1 h4.2.2 e1, fun u2 z => cP_to z⟩) (okE tS_0 (hA.row sF.rf sG.t rfl rfl) (by omega))

end
