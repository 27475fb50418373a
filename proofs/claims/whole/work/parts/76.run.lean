theorem fr_comm {α : Type} {F : Nat → Nat → Nat → α} {k i j k' i' j' : Nat} {a b : α} (h : ¬ (k = k' ∧ i = i' ∧ j = j')) : fr (fr F k i j a) k' i' j' b = fr (fr F k' i' j' b) k i j a := by
  funext x y z
  unfold fr
  by_cases h1 : x = k' ∧ y = i' ∧ z = j'
  · rw [if_pos h1]
    by_cases h2 : x = k ∧ y = i ∧ z = j
    · exact absurd ⟨h2.1.symm.trans h1.1, h2.2.1.symm.trans h1.2.1, h2.2.2.symm.trans h1.2.2⟩ h
    · rw [if_neg h2, if_pos h1]
  · rw [if_neg h1]
    by_cases h2 : x = k ∧ y = i ∧ z = j
    · rw [if_pos h2, if_pos h2]
    · rw [if_neg h2, if_neg h2, if_neg h1]
section
variable {F : xFm} {W : xWm} {ch c0 : Nat → Int32}
theorem xPut_4 {c n : Nat} {v s t : Int32} : xPut (fr F 4 0 0 ch) 0 c n v s t = fr (xPut F 0 c n v s t) 4 0 0 ch := by
  unfold xPut
  rw [fr_comm (k := 13) (k' := 4) (by omega), fr_comm (k := 16) (k' := 4) (by omega), fr_comm (k := 15) (k' := 4) (by omega), fr_comm (k := 14) (k' := 4) (by omega)]
  rfl
theorem xSt_4 {g : Nat} {x a b : Int32} : xSt (fr F 4 0 0 ch) 0 g x a b = fr (xSt F 0 g x a b) 4 0 0 ch := by
  unfold xSt
  split
  · rw [fr_comm (k := 11) (k' := 4) (by omega), fr_comm (k := 10) (k' := 4) (by omega)]
    rfl
  · rfl
theorem tkX_4 {c i n : Nat} : tkX (fr F 4 0 0 ch) c i n = fr (tkX F c i n) 4 0 0 ch := by
  unfold tkX xTk
  rw [fr_comm (k := 16) (k' := 4) (by omega), fr_comm (k := 15) (k' := 4) (by omega), fr_comm (k := 14) (k' := 4) (by omega), fr_comm (k := 13) (k' := 4) (by omega), fr_comm (k := 6) (k' := 4) (by omega), fr_comm (k := 5) (k' := 4) (by omega)]
  rfl
theorem tkS_4 {cn q : Nat → Nat} {g r c : Nat} : tkS cn q g r c (fr F 4 0 0 ch, W) = (fr (tkS cn q g r c (F, W)).1 4 0 0 ch, (tkS cn q g r c (F, W)).2) := by
  by_cases hu : usP (F 17 r 0 0) (nI c)
  · rw [tkS_t (F := fr F 4 0 0 ch) hu, tkS_t hu]
    dsimp only
    have e : (if usP (fr F 4 0 0 ch 17 r 0 4) (nI c) then tkX (fr F 4 0 0 ch) c (cn c) (q c) else xSt (tkX (fr F 4 0 0 ch) c (cn c) (q c)) 0 g (fr F 4 0 0 ch 16 0 c (cn c)) (nI 2) (nI 0)) = fr (if usP (F 17 r 0 4) (nI c) then tkX F c (cn c) (q c) else xSt (tkX F c (cn c) (q c)) 0 g (F 16 0 c (cn c)) (nI 2) (nI 0)) 4 0 0 ch := by
      by_cases hr : usP (F 17 r 0 4) (nI c)
      · rw [if_pos hr, if_pos (show usP (fr F 4 0 0 ch 17 r 0 4) (nI c) from hr), tkX_4]
      · rw [if_neg hr, if_neg (show ¬ usP (fr F 4 0 0 ch 17 r 0 4) (nI c) from hr), tkX_4, xSt_4]
        rfl
    rw [e]
    rfl
  · unfold tkS
    rw [if_neg hu, if_neg (show ¬ usP ((fr F 4 0 0 ch, W).1 17 r 0 0) (nI c) from hu)]
theorem tkN_4 {cn q : Nat → Nat} {g r : Nat} : ∀ e, tkN cn q g r (fr F 4 0 0 ch, W) e = (fr (tkN cn q g r (F, W) e).1 4 0 0 ch, (tkN cn q g r (F, W) e).2)
  | 0 => rfl
  | e + 1 => by
    show tkS cn q g r e (tkN cn q g r (fr F 4 0 0 ch, W) e) = _
    rw [tkN_4 e, tkS_4]
    rfl
theorem coS_4 {r g o : Nat} : coS (fr F 4 0 0 ch) r g o = fr (coS F r g o) 4 0 0 ch := by
  unfold coS
  by_cases hr : F 19 r 0 o = 0
  · rw [if_pos hr, if_pos (show fr F 4 0 0 ch 19 r 0 o = 0 from hr), xPut_4]
    rfl
  · rw [if_neg hr, if_neg (show ¬ fr F 4 0 0 ch 19 r 0 o = 0 from hr), xSt_4]
    rfl
theorem coN_4 {r g : Nat} : ∀ o, coN r g o (fr F 4 0 0 ch) = fr (coN r g o F) 4 0 0 ch
  | 0 => rfl
  | o + 1 => by
    show coS (coN r g o (fr F 4 0 0 ch)) r g o = _
    rw [coN_4 o, coS_4]
    rfl
theorem feF_4 {k : Nat} : feF F ch k = fr (feF F c0 k) 4 0 0 ch := by
  unfold feF
  rw [fr_comm (k := 12) (k' := 4) (by omega), fr_comm (k := 7) (k' := 4) (by omega), fr_fr]
theorem fir_4 {cn q : Nat → Nat} {g r m k : Nat} : coN r g m (tkN cn q g r (feF F ch k, W) 8).1 = fr (coN r g m (tkN cn q g r (feF F c0 k, W) 8).1) 4 0 0 ch ∧ (tkN cn q g r (feF F ch k, W) 8).2 = (tkN cn q g r (feF F c0 k, W) 8).2 := by
  rw [feF_4 (ch := ch) (c0 := c0), tkN_4]
  exact ⟨coN_4 m, rfl⟩
theorem mTk_66 {c i n : Nat} : mTk (fr F 66 0 0 ch) c i n = fr (mTk F c i n) 66 0 0 ch := by
  unfold mTk mSh mTb
  rw [fr_comm (k := 47) (k' := 66) (by omega), fr_comm (k := 46) (k' := 66) (by omega), fr_comm (k := 45) (k' := 66) (by omega), fr_comm (k := 44) (k' := 66) (by omega), fr_comm (k := 52) (k' := 66) (by omega), fr_comm (k := 68) (k' := 66) (by omega), fr_comm (k := 67) (k' := 66) (by omega)]
  rfl
theorem mSe_66 {g : Nat} {x a b : Int32} : mSe (fr F 66 0 0 ch) g x a b = fr (mSe F g x a b) 66 0 0 ch := by
  unfold mSe
  split
  · rw [fr_comm (k := 51) (k' := 66) (by omega), fr_comm (k := 50) (k' := 66) (by omega)]
    rfl
  · rfl
theorem mPut_66 {c n : Nat} {v t : Int32} : mPut (fr F 66 0 0 ch) c n v t = fr (mPut F c n v t) 66 0 0 ch := by
  unfold mPut
  rw [fr_comm (k := 44) (k' := 66) (by omega), fr_comm (k := 47) (k' := 66) (by omega), fr_comm (k := 46) (k' := 66) (by omega), fr_comm (k := 45) (k' := 66) (by omega)]
  rfl
theorem mcS_66 {cn q : Nat → Nat} {g r c : Nat} : mcS cn q g r c (fr F 66 0 0 ch, W) = (fr (mcS cn q g r c (F, W)).1 66 0 0 ch, (mcS cn q g r c (F, W)).2) := by
  by_cases hu : usP (F 34 0 0 r) (nI c)
  · rw [mcS_t (G := fr F 66 0 0 ch) hu, mcS_t hu, mTk_66, mSe_66]
    rfl
  · unfold mcS
    rw [if_neg hu, if_neg (show ¬ usP ((fr F 66 0 0 ch, W).1 34 0 0 r) (nI c) from hu)]
theorem mcN_66 {cn q : Nat → Nat} {g r : Nat} : ∀ e, mcN cn q g r (fr F 66 0 0 ch, W) e = (fr (mcN cn q g r (F, W) e).1 66 0 0 ch, (mcN cn q g r (F, W) e).2)
  | 0 => rfl
  | e + 1 => by
    show mcS cn q g r e (mcN cn q g r (fr F 66 0 0 ch, W) e) = _
    rw [mcN_66 e, mcS_66]
    rfl
theorem moS_66 {r g o : Nat} : moS (fr F 66 0 0 ch) r g o = fr (moS F r g o) 66 0 0 ch := by
  unfold moS
  by_cases hr : oT F r o < 8
  · rw [if_pos hr, if_pos (show oT (fr F 66 0 0 ch) r o < 8 from hr), mPut_66]
    rfl
  · rw [if_neg hr, if_neg (show ¬ oT (fr F 66 0 0 ch) r o < 8 from hr), mSe_66]
    rfl
theorem moN_66 {r g : Nat} : ∀ o, moN r g o (fr F 66 0 0 ch) = fr (moN r g o F) 66 0 0 ch
  | 0 => rfl
  | o + 1 => by
    show moS (moN r g o (fr F 66 0 0 ch)) r g o = _
    rw [moN_66 o, moS_66]
    rfl
theorem mF0_66 : mF0 F ch = fr (mF0 F c0) 66 0 0 ch := by
  unfold mF0
  rw [fr_comm (k := 30) (k' := 66) (by omega), fr_fr]
theorem mEnd_66 {r : Nat} : mEnd (fr F 66 0 0 ch) r = fr (mEnd F r) 66 0 0 ch := by
  unfold mEnd
  rw [fr_comm (k := 30) (k' := 66) (by omega), fr_comm (k := 41) (k' := 66) (by omega)]
  rfl
theorem fir_66 {cn q : Nat → Nat} {g m k : Nat} : mEnd (moN k g m (mcN cn q g k (mF0 F ch, W) 8).1) k = fr (mEnd (moN k g m (mcN cn q g k (mF0 F c0, W) 8).1) k) 66 0 0 ch ∧ (mcN cn q g k (mF0 F ch, W) 8).2 = (mcN cn q g k (mF0 F c0, W) 8).2 := by
  rw [mF0_66 (ch := ch) (c0 := c0), mcN_66, moN_66, mEnd_66]
  exact ⟨rfl, rfl⟩
theorem tS_id (h : F 30 0 0 0 = nI 0) : tS F (nI 0) = F := by
  unfold tS
  have e : upd (F 30 0 0) 0 (nI 0) = F 30 0 0 := by
    funext j
    by_cases hj : j = 0
    · rw [hj, upd_s, h]
    · rw [upd_n hj]
  rw [e, fr_self]
end
/-! ===== the chain of firings ===== -/
abbrev Ch5 : Type := xFm × xWm × xFm × xWm × (Nat → Nat)
def sc0 (F : xFm) (po : Nat) : Nat := if po = 1 then (F 7 0 0 4 + nI 1).toNatClampNeg else 0
def nxC (pm : Nat → Nat) (po rn : Nat) (z : Ch5) : Option Nat := nxL (fun i => enF z.1 z.2.2.2.2 (pm i)) (z.1 12 0 0) po rn (sc0 z.1 po) rn 0 none
def stC (pm : Nat → Nat) (g po rn : Nat) (z : Ch5) : Ch5 := match nxC pm po rn z with
  | none => z
  | some k => match mtC z.1 z.2.2.2.2 pm k with
    | none => z
    | some cn => (coN (pm k) g (oC z.1 (pm k)) (tkN cn z.2.2.2.2 g (pm k) (feF z.1 (fun _ => 0) k, z.2.1) 8).1, (tkN cn z.2.2.2.2 g (pm k) (feF z.1 (fun _ => 0) k, z.2.1) 8).2, mEnd (moN k g (omM z.2.2.1 k) (mcN cn z.2.2.2.2 g k (mF0 (tS z.2.2.1 (nI 0)) (fun _ => 0), z.2.2.2.1) 8).1) k, (mcN cn z.2.2.2.2 g k (mF0 (tS z.2.2.1 (nI 0)) (fun _ => 0), z.2.2.2.1) 8).2, qF z.1 z.2.2.2.2 (pm k))
def chC (pm : Nat → Nat) (g po rn : Nat) (z : Ch5) : Nat → Ch5
  | 0 => z
  | e + 1 => stC pm g po rn (chC pm g po rn z e)
def AlC (pm : Nat → Nat) (g N rn po bl sv : Nat) (z : Ch5) : Prop := AllR z.1 z.2.1 pm z.2.2.1 z.2.2.2.1 z.2.2.2.2 g N rn po bl sv ∧ z.2.2.1 30 0 0 0 = nI 0
section
variable {pm : Nat → Nat} {g N rn po bl sv : Nat} {z : Ch5}
theorem AlC.st (h : AlC pm g N rn po bl sv z) : AlC pm g N rn po bl sv (stC pm g po rn z) := by
  unfold stC
  cases hn : nxC pm po rn z with
  | none => exact h
  | some k =>
    dsimp only
    cases hm : mtC z.1 z.2.2.2.2 pm k with
    | none => exact h
    | some cn =>
      obtain ⟨hk, hen⟩ := h.1.nxin hn
      exact ⟨h.1.fire hk hm hen _ _, mEnd_0⟩
theorem AlC.ch (h : AlC pm g N rn po bl sv z) : ∀ e, AlC pm g N rn po bl sv (chC pm g po rn z e)
  | 0 => h
  | e + 1 => (AlC.ch h e).st
theorem AlC.z8 (h : AlC pm g N rn po bl sv z) : z.1 7 0 0 4 + nI 1 = nI (z.1 7 0 0 4 + nI 1).toNatClampNeg ∧ (z.1 7 0 0 4 + nI 1).toNatClampNeg ≤ 8 ∧ z.2.2.1 30 0 0 12 + nI 1 = nI (z.1 7 0 0 4 + nI 1).toNatClampNeg := by
  obtain ⟨x, x8, hx⟩ := h.1.1.2.2.2.2.2.2.2.2
  have e := h.1.1.2.2.2.2.2.2.2.1
  rw [e, hx, nI_clamp (by omega)]
  exact ⟨rfl, x8, rfl⟩
theorem chC_n {e : Nat} (h : nxC pm po rn (chC pm g po rn z e) = none) : ∀ d, chC pm g po rn z (e + d) = chC pm g po rn z e
  | 0 => rfl
  | d + 1 => by
    show stC pm g po rn (chC pm g po rn z (e + d)) = _
    rw [chC_n h d]
    unfold stC
    rw [h]
end
section
variable {l : Launch} {D : va_G} {aC : Nat → ClassId} {ax ay : xAd} {h : mH} {pm pm' : Nat → Nat} {g N rn po bl sv lim : Nat} {z : Ch5}
def iX (ax : xAd) (h : mH) (pm : Nat → Nat) (z : Ch5) (h' : mH) : Prop := ∃ ch, xR xV ax h (fr z.1 4 0 0 ch) z.2.1 pm h'
def iY (ay : xAd) (h : mH) (pm' : Nat → Nat) (z : Ch5) (h' : mH) : Prop := ∃ ch, xR yV ay h (fr z.2.2.1 66 0 0 ch) z.2.2.2.1 pm' h'
/-- a firing of the class along the chain -/
theorem run_x (hgb : g < 1000000) (H : AlC pm g N rn po bl sv z) {h' : mH} (hI : iX ax h pm z h') : mCon l D aC mX5_fire [.ref (ax 0 0 0)] h' (mRi (opI (nxC pm po rn z)) (iX ax h pm (stC pm g po rn z))) := by
  obtain ⟨ch, hx⟩ := hI
  obtain ⟨z1, z2, z3⟩ := H.z8
  have hA : AllR (fr z.1 4 0 0 ch) z.2.1 pm z.2.2.1 z.2.2.2.1 z.2.2.2.2 g N rn po bl sv := H.1.row sF.ch sG.rf rfl rfl
  obtain ⟨h1, h2, h3, h4, h5, h6, h7, h8, h9⟩ := id hA
  have en : nxL (fun i => enF (fr z.1 4 0 0 ch) z.2.2.2.2 (pm i)) (fr z.1 4 0 0 ch 12 0 0) po rn (sc0 z.1 po) rn 0 none = nxC pm po rn z := rfl
  cases hn : nxC pm po rn z with
  | none =>
    refine (k_X5_fire_n hx h4.1 h4.2.2 h6.1 h1.hq hA.rw (fun _ _ => rdy_all) h7.1 h7.2.2 z1 z2 rfl (en.trans hn)).mono (fun r u y => ⟨y.1, ?_⟩)
    obtain ⟨c2, y2⟩ := y.2
    rw [fr_fr] at y2
    refine ⟨c2, ?_⟩
    unfold stC
    rw [hn]
    exact y2
  | some k =>
    obtain ⟨hk, hen⟩ := hA.nxin (en.trans hn)
    obtain ⟨i, j, cn, f1, f2, f3, f4, f5, f6, f7, f8⟩ := hA.go hk hen
    refine (k_X5_fire_s hx h4.1 h4.2.2 h6.1 h1.hq hA.rw (fun _ _ => rdy_all) h7.1 h7.2.2 z1 z2 rfl hk f1 f2 f5 h1.2.2.1 hgb f6 f7 (en.trans hn)).mono (fun r u y => ⟨y.1, ?_⟩)
    obtain ⟨c2, -, y2⟩ := y.2
    rw [feF_ch] at y2
    have e9 := fir_4 (F := z.1) (W := z.2.1) (ch := c2) (c0 := fun _ => 0) (cn := cn) (q := z.2.2.2.2) (g := g) (r := pm k) (m := oC z.1 (pm k)) (k := k)
    refine ⟨c2, ?_⟩
    have hm : mtC z.1 z.2.2.2.2 pm k = some cn := f3
    unfold stC
    rw [hn]
    dsimp only
    rw [hm]
    dsimp only
    rw [← e9.1, ← e9.2]
    exact y2
/-- the reference's next rule along the chain -/
theorem run_y (H : AlC pm g N rn po bl sv z) {h' : mH} (hI : iY ay h pm' z h') : mCon l D aC mX6_nextNow [.ref (ay 30 0 0)] h' (mRi (opI (nxC pm po rn z)) (iY ay h pm' z)) := by
  obtain ⟨ch, hy⟩ := hI
  obtain ⟨z1, z2, z3⟩ := H.z8
  have hA : AllR z.1 z.2.1 pm (fr z.2.2.1 66 0 0 ch) z.2.2.2.1 z.2.2.2.2 g N rn po bl sv := H.1.row sF.rf sG.ch rfl rfl
  obtain ⟨h1, h2, h3, h4, h5, h6, h7, h8, h9⟩ := id hA
  refine (mCon_v (congrArg opI hA.nx.symm) (k_X6_nextNow hy h4.2.1 h4.2.2 h1.hqM hA.rm h7.2.1 h7.2.2 z3 z2 rfl)).mono (fun r u y => ⟨y.1, ?_⟩)
  obtain ⟨c2, y2⟩ := y.2
  rw [fr_fr] at y2
  exact ⟨c2, y2⟩
theorem run_z (hgb : g < 1000000) (H : AlC pm g N rn po bl sv z) {k : Nat} (hn : nxC pm po rn z = some k) {h' : mH} (hI : iY ay h pm' z h') : mCon l D aC mX6_fireNow [.ref (ay 30 0 0), .int (nI k)] h' (mRv (iY ay h pm' (stC pm g po rn z))) := by
  obtain ⟨ch, hy⟩ := hI
  have hA : AllR z.1 z.2.1 pm (fr z.2.2.1 66 0 0 ch) z.2.2.2.1 z.2.2.2.2 g N rn po bl sv := H.1.row sF.rf sG.ch rfl rfl
  obtain ⟨h1, h2, h3, h4, h5, h6, h7, h8, h9⟩ := id hA
  obtain ⟨hk, hen⟩ := hA.nxin hn
  obtain ⟨i, j, cn, f1, f2, f3, f4, f5, f6, f7, f8⟩ := hA.go hk hen
  have t0 : tS (fr z.2.2.1 66 0 0 ch) (nI 0) = fr z.2.2.1 66 0 0 ch := tS_id H.2
  rw [t0] at f8
  refine (k_X6_fireNow hy h4.2.1 h4.2.2 hk h1.hqM hA.rm h1.2.2.2.1 hgb f3 f8).mono (fun r u y => ⟨y.1, ?_⟩)
  obtain ⟨c2, -, y2⟩ := y.2
  rw [mF0_ch] at y2
  have e9 := fir_66 (F := z.2.2.1) (W := z.2.2.2.1) (ch := c2) (c0 := fun _ => 0) (cn := cn) (q := z.2.2.2.2) (g := g) (m := omM z.2.2.1 k) (k := k)
  refine ⟨c2, ?_⟩
  unfold stC
  rw [hn]
  dsimp only
  rw [f3]
  dsimp only
  rw [tS_id H.2, ← e9.1, ← e9.2]
  exact y2
end
section
variable {l : Launch} {D : va_G} {aC : Nat → ClassId} {ax ay : xAd} {o od N : Nat} {h : mH}
theorem bk_run (A : LwA ax ay o od) (I : LwI ax ay o od N h) (hN : N < 100000) (p : Int32) : BkX l D aC ax ay o od (N + 1) mL_run hhL_run mX6_run [.int p] h := by
  obtain ⟨F, W, pm, G, B, pm', q, g, rn, po, bl, sv, hx, hy, hA, ho⟩ := I
  obtain ⟨h1, h2, h3, h4, h5, h6, h7, h8, h9⟩ := id hA
  have hgb : g < 1000000 := by have := h1.2.2.2.2.1; omega
  have x0 := (hx.1 0 0 0 xV0)
  by_cases e1 : nI 1 ≤ p ∧ p ≤ nI 100
  · obtain ⟨lim, l1, l2, rfl⟩ := rng_of e1 (by omega) (by omega)
    have H0 : AlC pm g N rn po bl sv (F, W, tS G (nI 0), B, q) := ⟨hA.row sF.rf sG.t rfl rfl, tS_0 (G := G) (x := nI 0)⟩
    have H := AlC.ch H0
    have hk9 : ∀ e k, nxC pm po rn (chC pm g po rn (F, W, tS G (nI 0), B, q) e) = some k → k < 2 ^ 31 := fun e k hk => by
      have := ((H e).1.nxin hk).1
      omega
    have hlast : ∀ e, e < lim → nxC pm po rn (chC pm g po rn (F, W, tS G (nI 0), B, q) e) = none → chC pm g po rn (F, W, tS G (nI 0), B, q) lim = chC pm g po rn (F, W, tS G (nI 0), B, q) (e + 1) := fun e he hn => by
      have e1 := chC_n hn (lim - e)
      have e2 := chC_n hn 1
      rw [show e + (lim - e) = lim by omega] at e1
      rw [e1, e2]
    refine BkX.ok A hx hy ho (RX := chR 4 (chC pm g po rn (F, W, tS G (nI 0), B, q) lim).1 (chC pm g po rn (F, W, tS G (nI 0), B, q) lim).2.1 pm) (RY := chR 66 (chC pm g po rn (F, W, tS G (nI 0), B, q) lim).2.2.1 (chC pm g po rn (F, W, tS G (nI 0), B, q) lim).2.2.2.1 pm') (v := nI (rnC (fun e => nxC pm po rn (chC pm g po rn (F, W, tS G (nI 0), B, q) e)) lim 0)) (P := iX ax h pm (chC pm g po rn (F, W, tS G (nI 0), B, q) lim)) (fun w hM hP => hL_run x0 hM hP) (k_X5_run (I := fun e h' => iX ax h pm (chC pm g po rn (F, W, tS G (nI 0), B, q) e) h') (J := fun e h' => e < lim ∧ iX ax h pm (chC pm g po rn (F, W, tS G (nI 0), B, q) (e + 1)) h') (nx := fun e => nxC pm po rn (chC pm g po rn (F, W, tS G (nI 0), B, q) e)) l1 l2 (fun u e hi => ?_) (fun e u he hi => (run_x hgb (H e) hi).mono (fun r u2 y => ⟨y.1, he, y.2⟩)) hk9 (fun e u k _ hj => hj.2) (fun e u hn hj => ?_) (fun u hi => hi) rfl ⟨F 4 0 0, ?_⟩) (fun u1 z => cP_ch z) (fun u1 hy1 => ⟨iY ay u1 pm' (chC pm g po rn (F, W, tS G (nI 0), B, q) lim), k_X6_run hy1 (I := fun e h' => iY ay u1 pm' (chC pm g po rn (F, W, tS G (nI 0), B, q) e) h') (J := fun e h' => e < lim ∧ iY ay u1 pm' (chC pm g po rn (F, W, tS G (nI 0), B, q) e) h') (nx := fun e => nxC pm po rn (chC pm g po rn (F, W, tS G (nI 0), B, q) e)) l2 (fun u e hi => ?_) (fun e u he hi => (run_y (H e) hi).mono (fun r u2 y => ⟨y.1, he, y.2⟩)) hk9 (fun e u k hk hj => run_z hgb (H e) hk hj.2) (fun e u hn hj => ?_) (fun u hi => hi) l1 rfl (fun u hu => ⟨G 66 0 0, ?_⟩), fun u2 z => cP_ch z⟩) (okC (H lim).2 (H lim).1 (by omega))
    · obtain ⟨ch, hr⟩ := hi
      exact ⟨_, (hr.1 0 0 0 xV0).trans rfl⟩
    · rw [hlast e hj.1 hn]
      exact hj.2
    · show xR xV ax h (fr F 4 0 0 (F 4 0 0)) W pm h
      rw [fr_self]
      exact hx
    · have hi2 : iY ay u1 pm' (chC pm g po rn (F, W, tS G (nI 0), B, q) e) u := by
        rcases hi with hi | hi
        · exact hi
        · exact hi.2
      obtain ⟨ch, hr⟩ := hi2
      exact ⟨_, (hr.1 30 0 0 yV0).trans rfl⟩
    · rw [hlast e hj.1 hn]
      show iY ay u1 pm' (stC pm g po rn (chC pm g po rn (F, W, tS G (nI 0), B, q) e)) u
      unfold stC
      rw [show nxC pm po rn (chC pm g po rn (F, W, tS G (nI 0), B, q) e) = none from hn]
      exact hj.2
    · show xR yV ay u1 (fr (tS G (nI 0)) 66 0 0 (tS G (nI 0) 66 0 0)) B pm' u
      rw [fr_self]
      exact hu
  · exact BkX.no A hx hy ho (k := 1) (by omega) (by omega) (hL_run_x1 x0 (k_X5_run_x e1)) (fun u1 z => cP_eq hx z) (fun u1 hy1 => ⟨_, k_X6_run_x hy1 e1, fun u2 z => cP_to z⟩) (okE tS_0 (hA.row sF.rf sG.t rfl rfl) (by omega))
end
