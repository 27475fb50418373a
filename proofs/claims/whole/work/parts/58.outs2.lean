theorem QcR.cong {F : xFm} {W : xWm} {G : xFm} {B : xWm} {q q' : Nat → Nat} (h : QcR F W G B q) (e : ∀ c, c < 8 → q' c = q c) : QcR F W G B q' := by
  intro c hc
  rw [e c hc]
  exact h c hc
theorem QcR.row {F F' : xFm} {W W' : xWm} {G G' : xFm} {B B' : xWm} {q : Nat → Nat} (h : QcR F W G B q) (hF : ∀ k c, 13 ≤ k → k ≤ 16 → c < 8 → F' k 0 c = F k 0 c) (hW : ∀ c, c < 8 → W' 13 0 c 0 = W 13 0 c 0) (h44 : G' 44 0 0 = G 44 0 0) (h45 : G' 45 0 0 = G 45 0 0) (h46 : G' 46 0 0 = G 46 0 0) (h47 : G' 47 0 0 = G 47 0 0) (h52 : G' 52 0 0 = G 52 0 0) (h53 : B' 53 0 0 = B 53 0 0) : QcR F' W' G' B' q := by
  intro c hc
  rw [hF 13 c (by omega) (by omega) hc, hF 14 c (by omega) (by omega) hc, hF 15 c (by omega) (by omega) hc, hF 16 c (by omega) (by omega) hc, hW c hc, h44, h45, h46, h47, h52, h53]
  exact h c hc
theorem SlR.mono {F G : xFm} {P P' : Nat → Prop} (h : SlR F G P) (hP : ∀ t, P t → P' t) : SlR F G P' := fun t ht hn => h t ht (fun z => hn (hP t z))
def dnO (F : xFm) (r o c : Nat) : Prop := ∃ o', o' < o ∧ F 19 r 0 o' = nI 1 ∧ F 18 r 0 o' = nI c
theorem out_one {F G : xFm} {r i o : Nat} {p : Int32} (hR : RuR F r G i) (hp : F 17 r 0 0 = p) {m : Nat} (hm : G 36 0 0 i = nI m) (hm4 : m ≤ 4) (ho : o < m) (hT : TnR F G p 8) : cV F r o = oV G i o ∧ bnd (oV G i o) ∧ OuR p (F 17 r 0 4) (F 18 r 0 o) (F 19 r 0 o) (G 37 0 0 (4 * i + o)) ∧ F 20 r 0 o = nI (cK F r o) ∧ G 38 0 0 (4 * i + o) = nI (oK G i o) ∧ cK F r o ≤ 3 ∧ oK G i o ≤ 3 ∧ (∀ j, j < cK F r o → F 22 r 0 (o * 3 + j) = nI (cO F r (o * 3 + j)) ∧ cO F r (o * 3 + j) < 18) ∧ (∀ j, j < oK G i o → G 39 0 0 (3 * (4 * i + o) + j) = nI (oN G (3 * (4 * i + o) + j)) ∧ oN G (3 * (4 * i + o) + j) < 18) := by
  obtain ⟨-, ⟨m', hm', -, h6, ho9, -⟩, -⟩ := hR
  have em : m' = m := by
    rw [hm] at h6
    exact ((nI_eq (by omega) (by omega)).mp h6).symm
  subst em
  obtain ⟨hou, k, hk0, hk3, h1, h2, hop⟩ := ho9 o ho
  rw [hp] at hou hop
  have e1 : cK F r o = k := by unfold cK; rw [h1, nI_clamp (by omega)]
  have e2 : oK G i o = k := by unfold oK; rw [h2, nI_clamp (by omega)]
  refine ⟨?_, bnd_v, hou, ?_, ?_, ?_, ?_, ?_, ?_⟩
  · unfold cV oV
    rw [e1, e2, ov_eq hop (fun c hc hu => ⟨(hT c hc hu).1, (hT c hc hu).2.1⟩) k (Nat.le_refl _)]
  · rw [e1]; exact h1
  · rw [e2]; exact h2
  · omega
  · omega
  · intro j hj
    obtain ⟨a, h3, h4, h5, -⟩ := hop j (by omega)
    have ea : cO F r (o * 3 + j) = a := by unfold cO; rw [h3, nI_clamp (by omega)]
    rw [ea]
    exact ⟨h3, h5⟩
  · intro j hj
    obtain ⟨a, h3, h4, h5, -⟩ := hop j (by omega)
    have ea : oN G (3 * (4 * i + o) + j) = a := by unfold oN; rw [h4, nI_clamp (by omega)]
    rw [ea]
    exact ⟨h4, h5⟩
theorem RuR.row {F G F' G' : xFm} {r i : Nat} (h : RuR F r G i) (hF : ∀ k, 17 ≤ k → k ≤ 22 → F' k r 0 = F k r 0) (hG : ∀ k, 34 ≤ k → k ≤ 40 → G' k 0 0 = G k 0 0) : RuR F' r G' i := by
  unfold RuR
  rw [hF 17 (by omega) (by omega), hF 18 (by omega) (by omega), hF 19 (by omega) (by omega), hF 20 (by omega) (by omega), hF 21 (by omega) (by omega), hF 22 (by omega) (by omega), hG 34 (by omega) (by omega), hG 35 (by omega) (by omega), hG 36 (by omega) (by omega), hG 37 (by omega) (by omega), hG 38 (by omega) (by omega), hG 39 (by omega) (by omega), hG 40 (by omega) (by omega)]
  exact h
theorem out_all {F : xFm} {W : xWm} {G : xFm} {B : xWm} {q : Nat → Nat} {g r i m : Nat} {p rm : Int32} (hR : RuR F r G i) (hp : F 17 r 0 0 = p) (hrm : F 17 r 0 4 = rm) (hm : G 36 0 0 i = nI m) (hm4 : m ≤ 4) (hQ : QcR F W G B q) (hT : TnR F G p 8) (hS : SlR F G (pnd p rm g (G 68 0 0) 8 (fun _ => False))) (hs : F 7 0 0 3 = G 30 0 0 18) (hg : F 9 0 0 2 = nI g) (hg2 : G 30 0 0 19 = nI g) (hrm8 : ∀ c, c < 8 → q c + snN (F 19 r 0) (F 18 r 0) (nI c) m ≤ 8) : ∀ o, o ≤ m →
    (QcR (coN r g o F) W (moN i g o G) B (fun c => q c + snN (F 19 r 0) (F 18 r 0) (nI c) o) ∧ SlR (coN r g o F) (moN i g o G) (pnd p rm g (G 68 0 0) 8 (dnO F r o))) ∧ (o < m → coOk (coN r g o F) r g o ∧ moOk (moN i g o G) i g o)
  | o, ho => by
    have hF : ∀ o k, 17 ≤ k → k ≤ 22 → coN r g o F k r 0 = F k r 0 := fun o k h1 h2 => coN_fix (by omega) (by omega) (by omega) o
    have hG : ∀ o k, 34 ≤ k → k ≤ 40 → moN i g o G k 0 0 = G k 0 0 := fun o k h1 h2 => moN_fix (by omega) (by omega) (by omega) (by omega) (by omega) (by omega) o
    have main : ∀ o, o ≤ m → QcR (coN r g o F) W (moN i g o G) B (fun c => q c + snN (F 19 r 0) (F 18 r 0) (nI c) o) → (o < m → coOk (coN r g o F) r g o ∧ moOk (moN i g o G) i g o) := by
      intro o ho hq hlt
      have hT' : TnR (coN r g o F) (moN i g o G) p 8 := by
        intro c hc hu
        rw [coN_fix (k := 5) (by omega) (by omega) (by omega), coN_fix (k := 6) (by omega) (by omega) (by omega), moN_fix (k := 67) (by omega) (by omega) (by omega) (by omega) (by omega) (by omega), moN_fix (k := 68) (by omega) (by omega) (by omega) (by omega) (by omega) (by omega)]
        exact hT c hc hu
      have h := out_one (o := o) (hR.row (hF o) (hG o)) (by rw [hF o 17 (by omega) (by omega)]; exact hp) (m := m) (by rw [hG o 36 (by omega) (by omega)]; exact hm) hm4 hlt hT'
      obtain ⟨a1, a2, ⟨t, t1, t2, t3⟩, a4, a5, a6, a7, a8, a9⟩ := h
      have et : cT (coN r g o F) r o = t := by unfold cT; rw [t2, nI_clamp (by omega)]
      have hsn : ∀ c, snN (F 19 r 0) (F 18 r 0) (nI c) (o + 1) ≤ snN (F 19 r 0) (F 18 r 0) (nI c) m := fun c => snN_mono (by omega)
      constructor
      · refine ⟨by omega, by rw [et]; exact t2, by omega, a4, a6, a8, by rw [coN_fix (k := 9) (by omega) (by omega) (by omega)]; exact hg, fun h0 => ?_⟩
        have hl := (hq t t1).1
        have el : cL (coN r g o F) r o = q t + snN (F 19 r 0) (F 18 r 0) (nI t) o := by
          unfold cL
          rw [et, hl, nI_clamp (by have := (hq t t1).2.1; omega)]
        rw [et, el]
        refine ⟨hl, ?_⟩
        have h1 := hsn t
        have h2 := hrm8 t t1
        rw [snN_step, if_pos ⟨by rw [← hF o 19 (by omega) (by omega)]; exact h0, by rw [← hF o 18 (by omega) (by omega)]; exact t2⟩] at h1
        omega
      · rcases t3 with ⟨h0, ht⟩ | ⟨h0, ht, -, -⟩
        · have eo : oT (moN i g o G) i o = t := by unfold oT; rw [ht, nI_clamp (by omega)]
          refine ⟨by omega, by rw [eo]; exact ht, by omega, a5, a7, a9, by rw [moN_fix (k := 30) (by omega) (by omega) (by omega) (by omega) (by omega) (by omega)]; exact hg2, fun _ => ?_⟩
          have hl := (hq t t1).2.2.1
          have el : oL (moN i g o G) t = q t + snN (F 19 r 0) (F 18 r 0) (nI t) o := by
            unfold oL
            rw [hl, nI_clamp (by have := (hq t t1).2.1; omega)]
          rw [eo, el]
          refine ⟨hl, ?_⟩
          have h1 := hsn t
          have h2 := hrm8 t t1
          rw [snN_step, if_pos ⟨by rw [← hF o 19 (by omega) (by omega)]; exact h0, by rw [← hF o 18 (by omega) (by omega)]; exact t2⟩] at h1
          omega
        · have eo : oT (moN i g o G) i o = 8 + t := by unfold oT; rw [ht, nI_clamp (by omega)]
          exact ⟨by omega, by rw [eo]; exact ht, by omega, a5, a7, a9, by rw [moN_fix (k := 30) (by omega) (by omega) (by omega) (by omega) (by omega) (by omega)]; exact hg2, fun z => absurd z (by omega)⟩
    have step : ∀ o, o ≤ m → QcR (coN r g o F) W (moN i g o G) B (fun c => q c + snN (F 19 r 0) (F 18 r 0) (nI c) o) ∧ SlR (coN r g o F) (moN i g o G) (pnd p rm g (G 68 0 0) 8 (dnO F r o)) := by
      intro o
      induction o with
      | zero =>
        intro _
        refine ⟨hQ, fun t ht hn => hS t ht (fun z => hn ?_)⟩
        obtain ⟨c, c1, c2, c3, c4, c5, -⟩ := z
        exact ⟨c, c1, c2, c3, c4, c5, fun ⟨o', z1, _⟩ => absurd z1 (by omega)⟩
      | succ o ih =>
        intro ho
        obtain ⟨iq, is⟩ := ih (by omega)
        obtain ⟨ok1, ok2⟩ := main o (by omega) iq (by omega)
        have hT' : TnR (coN r g o F) (moN i g o G) p 8 := by
          intro c hc hu
          rw [coN_fix (k := 5) (by omega) (by omega) (by omega), coN_fix (k := 6) (by omega) (by omega) (by omega), moN_fix (k := 67) (by omega) (by omega) (by omega) (by omega) (by omega) (by omega), moN_fix (k := 68) (by omega) (by omega) (by omega) (by omega) (by omega) (by omega)]
          exact hT c hc hu
        obtain ⟨a1, a2, ⟨t, t1, t2, t3⟩, -⟩ := out_one (o := o) (hR.row (hF o) (hG o)) (by rw [hF o 17 (by omega) (by omega)]; exact hp) (m := m) (by rw [hG o 36 (by omega) (by omega)]; exact hm) hm4 (by omega) hT'
        show QcR (coS (coN r g o F) r g o) W (moS (moN i g o G) i g o) B _ ∧ SlR (coS (coN r g o F) r g o) (moS (moN i g o G) i g o) _
        have hl := iq t t1
        have f19 := congrFun (hF o 19 (by omega) (by omega)) o
        have f18 := congrFun (hF o 18 (by omega) (by omega)) o
        rcases t3 with ⟨h0, ht⟩ | ⟨h0, ht, hup, hur⟩
        · rw [coS_p h0 t2 t1 hl.1 hl.2.1 a1, moS_p ht t1 hl.2.2.1 hl.2.1 rfl]
          have hlt : q t + snN (F 19 r 0) (F 18 r 0) (nI t) o < 8 := by
            have h1 : snN (F 19 r 0) (F 18 r 0) (nI t) (o + 1) ≤ snN (F 19 r 0) (F 18 r 0) (nI t) m := snN_mono (by omega)
            have h2 := hrm8 t t1
            rw [snN_step, if_pos ⟨by rw [← f19]; exact h0, by rw [← f18]; exact t2⟩] at h1
            omega
          constructor
          · have hh := put_q iq t1 hlt a2 (by rw [coN_fix (k := 7) (by omega) (by omega) (by omega), moN_fix (k := 30) (by omega) (by omega) (by omega) (by omega) (by omega) (by omega)]; exact hs) (-1)
            refine hh.cong (fun c hc => ?_)
            by_cases ec : c = t
            · rw [ec, va_up_s, snN_step, if_pos ⟨by rw [← f19]; exact h0, by rw [← f18]; exact t2⟩]
              omega
            · rw [va_up_n ec, snN_step, if_neg (fun e8 => ec ?_)]
              have e9 := e8.2
              rw [← f18, t2] at e9
              exact ((nI_eq (by omega) (by omega)).mp e9).symm
          · refine SlR.mono (SlR.row is rfl rfl rfl rfl) (fun t9 y => ?_)
            obtain ⟨c, c1, c2, c3, c4, c5, c6⟩ := y
            exact ⟨c, c1, c2, c3, c4, c5, fun ⟨o', z1, z2, z3⟩ => c6 ⟨o', by
              by_cases e : o' = o
              · rw [e] at z2
                rw [← f19, h0] at z2
                exact absurd z2 (by decide)
              · omega, z2, z3⟩⟩
        · rw [coS_r h0 t2 t1 a1, moS_r ht t1 rfl]
          have e6 : coN r g o F 6 0 0 t = F 6 0 0 t := by rw [coN_fix (k := 6) (by omega) (by omega) (by omega)]
          have e68 : moN i g o G 68 0 0 t = G 68 0 0 t := by rw [moN_fix (k := 68) (by omega) (by omega) (by omega) (by omega) (by omega) (by omega)]
          have eT := (hT t t1 hup).2.2
          constructor
          · refine QcR.cong (QcR.row iq (fun k c h1 h2 hc => xSt_o (by omega) (by omega)) (fun c hc => rfl) (mSe_o (by omega) (by omega)) (mSe_o (by omega) (by omega)) (mSe_o (by omega) (by omega)) (mSe_o (by omega) (by omega)) (mSe_o (by omega) (by omega)) rfl) (fun c hc => ?_)
            rw [snN_step, if_neg (fun z => ?_)]
            have z1 := z.1
            rw [← f19, h0] at z1
            exact absurd z1 (by decide)
          · rw [e6, e68, eT]
            refine SlR.both is (fun t9 hn => ?_)
            by_cases hy : pnd p rm g (G 68 0 0) 8 (dnO F r o) t9
            · right
              obtain ⟨c, c1, c2, c3, c4, c5, c6⟩ := hy
              by_cases ec : c = t
              · subst ec
                exact ⟨c4, c5⟩
              · refine absurd ⟨c, c1, c2, c3, c4, c5, fun ⟨o', z1, z2, z3⟩ => c6 ⟨o', ?_, z2, z3⟩⟩ hn
                by_cases e : o' = o
                · rw [e, ← f18, t2] at z3
                  exact absurd ((nI_eq (by omega) (by omega)).mp z3).symm ec
                · omega
            · exact Or.inl hy
    exact ⟨step o ho, main o ho (step o ho).1⟩