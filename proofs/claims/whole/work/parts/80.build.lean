def F0z : xFm := fun k _ _ n => if (k = 7 ∧ n = 4) ∨ (k = 30 ∧ n = 12) then -1 else 0
def W0z : xWm := fun _ _ _ _ => 0
def p0 : Nat → Nat := fun i => i
abbrev xZ (ad : xAd) (k i j : Nat) : mC := xC ad p0 (F0z k i j) (W0z k i j) k i j
abbrev Pk : Type := Nat → Nat → Nat → Prop
def sV (k0 i0 j0 : Nat) : Pk := fun k i j => k = k0 ∧ i = i0 ∧ j = j0
/-- the cells V hang on the addresses U alone -/
def clo (V U : Pk) : Prop := ∀ (ad ad' : xAd), (∀ k i j, U k i j → ad k i j = ad' k i j) → ∀ k i j, V k i j → xZ ad k i j = xZ ad' k i j
noncomputable def adM (U : Pk) (ad2 ad1 : xAd) : xAd := fun k i j => @ite _ (U k i j) (Classical.propDecidable _) (ad2 k i j) (ad1 k i j)
theorem adM_t {U : Pk} {ad2 ad1 : xAd} {k i j : Nat} (h : U k i j) : adM U ad2 ad1 k i j = ad2 k i j := if_pos h
theorem adM_f {U : Pk} {ad2 ad1 : xAd} {k i j : Nat} (h : ¬ U k i j) : adM U ad2 ad1 k i j = ad1 k i j := if_neg h
/-- cells made so far; those at sp are still being made -/
def qR (V U : Pk) (ad : xAd) (sp : Nat → Prop) (h0 h : mH) : Prop := (∀ k i j, V k i j → h (ad k i j) = some (xZ ad k i j)) ∧ (∀ k i j k' i' j', V k i j → V k' i' j' → ad k i j = ad k' i' j' → k = k' ∧ i = i' ∧ j = j') ∧ (∀ k i j, V k i j → ¬ sp (ad k i j) ∧ h0 (ad k i j) = none) ∧ (∀ b, ¬ sp b → (∀ k i j, V k i j → b ≠ ad k i j) → h b = h0 b) ∧ (∀ b, sp b → ∃ e, h b = some e) ∧ clo V U ∧ ∀ k i j, V k i j → U k i j
/-- an object made, its root at a -/
def fR (V U : Pk) (ad : xAd) (a : Nat) (h h' : mH) : Prop := (∀ k i j, V k i j → h' (ad k i j) = some (xZ ad k i j)) ∧ (∀ k i j k' i' j', V k i j → V k' i' j' → ad k i j = ad k' i' j' → k = k' ∧ i = i' ∧ j = j') ∧ (∀ k i j, V k i j → ad k i j = a ∨ h (ad k i j) = none) ∧ (∀ b, (∀ k i j, V k i j → b ≠ ad k i j) → h' b = h b) ∧ (∃ k i j, V k i j ∧ ad k i j = a) ∧ clo V U ∧ ∀ k i j, V k i j → U k i j
theorem clo.or {V U V2 U2 : Pk} (h1 : clo V U) (h2 : clo V2 U2) : clo (fun k i j => V k i j ∨ V2 k i j) (fun k i j => U k i j ∨ U2 k i j) := by
  intro ad ad' ha k i j hv
  rcases hv with hv | hv
  · exact h1 ad ad' (fun k i j hu => ha k i j (Or.inl hu)) k i j hv
  · exact h2 ad ad' (fun k i j hu => ha k i j (Or.inr hu)) k i j hv
theorem clo.par {V U : Pk} {k0 i0 j0 : Nat} (h1 : clo V U) (h2 : ∀ ad ad' : xAd, (∀ k i j, U k i j → ad k i j = ad' k i j) → xZ ad k0 i0 j0 = xZ ad' k0 i0 j0) : clo (fun k i j => V k i j ∨ sV k0 i0 j0 k i j) (fun k i j => U k i j ∨ sV k0 i0 j0 k i j) := by
  intro ad ad' ha k i j hv
  rcases hv with hv | hv
  · exact h1 ad ad' (fun k i j hu => ha k i j (Or.inl hu)) k i j hv
  · obtain ⟨rfl, rfl, rfl⟩ := hv
    exact h2 ad ad' (fun k i j hu => ha k i j (Or.inl hu))
section
variable {V U Vc Uc : Pk} {ad adc : xAd} {sp : Nat → Prop} {h0 h h2 : mH} {a b : Nat} {e raw : mC}
theorem qR.init (ha : h a = some e) : qR (fun _ _ _ => False) (fun _ _ _ => False) (fun _ _ _ => 0) (fun x => x = a) h h :=
  ⟨fun _ _ _ z => z.elim, fun _ _ _ _ _ _ z => z.elim, fun _ _ _ z => z.elim, fun _ _ _ => rfl, fun b hb => ⟨e, by rw [hb]; exact ha⟩, fun _ _ _ _ _ _ z => z.elim, fun _ _ _ z => z.elim⟩
theorem qR.put (q : qR V U ad sp h0 h) (hb : sp b) : qR V U ad sp h0 (mset h b e) := by
  obtain ⟨q1, q2, q3, q4, q5, q6, q7⟩ := q
  refine ⟨fun k i j hv => ?_, q2, q3, fun x h1 h2 => ?_, fun x hx => ?_, q6, q7⟩
  · rw [mset_n (fun z => (q3 k i j hv).1 (by rw [z]; exact hb))]
    exact q1 k i j hv
  · rw [mset_n (fun z => h1 (by rw [z]; exact hb))]
    exact q4 x h1 h2
  · by_cases z : x = b
    · rw [z, mset_s]
      exact ⟨e, rfl⟩
    · rw [mset_n z]
      exact q5 x hx
theorem qR.none0 (q : qR V U ad sp h0 h) (hb : h b = none) : ¬ sp b ∧ (∀ k i j, V k i j → b ≠ ad k i j) ∧ h0 b = none := by
  have h1 : ¬ sp b := fun z => by
    obtain ⟨e, he⟩ := q.2.2.2.2.1 b z
    rw [hb] at he
    cases he
  have h2 : ∀ k i j, V k i j → b ≠ ad k i j := fun k i j hv z => by
    have := q.1 k i j hv
    rw [← z, hb] at this
    cases this
  exact ⟨h1, h2, (q.2.2.2.1 b h1 h2).symm.trans hb⟩
theorem qR.spec (q : qR V U ad sp h0 h) (hb : h b = none) : qR V U ad (fun x => sp x ∨ x = b) h0 (mset h b e) ∧ (∀ x, sp x → mset h b e x = h x) ∧ h0 b = none := by
  obtain ⟨n1, n2, n3⟩ := q.none0 hb
  obtain ⟨q1, q2, q3, q4, q5, q6, q7⟩ := q
  refine ⟨⟨fun k i j hv => ?_, q2, fun k i j hv => ⟨fun z => ?_, (q3 k i j hv).2⟩, fun x h1 h2 => ?_, fun x hx => ?_, q6, q7⟩, fun x hx => mset_n (fun z => n1 (by rw [← z]; exact hx)), n3⟩
  · rw [mset_n (fun z => n2 k i j hv z.symm)]
    exact q1 k i j hv
  · rcases z with z | z
    · exact (q3 k i j hv).1 z
    · exact n2 k i j hv z.symm
  · rw [mset_n (fun z => h1 (Or.inr z))]
    exact q4 x (fun z => h1 (Or.inl z)) h2
  · by_cases z : x = b
    · rw [z, mset_s]
      exact ⟨e, rfl⟩
    · rw [mset_n z]
      exact q5 x (hx.resolve_right z)
theorem qR.child (q : qR V U ad sp h0 h) (hb : h b = none) (f : fR Vc Uc adc b (mset h b raw) h2) (dj : ∀ k i j, U k i j → ¬ Uc k i j) : qR (fun k i j => V k i j ∨ Vc k i j) (fun k i j => U k i j ∨ Uc k i j) (adM Uc adc ad) sp h0 h2 ∧ ∀ x, sp x → h2 x = h x := by
  obtain ⟨n1, n2, n3⟩ := q.none0 hb
  obtain ⟨q1, q2, q3, q4, q5, q6, q7⟩ := q
  obtain ⟨f1, f2, f3, f4, ⟨kr, ir, jr, fr1, fr2⟩, f6, f7⟩ := f
  have old : ∀ x y, h x = some y → ∀ k i j, Vc k i j → x ≠ adc k i j := by
    intro x y hx k i j hv z
    rcases f3 k i j hv with w | w
    · rw [z, w, hb] at hx
      cases hx
    · by_cases w2 : adc k i j = b
      · rw [z, w2, hb] at hx
        cases hx
      · rw [mset_n w2, ← z, hx] at w
        cases w
  have keep : ∀ x y, h x = some y → h2 x = h x := by
    intro x y hx
    rw [f4 x (old x y hx), mset_n]
    intro z
    rw [z, hb] at hx
    cases hx
  have aV : ∀ k i j, V k i j → adM Uc adc ad k i j = ad k i j := fun k i j hv => adM_f (dj k i j (q7 k i j hv))
  have aC9 : ∀ k i j, Vc k i j → adM Uc adc ad k i j = adc k i j := fun k i j hv => adM_t (f7 k i j hv)
  have new : ∀ k i j, Vc k i j → h (adc k i j) = none := by
    intro k i j hv
    rcases f3 k i j hv with w | w
    · rw [w]
      exact hb
    · by_cases w2 : adc k i j = b
      · rw [w2]
        exact hb
      · rw [mset_n w2] at w
        exact w
  have cx : ∀ k i j k' i' j', V k i j → Vc k' i' j' → ad k i j ≠ adc k' i' j' := fun k i j k' i' j' hv hv' => old _ _ (q1 k i j hv) _ _ _ hv'
  refine ⟨⟨fun k i j hv => ?_, fun k i j k' i' j' hv hv' hh => ?_, fun k i j hv => ?_, fun x h1 h2' => ?_, fun x hx => ?_, q6.or f6, fun k i j hv => ?_⟩, fun x hx => ?_⟩
  · rcases hv with hv | hv
    · rw [aV k i j hv, keep _ _ (q1 k i j hv), q1 k i j hv]
      exact congrArg some (q6 _ _ (fun k i j hu => (adM_f (dj k i j hu)).symm) k i j hv)
    · rw [aC9 k i j hv, f1 k i j hv]
      exact congrArg some (f6 _ _ (fun k i j hu => (adM_t hu).symm) k i j hv)
  · rcases hv with hv | hv <;> rcases hv' with hv' | hv'
    · rw [aV _ _ _ hv, aV _ _ _ hv'] at hh
      exact q2 _ _ _ _ _ _ hv hv' hh
    · rw [aV _ _ _ hv, aC9 _ _ _ hv'] at hh
      exact absurd hh (cx _ _ _ _ _ _ hv hv')
    · rw [aC9 _ _ _ hv, aV _ _ _ hv'] at hh
      exact absurd hh.symm (cx _ _ _ _ _ _ hv' hv)
    · rw [aC9 _ _ _ hv, aC9 _ _ _ hv'] at hh
      exact f2 _ _ _ _ _ _ hv hv' hh
  · rcases hv with hv | hv
    · rw [aV k i j hv]
      exact q3 k i j hv
    · rw [aC9 k i j hv]
      have nn := new k i j hv
      have m1 : ¬ sp (adc k i j) := fun z => by
        obtain ⟨e, he⟩ := q5 _ z
        rw [nn] at he
        cases he
      have m2 : ∀ k' i' j', V k' i' j' → adc k i j ≠ ad k' i' j' := fun k' i' j' hv' z => cx _ _ _ _ _ _ hv' hv z.symm
      exact ⟨m1, (q4 _ m1 m2).symm.trans nn⟩
  · have x1 : ∀ k i j, V k i j → x ≠ ad k i j := fun k i j hv z => h2' k i j (Or.inl hv) (by rw [aV k i j hv]; exact z)
    have x2 : ∀ k i j, Vc k i j → x ≠ adc k i j := fun k i j hv z => h2' k i j (Or.inr hv) (by rw [aC9 k i j hv]; exact z)
    rw [f4 x x2, mset_n (fun z => x2 kr ir jr fr1 (by rw [fr2]; exact z))]
    exact q4 x h1 x1
  · obtain ⟨e, he⟩ := q5 x hx
    exact ⟨e, by rw [keep _ _ he]; exact he⟩
  · rcases hv with hv | hv
    · exact Or.inl (q7 k i j hv)
    · exact Or.inr (f7 k i j hv)
  · obtain ⟨e, he⟩ := q5 x hx
    exact keep _ _ he
theorem qR.leaf (q : qR V U ad sp h0 h) (hb : h b = none) (k0 i0 j0 : Nat) (he : ∀ ad, e = xZ ad k0 i0 j0) (nu : ¬ U k0 i0 j0) : qR (fun k i j => V k i j ∨ sV k0 i0 j0 k i j) (fun k i j => U k i j ∨ sV k0 i0 j0 k i j) (adM (sV k0 i0 j0) (fun _ _ _ => b) ad) sp h0 (mset h b e) ∧ ∀ x, sp x → mset h b e x = h x := by
  refine q.child (raw := e) hb ⟨fun k i j hv => ?_, fun k i j k' i' j' hv hv' _ => ?_, fun _ _ _ _ => Or.inl rfl, fun _ _ => rfl, ⟨k0, i0, j0, ⟨rfl, rfl, rfl⟩, rfl⟩, fun ad1 ad2 _ k i j hv => ?_, fun _ _ _ hv => hv⟩ (fun k i j hu hv => ?_)
  · obtain ⟨rfl, rfl, rfl⟩ := hv
    rw [mset_s]
    exact congrArg some (he _)
  · obtain ⟨rfl, rfl, rfl⟩ := hv
    obtain ⟨rfl, rfl, rfl⟩ := hv'
    exact ⟨rfl, rfl, rfl⟩
  · obtain ⟨rfl, rfl, rfl⟩ := hv
    rw [← he ad1]
    exact he ad2
  · obtain ⟨rfl, rfl, rfl⟩ := hv
    exact nu hu
theorem qR.absorb (q : qR V U ad sp h0 h) (hs : sp b) (h0b : h0 b = none) (k0 i0 j0 : Nat) (nu : ¬ U k0 i0 j0) (hr : h b = some (xZ (adM (sV k0 i0 j0) (fun _ _ _ => b) ad) k0 i0 j0)) (hc : ∀ ad ad' : xAd, (∀ k i j, U k i j → ad k i j = ad' k i j) → xZ ad k0 i0 j0 = xZ ad' k0 i0 j0) : qR (fun k i j => V k i j ∨ sV k0 i0 j0 k i j) (fun k i j => U k i j ∨ sV k0 i0 j0 k i j) (adM (sV k0 i0 j0) (fun _ _ _ => b) ad) (fun x => sp x ∧ x ≠ b) h0 h := by
  obtain ⟨q1, q2, q3, q4, q5, q6, q7⟩ := q
  have uV : ∀ k i j, U k i j → adM (sV k0 i0 j0) (fun _ _ _ => b) ad k i j = ad k i j := fun k i j hu => adM_f (fun z => by
    obtain ⟨rfl, rfl, rfl⟩ := z
    exact nu hu)
  have a0 : adM (sV k0 i0 j0) (fun _ _ _ => b) ad k0 i0 j0 = b := adM_t ⟨rfl, rfl, rfl⟩
  refine ⟨fun k i j hv => ?_, fun k i j k' i' j' hv hv' hh => ?_, fun k i j hv => ?_, fun x h1 h2 => ?_, fun x hx => q5 x hx.1, q6.par hc, fun k i j hv => ?_⟩
  · rcases hv with hv | hv
    · rw [uV k i j (q7 k i j hv), q1 k i j hv]
      exact congrArg some (q6 _ _ (fun k i j hu => (uV k i j hu).symm) k i j hv)
    · obtain ⟨rfl, rfl, rfl⟩ := hv
      rw [a0]
      exact hr
  · rcases hv with hv | hv <;> rcases hv' with hv' | hv'
    · rw [uV _ _ _ (q7 _ _ _ hv), uV _ _ _ (q7 _ _ _ hv')] at hh
      exact q2 _ _ _ _ _ _ hv hv' hh
    · obtain ⟨rfl, rfl, rfl⟩ := hv'
      rw [uV _ _ _ (q7 _ _ _ hv), a0] at hh
      exact absurd hs (by rw [← hh]; exact (q3 _ _ _ hv).1)
    · obtain ⟨rfl, rfl, rfl⟩ := hv
      rw [uV _ _ _ (q7 _ _ _ hv'), a0] at hh
      exact absurd hs (by rw [hh]; exact (q3 _ _ _ hv').1)
    · obtain ⟨rfl, rfl, rfl⟩ := hv
      obtain ⟨rfl, rfl, rfl⟩ := hv'
      exact ⟨rfl, rfl, rfl⟩
  · rcases hv with hv | hv
    · rw [uV k i j (q7 k i j hv)]
      exact ⟨fun z => (q3 k i j hv).1 z.1, (q3 k i j hv).2⟩
    · obtain ⟨rfl, rfl, rfl⟩ := hv
      rw [a0]
      exact ⟨fun z => z.2 rfl, h0b⟩
  · have xb : x ≠ b := fun z => h2 k0 i0 j0 (Or.inr ⟨rfl, rfl, rfl⟩) (by rw [a0]; exact z)
    exact q4 x (fun z => h1 ⟨z, xb⟩) (fun k i j hv z => h2 k i j (Or.inl hv) (by rw [uV k i j (q7 k i j hv)]; exact z))
  · rcases hv with hv | hv
    · exact Or.inl (q7 k i j hv)
    · exact Or.inr hv
theorem qR.fin (q : qR V U ad sp h0 h) (hsp : ∀ x, sp x ↔ x = a) (k0 i0 j0 : Nat) (nu : ¬ U k0 i0 j0) (hr : h a = some (xZ (adM (sV k0 i0 j0) (fun _ _ _ => a) ad) k0 i0 j0)) (hc : ∀ ad ad' : xAd, (∀ k i j, U k i j → ad k i j = ad' k i j) → xZ ad k0 i0 j0 = xZ ad' k0 i0 j0) : fR (fun k i j => V k i j ∨ sV k0 i0 j0 k i j) (fun k i j => U k i j ∨ sV k0 i0 j0 k i j) (adM (sV k0 i0 j0) (fun _ _ _ => a) ad) a h0 h ∧ adM (sV k0 i0 j0) (fun _ _ _ => a) ad k0 i0 j0 = a := by
  obtain ⟨q1, q2, q3, q4, q5, q6, q7⟩ := q
  have uV : ∀ k i j, U k i j → adM (sV k0 i0 j0) (fun _ _ _ => a) ad k i j = ad k i j := fun k i j hu => adM_f (fun z => by
    obtain ⟨rfl, rfl, rfl⟩ := z
    exact nu hu)
  have a0 : adM (sV k0 i0 j0) (fun _ _ _ => a) ad k0 i0 j0 = a := adM_t ⟨rfl, rfl, rfl⟩
  have sa : sp a := (hsp a).mpr rfl
  refine ⟨⟨fun k i j hv => ?_, fun k i j k' i' j' hv hv' hh => ?_, fun k i j hv => ?_, fun x h2 => ?_, ⟨k0, i0, j0, Or.inr ⟨rfl, rfl, rfl⟩, a0⟩, q6.par hc, fun k i j hv => ?_⟩, a0⟩
  · rcases hv with hv | hv
    · rw [uV k i j (q7 k i j hv), q1 k i j hv]
      exact congrArg some (q6 _ _ (fun k i j hu => (uV k i j hu).symm) k i j hv)
    · obtain ⟨rfl, rfl, rfl⟩ := hv
      rw [a0]
      exact hr
  · rcases hv with hv | hv <;> rcases hv' with hv' | hv'
    · rw [uV _ _ _ (q7 _ _ _ hv), uV _ _ _ (q7 _ _ _ hv')] at hh
      exact q2 _ _ _ _ _ _ hv hv' hh
    · obtain ⟨rfl, rfl, rfl⟩ := hv'
      rw [uV _ _ _ (q7 _ _ _ hv), a0] at hh
      exact absurd sa (by rw [← hh]; exact (q3 _ _ _ hv).1)
    · obtain ⟨rfl, rfl, rfl⟩ := hv
      rw [uV _ _ _ (q7 _ _ _ hv'), a0] at hh
      exact absurd sa (by rw [hh]; exact (q3 _ _ _ hv').1)
    · obtain ⟨rfl, rfl, rfl⟩ := hv
      obtain ⟨rfl, rfl, rfl⟩ := hv'
      exact ⟨rfl, rfl, rfl⟩
  · rcases hv with hv | hv
    · rw [uV k i j (q7 k i j hv)]
      exact Or.inr (q3 k i j hv).2
    · obtain ⟨rfl, rfl, rfl⟩ := hv
      exact Or.inl a0
  · have xb : x ≠ a := fun z => h2 k0 i0 j0 (Or.inr ⟨rfl, rfl, rfl⟩) (by rw [a0]; exact z)
    exact q4 x (fun z => xb ((hsp x).mp z)) (fun k i j hv z => h2 k i j (Or.inl hv) (by rw [uV k i j (q7 k i j hv)]; exact z))
  · rcases hv with hv | hv
    · exact Or.inl (q7 k i j hv)
    · exact Or.inr hv
theorem fR.to {V' U' : Pk} (f : fR V U ad a h h2) (hV : ∀ k i j, V' k i j ↔ V k i j) (hU : ∀ k i j, U k i j → U' k i j) : fR V' U' ad a h h2 := by
  obtain ⟨f1, f2, f3, f4, ⟨kr, ir, jr, fr1, fr2⟩, f6, f7⟩ := f
  exact ⟨fun k i j hv => f1 k i j ((hV k i j).mp hv), fun k i j k' i' j' hv hv' => f2 _ _ _ _ _ _ ((hV _ _ _).mp hv) ((hV _ _ _).mp hv'), fun k i j hv => f3 k i j ((hV k i j).mp hv), fun b hb => f4 b (fun k i j hv => hb k i j ((hV k i j).mpr hv)), ⟨kr, ir, jr, (hV _ _ _).mpr fr1, fr2⟩, fun ad1 ad2 ha k i j hv => f6 ad1 ad2 (fun k i j hu => ha k i j (hU k i j hu)) k i j ((hV k i j).mp hv), fun k i j hv => hU k i j (f7 k i j ((hV k i j).mp hv))⟩
end
def Vch (s c : Nat) : Pk := fun k i j => 13 ≤ k ∧ k ≤ 16 ∧ i = s ∧ j = c
def Vrl (r : Nat) : Pk := fun k i j => 17 ≤ k ∧ k ≤ 22 ∧ i = r ∧ j = 0
def Vtk (s : Nat) : Pk := fun k i j => 9 ≤ k ∧ k ≤ 11 ∧ i = s ∧ j = 0
def Vst (s : Nat) : Pk := fun k i j => (7 ≤ k ∧ k ≤ 12 ∧ i = s ∧ j = 0) ∨ (13 ≤ k ∧ k ≤ 16 ∧ i = s ∧ j < 8)
def Ust (s : Nat) : Pk := fun k i _ => 7 ≤ k ∧ k ≤ 16 ∧ i = s
def Vrd : Pk := fun k i j => (k = 2 ∧ i = 0 ∧ j = 0) ∨ (17 ≤ k ∧ k ≤ 22 ∧ i = 8 ∧ j = 0)
