/-- nothing but the cells of ad has changed -/
def Fx (V : Nat → Nat → Nat → Prop) (ad : xAd) (h h1 : mH) : Prop := ∀ a, (∀ k i j, V k i j → a ≠ ad k i j) → h1 a = h a
theorem xR.self {V : Nat → Nat → Nat → Prop} {ad : xAd} {h0 h : mH} {F : xFm} {W : xWm} {pm : Nat → Nat} (hR : xR V ad h0 F W pm h) : xR V ad h F W pm h := ⟨hR.1, hR.2.1, fun _ _ => rfl⟩
theorem xR.keep {V V' : Nat → Nat → Nat → Prop} {ad ad' : xAd} {h0 h h1 : mH} {F : xFm} {W : xWm} {pm : Nat → Nat} (hR : xR V ad h0 F W pm h) (hF : Fx V' ad' h h1) (hap : ∀ k i j k' i' j', V k i j → V' k' i' j' → ad k i j ≠ ad' k' i' j') : xR V ad h1 F W pm h1 :=
  ⟨fun k i j hv => by rw [hF _ (fun k' i' j' hv' => hap _ _ _ _ _ _ hv hv')]; exact hR.1 k i j hv, hR.2.1, fun _ _ => rfl⟩
theorem xR.ms {V : Nat → Nat → Nat → Prop} {ad : xAd} {h0 h : mH} {F : xFm} {W : xWm} {pm : Nat → Nat} (hR : xR V ad h0 F W pm h) {o : Nat} {e : mC} (ho : ∀ k i j, V k i j → ad k i j ≠ o) : xR V ad (mset h o e) F W pm (mset h o e) :=
  ⟨fun k i j hv => by rw [mset_n (ho k i j hv)]; exact hR.1 k i j hv, hR.2.1, fun _ _ => rfl⟩
/-- class, reference and the two rows lie apart -/
def LwA (ax ay : xAd) (o od : Nat) : Prop := (∀ k i j k' i' j', xV k i j → yV k' i' j' → ax k i j ≠ ay k' i' j') ∧ (∀ k i j, xV k i j → ax k i j ≠ o ∧ ax k i j ≠ od) ∧ (∀ k i j, yV k i j → ay k i j ≠ o ∧ ay k i j ≠ od) ∧ o ≠ od
def LwO (o od : Nat) (h : mH) : Prop := (∃ w, h o = some (.inl (1, 1, .inr (.inl w)))) ∧ ∃ f, h od = some (.inl (5, 1, .inr (.inr (.inr (.inl f)))))
/-- what holds between two calls of the law -/
def LwI (ax ay : xAd) (o od N : Nat) (h : mH) : Prop := ∃ F W pm G B pm' q g rn po bl sv, xR xV ax h F W pm h ∧ xR yV ay h G B pm' h ∧ AllR F W pm G B q g N rn po bl sv ∧ LwO o od h
def cP (V : Nat → Nat → Nat → Prop) (ad : xAd) (RX : xFm → xWm → (Nat → Nat) → Prop) (h h1 : mH) : Prop := ∃ F W pm, RX F W pm ∧ xR V ad h F W pm h1
theorem cP.fx {V : Nat → Nat → Nat → Prop} {ad : xAd} {RX : xFm → xWm → (Nat → Nat) → Prop} {h h1 : mH} (hc : cP V ad RX h h1) : Fx V ad h h1 := by
  obtain ⟨F, W, pm, -, hR⟩ := hc
  exact hR.2.2
theorem xV0 : xV 0 0 0 := by unfold xV; omega
theorem yV0 : yV 30 0 0 := by unfold yV; omega
section
variable {l : Launch} {D : va_G} {aC : Nat → ClassId} {ax ay : xAd} {o od N N' : Nat} {h : mH}
/-- a call that never throws: both answer v -/
def BkN (l : Launch) (D : va_G) (aC : Nat → ClassId) (ax ay : xAd) (o od N' : Nat) (μ ν : mM) (v : Value) (h : mH) : Prop :=
  (∃ fs, h (ax 0 0 0) = some (.inr (5, fs))) ∧ ∃ P : mH → Prop, mCon l D aC μ [.ref (ax 0 0 0)] h (fun r h1 => r = some v ∧ P h1) ∧ ∀ h1, P h1 → (∃ fs, h1 (ay 30 0 0) = some (.inr (6, fs))) ∧ ∃ Q : mH → Prop, mCon l D aC ν [.ref (ay 30 0 0)] h1 (fun r h2 => r = some v ∧ Q h2) ∧ ∀ h2, Q h2 → LwI ax ay o od N' h2
theorem BkN.of {F : xFm} {W : xWm} {pm : Nat → Nat} {G : xFm} {B : xWm} {pm' : Nat → Nat} {μ ν : mM} {v : Value} {RX RY : xFm → xWm → (Nat → Nat) → Prop} {P : mH → Prop} (A : LwA ax ay o od) (hx : xR xV ax h F W pm h) (hy : xR yV ay h G B pm' h) (ho : LwO o od h)
    (hC : mCon l D aC μ [.ref (ax 0 0 0)] h (fun r h1 => r = some v ∧ P h1)) (hP : ∀ h1, P h1 → cP xV ax RX h h1)
    (hM : ∀ h1, xR yV ay h1 G B pm' h1 → ∃ Q : mH → Prop, mCon l D aC ν [.ref (ay 30 0 0)] h1 (fun r h2 => r = some v ∧ Q h2) ∧ ∀ h2, Q h2 → cP yV ay RY h1 h2)
    (hA : ∀ F' W' pm1 G' B' pm2, RX F' W' pm1 → RY G' B' pm2 → ∃ q g rn po bl sv, AllR F' W' pm1 G' B' q g N' rn po bl sv) : BkN l D aC ax ay o od N' μ ν v h := by
  refine ⟨⟨_, (hx.1 0 0 0 xV0).trans rfl⟩, P, hC, fun h1 h1P => ?_⟩
  obtain ⟨F', W', pm1, hrx, hx1⟩ := hP h1 h1P
  have fx : Fx xV ax h h1 := hx1.2.2
  have hy1 := hy.keep fx (fun k i j k' i' j' a b z => A.1 _ _ _ _ _ _ b a z.symm)
  refine ⟨⟨_, (hy1.1 30 0 0 yV0).trans rfl⟩, ?_⟩
  obtain ⟨Q, q1, q2⟩ := hM h1 hy1
  refine ⟨Q, q1, fun h2 h2Q => ?_⟩
  obtain ⟨G', B', pm2, hry, hy2⟩ := q2 h2 h2Q
  have fy : Fx yV ay h1 h2 := hy2.2.2
  obtain ⟨q, g, rn, po, bl, sv, hall⟩ := hA _ _ _ _ _ _ hrx hry
  refine ⟨F', W', pm1, G', B', pm2, q, g, rn, po, bl, sv, hx1.keep fy (fun k i j k' i' j' a b => A.1 _ _ _ _ _ _ a b), hy2.self, hall, ?_⟩
  obtain ⟨⟨w, hw⟩, ⟨f, hf⟩⟩ := ho
  refine ⟨⟨w, ?_⟩, ⟨f, ?_⟩⟩
  · rw [fy _ (fun k i j hv z => (A.2.2.1 k i j hv).1 z.symm), fx _ (fun k i j hv z => (A.2.1 k i j hv).1 z.symm)]
    exact hw
  · rw [fy _ (fun k i j hv z => (A.2.2.1 k i j hv).2 z.symm), fx _ (fun k i j hv z => (A.2.1 k i j hv).2 z.symm)]
    exact hf
/-- a call that may throw: k, then the reference, then thrown, then the answers -/
def BkX (l : Launch) (D : va_G) (aC : Nat → ClassId) (ax ay : xAd) (o od N' : Nat) (μ : mM) (hh : mHh) (ν : mM) (As : List Value) (h : mH) : Prop :=
  ∃ (k : Nat) (P : mH → Prop), k < 100 ∧ mHon l D aC μ hh (.ref (ax 0 0 0) :: (As ++ [.ref o])) h (fun r h1 => r = some (.int (nI k)) ∧ P h1) ∧ ∀ h1, P h1 → (∃ fs, h1 (ay 30 0 0) = some (.inr (6, fs))) ∧ ∃ (b : Int32) (Q : mH → Prop), mCon l D aC ν (.ref (ay 30 0 0) :: As) h1 (fun r h2 => r = some (.int b) ∧ Q h2) ∧ ∀ h2, Q h2 → (∃ fs, h2 (ay 30 0 0) = some (.inr (6, fs))) ∧ mCon l D aC mX6_thrown [.ref (ay 30 0 0)] h2 (mRi (nI k) (fun h3 => h3 = h2)) ∧ (∃ w, h2 o = some (.inl (1, 1, .inr (.inl w))) ∧ (k = 0 → w 0 = b.toInt64)) ∧ LwI ax ay o od N' h2
theorem BkX.tail {F' : xFm} {W' : xWm} {pm1 : Nat → Nat} {G : xFm} {B : xWm} {pm' : Nat → Nat} {ν : mM} {As : List Value} {b : Int32} {k : Nat} {RY : xFm → xWm → (Nat → Nat) → Prop} {h1 : mH} {w : Nat → Int64} {f : Nat → UInt64} (A : LwA ax ay o od) (hx1 : xR xV ax h1 F' W' pm1 h1) (hy1 : xR yV ay h1 G B pm' h1) (hw : h1 o = some (.inl (1, 1, .inr (.inl w)))) (hf : h1 od = some (.inl (5, 1, .inr (.inr (.inr (.inl f)))))) (hk : k = 0 → w 0 = b.toInt64)
    (hM : ∀ h1, xR yV ay h1 G B pm' h1 → ∃ Q : mH → Prop, mCon l D aC ν (.ref (ay 30 0 0) :: As) h1 (fun r h2 => r = some (.int b) ∧ Q h2) ∧ ∀ h2, Q h2 → cP yV ay RY h1 h2)
    (hA : ∀ G' B' pm2, RY G' B' pm2 → G' 30 0 0 0 = nI k ∧ ∃ q g rn po bl sv, AllR F' W' pm1 G' B' q g N' rn po bl sv) :
    (∃ fs, h1 (ay 30 0 0) = some (.inr (6, fs))) ∧ ∃ (b : Int32) (Q : mH → Prop), mCon l D aC ν (.ref (ay 30 0 0) :: As) h1 (fun r h2 => r = some (.int b) ∧ Q h2) ∧ ∀ h2, Q h2 → (∃ fs, h2 (ay 30 0 0) = some (.inr (6, fs))) ∧ mCon l D aC mX6_thrown [.ref (ay 30 0 0)] h2 (mRi (nI k) (fun h3 => h3 = h2)) ∧ (∃ w, h2 o = some (.inl (1, 1, .inr (.inl w))) ∧ (k = 0 → w 0 = b.toInt64)) ∧ LwI ax ay o od N' h2 := by
  refine ⟨⟨_, (hy1.1 30 0 0 yV0).trans rfl⟩, b, ?_⟩
  obtain ⟨Q, q1, q2⟩ := hM h1 hy1
  refine ⟨Q, q1, fun h2 h2Q => ?_⟩
  obtain ⟨G', B', pm2, hry, hy2⟩ := q2 h2 h2Q
  have fy : Fx yV ay h1 h2 := hy2.2.2
  obtain ⟨h0, q, g, rn, po, bl, sv, hall⟩ := hA _ _ _ hry
  have ew : h2 o = some (.inl (1, 1, .inr (.inl w))) := by
    rw [fy _ (fun k i j hv z => (A.2.2.1 k i j hv).1 z.symm)]
    exact hw
  have ef : h2 od = some (.inl (5, 1, .inr (.inr (.inr (.inl f))))) := by
    rw [fy _ (fun k i j hv z => (A.2.2.1 k i j hv).2 z.symm)]
    exact hf
  have ht := k_X6_thrown (l := l) (D := D) (aC := aC) hy2
  rw [h0] at ht
  exact ⟨⟨_, (hy2.1 30 0 0 yV0).trans rfl⟩, ht, ⟨w, ew, hk⟩, F', W', pm1, G', B', pm2, q, g, rn, po, bl, sv, hx1.keep fy (fun k i j k' i' j' a b => A.1 _ _ _ _ _ _ a b), hy2.self, hall, ⟨w, ew⟩, ⟨f, ef⟩⟩
/-- it answers v -/
theorem BkX.ok {F : xFm} {W : xWm} {pm : Nat → Nat} {G : xFm} {B : xWm} {pm' : Nat → Nat} {μL : mM} {hh : mHh} {μ ν : mM} {As : List Value} {v : Int32} {RX RY : xFm → xWm → (Nat → Nat) → Prop} {P : mH → Prop} (A : LwA ax ay o od) (hx : xR xV ax h F W pm h) (hy : xR yV ay h G B pm' h) (ho : LwO o od h)
    (hL : ∀ w : Nat → Int64, mCon l D aC μ (.ref (ax 0 0 0) :: As) h (mRi v P) → (∀ h', P h' → h' o = some (.inl (1, 1, .inr (.inl w)))) → mHon l D aC μL hh (.ref (ax 0 0 0) :: (As ++ [.ref o])) h (mRi (nI 0) (fun h2 => ∃ h1, P h1 ∧ h2 = mset h1 o (.inl (1, 1, .inr (.inl (vp_updL w 0 v.toInt64)))))))
    (hC : mCon l D aC μ (.ref (ax 0 0 0) :: As) h (mRi v P)) (hP : ∀ h1, P h1 → cP xV ax RX h h1)
    (hM : ∀ h1, xR yV ay h1 G B pm' h1 → ∃ Q : mH → Prop, mCon l D aC ν (.ref (ay 30 0 0) :: As) h1 (fun r h2 => r = some (.int v) ∧ Q h2) ∧ ∀ h2, Q h2 → cP yV ay RY h1 h2)
    (hA : ∀ F' W' pm1 G' B' pm2, RX F' W' pm1 → RY G' B' pm2 → G' 30 0 0 0 = nI 0 ∧ ∃ q g rn po bl sv, AllR F' W' pm1 G' B' q g N' rn po bl sv) : BkX l D aC ax ay o od N' μL hh ν As h := by
  obtain ⟨⟨w, hw⟩, ⟨f, hf⟩⟩ := ho
  have ko : ∀ h1, P h1 → h1 o = some (.inl (1, 1, .inr (.inl w))) := fun h1 h1P => by
    rw [(hP h1 h1P).fx _ (fun k i j hv z => (A.2.1 k i j hv).1 z.symm)]
    exact hw
  refine ⟨0, _, by omega, hL w hC ko, fun h2 h2P => ?_⟩
  obtain ⟨h1, h1P, rfl⟩ := h2P
  obtain ⟨F', W', pm1, hrx, hx1⟩ := hP h1 h1P
  have fx : Fx xV ax h h1 := hx1.2.2
  have hy1 := hy.keep fx (fun k i j k' i' j' a b z => A.1 _ _ _ _ _ _ b a z.symm)
  have hf1 : h1 od = some (.inl (5, 1, .inr (.inr (.inr (.inl f))))) := by
    rw [fx _ (fun k i j hv z => (A.2.1 k i j hv).2 z.symm)]
    exact hf
  exact BkX.tail (w := vp_updL w 0 v.toInt64) (f := f) A (hx1.ms (fun k i j hv => (A.2.1 k i j hv).1)) (hy1.ms (fun k i j hv => (A.2.2.1 k i j hv).1)) mset_s (by rw [mset_n (Ne.symm A.2.2.2)]; exact hf1) (fun _ => updL_s) hM (fun G' B' pm2 hry => hA _ _ _ _ _ _ hrx hry)
/-- it throws the k-th of its exceptions -/
theorem BkX.no {F : xFm} {W : xWm} {pm : Nat → Nat} {G : xFm} {B : xWm} {pm' : Nat → Nat} {μL : mM} {hh : mHh} {ν : mM} {As : List Value} {b : Int32} {k : Nat} {RX RY : xFm → xWm → (Nat → Nat) → Prop} {P : mH → Prop} (A : LwA ax ay o od) (hx : xR xV ax h F W pm h) (hy : xR yV ay h G B pm' h) (ho : LwO o od h) (hk0 : 0 < k) (hk : k < 100)
    (hL : mHon l D aC μL hh (.ref (ax 0 0 0) :: (As ++ [.ref o])) h (mRi (nI k) P)) (hP : ∀ h1, P h1 → cP xV ax RX h h1)
    (hM : ∀ h1, xR yV ay h1 G B pm' h1 → ∃ Q : mH → Prop, mCon l D aC ν (.ref (ay 30 0 0) :: As) h1 (fun r h2 => r = some (.int b) ∧ Q h2) ∧ ∀ h2, Q h2 → cP yV ay RY h1 h2)
    (hA : ∀ F' W' pm1 G' B' pm2, RX F' W' pm1 → RY G' B' pm2 → G' 30 0 0 0 = nI k ∧ ∃ q g rn po bl sv, AllR F' W' pm1 G' B' q g N' rn po bl sv) : BkX l D aC ax ay o od N' μL hh ν As h := by
  obtain ⟨⟨w, hw⟩, ⟨f, hf⟩⟩ := ho
  refine ⟨k, P, hk, hL, fun h1 h1P => ?_⟩
  obtain ⟨F', W', pm1, hrx, hx1⟩ := hP h1 h1P
  have fx : Fx xV ax h h1 := hx1.2.2
  have hy1 := hy.keep fx (fun k i j k' i' j' a b z => A.1 _ _ _ _ _ _ b a z.symm)
  have hf1 : h1 od = some (.inl (5, 1, .inr (.inr (.inr (.inl f))))) := by
    rw [fx _ (fun k i j hv z => (A.2.1 k i j hv).2 z.symm)]
    exact hf
  have hw1 : h1 o = some (.inl (1, 1, .inr (.inl w))) := by
    rw [fx _ (fun k i j hv z => (A.2.1 k i j hv).1 z.symm)]
    exact hw
  exact BkX.tail (w := w) (f := f) A hx1.self hy1 hw1 hf1 (fun z => by omega) hM (fun G' B' pm2 hry => hA _ _ _ _ _ _ hrx hry)
end
