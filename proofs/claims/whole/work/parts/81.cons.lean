section
variable {K : mK} {μ ν : mM} {cells slots pc : Nat} {L : List (Option Value)} {S : List Value} {h h0 : mH} {V U Vc Uc : Pk} {ad : xAd} {sp : Nat → Prop} {a : Nat}
/-- a row made and put into the root's final field -/
theorem cJ_arr {atype : ArrayType} {n : Int32} {a0 : vp_A} {ci sl idx : Nat} {fs : List Value} {ty : FieldType} (t N k0 i0 j0 : Nat) (q : qR V U ad sp h0 h) (hsa : sp a) (hr : h a = some (.inr (ci, fs))) (he : ∀ ad, (.inl (t, a0) : mC) = xZ ad k0 i0 j0) (nu : ¬ U k0 i0 j0) (hNo : mNo (kD K) (kC K) (ks K)) (ht : t = 0 ∨ t = 1 ∨ t = 2 ∨ t = 5) (hty : newarray.typeOf atype = mTy t) (ha : ∀ cA : ClassId, vp_cell cA a0 = arrV cA N (fun _ => defaultValue (mTy t))) (hw9 : Cond.arrayClass (newarray.typeOf atype) ∈ mTB) (hin : (kme K).name = "<init>") (hK : mCx K μ) (hd : decode μ.2.1 pc = .ok (.newarray atype, 2)) (hd2 : decode μ.2.1 (pc + 2) = .ok (.putfield idx, 3)) (hl : mFN μ.1.cls idx ci sl ty) (hnf : ∀ b, narrow ty (.ref b) = .ref b ∧ fits ty (.ref b) = true) (hk9 : sl < fs.length) (hn : n = nI N) (hN : N < 1000) (hc : cells + 1 ≤ (mRm μ).cells) (hs9 : slots + N ≤ (mRm μ).slots)
    (kk : ∀ b h' ad', qR (fun k i j => V k i j ∨ sV k0 i0 j0 k i j) (fun k i j => U k i j ∨ sV k0 i0 j0 k i j) ad' sp h0 h' → h' a = some (.inr (ci, fs.set sl (.ref b))) → (∀ x, sp x → x ≠ a → h' x = h x) → ad' k0 i0 j0 = b → (∀ k i j, U k i j → ad' k i j = ad k i j) → mJ K (cells + 1) (slots + N) (pc + 2 + 3) L S h') : mJ K cells slots pc L (.int n :: .ref a :: S) h := by
  refine mJ_newa t N hNo ht hty ha hw9 hK hd hn hN hc hs9 (fun b hb => ?_)
  obtain ⟨l1, l2⟩ := q.leaf (e := .inl (t, a0)) hb k0 i0 j0 he nu
  refine mJ_putF hin hK hd2 hl (hnf b).1 (hnf b).2 ((l2 a hsa).trans hr) hk9 ?_
  refine kk b _ _ (l1.put hsa) mset_s (fun x hx hxa => ?_) (adM_t ⟨rfl, rfl, rfl⟩) (fun k i j hu => adM_f (fun z => ?_))
  · rw [mset_n hxa]
    exact l2 x hx
  · obtain ⟨rfl, rfl, rfl⟩ := z
    exact nu hu
/-- an object made -/
theorem cJ_obj {idx ic ci kr ir jr : Nat} {fs : List Value} (nest : Bool) (q : qR V U ad sp h0 h) (dj : ∀ k i j, U k i j → ¬ Uc k i j) (hVr : Vc kr ir jr) (hUV : ∀ k i j, Vc k i j → Uc k i j) (hroot : ∀ ad, ∃ vs, xZ ad kr ir jr = .inr (ci, vs)) (hNo : mNo (kD K) (kC K) (ks K)) (hK : mCx K μ) (hd : decode μ.2.1 pc = .ok (.new idx, 3)) (hd2 : decode μ.2.1 (pc + 3) = .ok (.dup, 1)) (hd3 : decode μ.2.1 (pc + 3 + 1) = .ok (.invokespecial ic, 3)) (hnw : mNw μ.1.cls idx ci fs) (hl : (nest = true ∧ mLIN μ.1.cls ic ν) ∨ (nest = false ∧ mLI μ.1.cls ic ν)) (hR : mFit μ ν) (hc : cells + 1 + (mRm ν).cells ≤ (mRm μ).cells) (hs9 : slots + fs.length + (mRm ν).slots ≤ (mRm μ).slots) (h8 : ((Value.ref 0 :: S).map fun v => v.category).sum ≤ 8)
    (hM : ∀ b h1, h1 b = some (.inr (ci, fs)) → mNon (kl K) (kD K) (kC K) ν [.ref b] h1 (mRv (fun h' => ∃ adc, fR Vc Uc adc b h1 h' ∧ adc kr ir jr = b)))
    (kk : ∀ b h' ad', qR (fun k i j => V k i j ∨ Vc k i j) (fun k i j => U k i j ∨ Uc k i j) ad' sp h0 h' → (∀ x, sp x → h' x = h x) → ad' kr ir jr = b → (∃ vs, h' b = some (.inr (ci, vs))) → (∀ k i j, U k i j → ad' k i j = ad k i j) → mJ K (cells + 1 + (mRm ν).cells) (slots + fs.length + (mRm ν).slots) (pc + 3 + 1 + 3) L (.ref b :: S) h') : mJ K cells slots pc L S h := by
  refine mJ_new hK hd hnw (by omega) (by omega) (fun b hb => ?_)
  refine mJ_dup hK hd2 rfl ?_
  have go : ∀ h', (∃ adc, fR Vc Uc adc b (mset h b (.inr (ci, fs))) h' ∧ adc kr ir jr = b) → mJ K (cells + 1 + (mRm ν).cells) (slots + fs.length + (mRm ν).slots) (pc + 3 + 1 + 3) L (.ref b :: S) h' := by
    intro h' hf
    obtain ⟨adc, f, er⟩ := hf
    obtain ⟨l1, l2⟩ := q.child hb f dj
    refine kk b h' _ l1 l2 ((adM_t (hUV _ _ _ hVr)).trans er) ?_ (fun k i j hu => adM_f (dj k i j hu))
    obtain ⟨vs, hvs⟩ := hroot adc
    exact ⟨vs, by rw [← er, f.1 _ _ _ hVr, hvs]⟩
  rcases hl with ⟨-, hl⟩ | ⟨-, hl⟩
  · exact mJ_callIN hNo hK hd3 hl hR ⟨hc, hs9⟩ h8 (Q' := fun _ h' => ∃ adc, fR Vc Uc adc b (mset h b (.inr (ci, fs))) h' ∧ adc kr ir jr = b) (hM b _ mset_s) go
  · exact mJ_callI hNo hK hd3 hl hR ⟨hc, hs9⟩ h8 (Q' := fun _ h' => ∃ adc, fR Vc Uc adc b (mset h b (.inr (ci, fs))) h' ∧ adc kr ir jr = b) (hM b _ mset_s) go
theorem qR.to {V' U' : Pk} {sp' : Nat → Prop} (q : qR V U ad sp h0 h) (hV : ∀ k i j, V' k i j ↔ V k i j) (hU : ∀ k i j, U k i j → U' k i j) (hs : ∀ x, sp' x ↔ sp x) : qR V' U' ad sp' h0 h := by
  obtain ⟨f1, f2, f3, f4, f5, f6, f7⟩ := q
  exact ⟨fun k i j hv => f1 k i j ((hV k i j).mp hv), fun k i j k' i' j' hv hv' => f2 _ _ _ _ _ _ ((hV _ _ _).mp hv) ((hV _ _ _).mp hv'), fun k i j hv => ⟨fun z => (f3 k i j ((hV k i j).mp hv)).1 ((hs _).mp z), (f3 k i j ((hV k i j).mp hv)).2⟩, fun b hb h9 => f4 b (fun z => hb ((hs b).mpr z)) (fun k i j hv => h9 k i j ((hV k i j).mpr hv)), fun b hb => f5 b ((hs b).mp hb), fun ad1 ad2 ha k i j hv => f6 ad1 ad2 (fun k i j hu => ha k i j (hU k i j hu)) k i j ((hV k i j).mp hv), fun k i j hv => hU k i j (f7 k i j ((hV k i j).mp hv))⟩
theorem qR.fin' (q : qR V U ad sp h0 h) (hsp : ∀ x, sp x ↔ x = a) (k0 i0 j0 : Nat) (nu : ¬ U k0 i0 j0) (hc : ∀ ad ad' : xAd, (∀ k i j, U k i j → ad k i j = ad' k i j) → xZ ad k0 i0 j0 = xZ ad' k0 i0 j0) (hr : h a = some (xZ ad k0 i0 j0)) : ∃ ad', fR (fun k i j => V k i j ∨ sV k0 i0 j0 k i j) (fun k i j => U k i j ∨ sV k0 i0 j0 k i j) ad' a h0 h ∧ ad' k0 i0 j0 = a := by
  refine ⟨_, q.fin hsp k0 i0 j0 nu (hr.trans (congrArg some (hc _ _ (fun k i j hu => (adM_f (fun z => ?_)).symm)))) hc⟩
  obtain ⟨rfl, rfl, rfl⟩ := z
  exact nu hu
theorem qR.absorb' {b : Nat} (q : qR V U ad sp h0 h) (hs : sp b) (h0b : h0 b = none) (k0 i0 j0 : Nat) (nu : ¬ U k0 i0 j0) (hc : ∀ ad ad' : xAd, (∀ k i j, U k i j → ad k i j = ad' k i j) → xZ ad k0 i0 j0 = xZ ad' k0 i0 j0) (hr : h b = some (xZ ad k0 i0 j0)) : ∃ ad', qR (fun k i j => V k i j ∨ sV k0 i0 j0 k i j) (fun k i j => U k i j ∨ sV k0 i0 j0 k i j) ad' (fun x => sp x ∧ x ≠ b) h0 h ∧ ad' k0 i0 j0 = b ∧ ∀ k i j, U k i j → ad' k i j = ad k i j := by
  have uV : ∀ k i j, U k i j → adM (sV k0 i0 j0) (fun _ _ _ => b) ad k i j = ad k i j := fun k i j hu => adM_f (fun z => by
    obtain ⟨rfl, rfl, rfl⟩ := z
    exact nu hu)
  exact ⟨_, q.absorb hs h0b k0 i0 j0 nu (hr.trans (congrArg some (hc _ _ (fun k i j hu => (uV k i j hu).symm)))) hc, adM_t ⟨rfl, rfl, rfl⟩, uV⟩
theorem fR.out {V' U' : Pk} {k0 i0 j0 : Nat} (f : ∃ ad', fR V U ad' a h0 h ∧ ad' k0 i0 j0 = a) (hV : ∀ k i j, V' k i j ↔ V k i j) (hU : ∀ k i j, U k i j → U' k i j) : ∃ ad', fR V' U' ad' a h0 h ∧ ad' k0 i0 j0 = a := by
  obtain ⟨ad', f1, f2⟩ := f
  exact ⟨ad', f1.to hV hU, f2⟩
end
def Vy (n : Nat) : Pk := fun k i j => yV k i j ∧ 30 < k ∧ k ≤ n
def sU (n : Nat) : Pk := fun k _ _ => 30 < k ∧ k ≤ n
