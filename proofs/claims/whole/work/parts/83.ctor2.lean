def Vlo (s e : Nat) : Pk := fun k i j => (9 ≤ k ∧ k ≤ 12 ∧ i = s ∧ j = 0) ∨ (13 ≤ k ∧ k ≤ 16 ∧ i = s ∧ j < e)
def Ulo (s : Nat) : Pk := fun k i j => (9 ≤ k ∧ k ≤ 12 ∧ i = s ∧ j = 0) ∨ (13 ≤ k ∧ k ≤ 16 ∧ i = s)
def Vl5 (e : Nat) : Pk := fun k i j => ((k = 1 ∨ k = 2 ∨ k = 4 ∨ k = 5 ∨ k = 6) ∧ i = 0 ∧ j = 0) ∨ (7 ≤ k ∧ k ≤ 12 ∧ i < 2 ∧ j = 0) ∨ (13 ≤ k ∧ k ≤ 16 ∧ i < 2 ∧ j < 8) ∨ (17 ≤ k ∧ k ≤ 22 ∧ (i < e ∨ i = 8) ∧ j = 0)
def Ul5 (e : Nat) : Pk := fun k i j => ((k = 1 ∨ k = 2 ∨ k = 4 ∨ k = 5 ∨ k = 6) ∧ i = 0 ∧ j = 0) ∨ (7 ≤ k ∧ k ≤ 16 ∧ i < 2) ∨ (17 ≤ k ∧ k ≤ 22 ∧ (i < e ∨ i = 8) ∧ j = 0)
section
variable {K : mK} {μ : mM} {cells slots pc : Nat} {L : List (Option Value)} {S : List Value} {h h0 : mH} {V U : Pk} {ad : xAd} {sp : Nat → Prop} {a : Nat} {e : mC}
theorem putk2 (q : qR V U ad sp h0 h) (hs : sp a) (kk : ∀ h', qR V U ad sp h0 h' → h' a = some e → (∀ x, x ≠ a → h' x = h x) → mJ K cells slots pc L S h') : mJ K cells slots pc L S (mset h a e) := kk _ (q.put hs) mset_s (fun x hx => mset_n hx)
theorem cJ_spec {idx : Nat} {n : Int32} {C : String} (t N : Nat) (q : qR V U ad sp h0 h) (ht : (t = 3 ∧ C = RX1) ∨ (t = 4 ∧ C = RX0)) (hao : va_AO C (ks K)) (hl : Cond.classLink μ.1.cls idx C ∈ mTB) (hK : mCx K μ) (hd : decode μ.2.1 pc = .ok (.anewarray idx, 3)) (hn : n = nI N) (hN : N < 1000) (hc : cells + 1 ≤ (mRm μ).cells) (hs9 : slots + N ≤ (mRm μ).slots) (kk : ∀ c h', ¬ sp c → h0 c = none → qR V U ad (fun x => sp x ∨ x = c) h0 h' → h' c = some (.inl (t, N, .inr (.inr (.inr (.inr (fun _ => none)))))) → (∀ x, sp x → h' x = h x) → mJ K (cells + 1) (slots + N) (pc + 3) L (.ref c :: S) h') : mJ K cells slots pc L (.int n :: S) h := by
  refine mJ_newq t N ht hao hl hK hd hn hN hc hs9 (fun c hc9 => ?_)
  obtain ⟨n1, n2, n3⟩ := q.none0 hc9
  obtain ⟨l1, l2, l3⟩ := q.spec (e := .inl (t, N, .inr (.inr (.inr (.inr (fun _ => none)))))) hc9
  exact kk c _ n1 n3 l1 mset_s l2
end
set_option maxRecDepth 100000 in
set_option maxHeartbeats 4000000 in
theorem lp_X3_init {K : mK} (hNo : mNo (kD K) (kC K) (ks K)) (hK : mCx K mX3_init) {s a c bt bc : Nat} {h0 : mH} (hca : ¬ c = a) (hc0 : h0 c = none) (hZ : mRt K mX3_init (mRv (fun h' => ∃ ad, fR (Vst s) (Ust s) ad a h0 h' ∧ ad 7 s 0 = a))) : ∀ (fu e : Nat) (h : mH) (ad : xAd) (f : Nat → Option Nat), 8 - e < fu → e ≤ 8 → qR (Vlo s e) (Vlo s e) ad (fun x => x = a ∨ x = c) h0 h → h a = some (.inr (3, [.ref c, .ref bt, .ref bc, .int 0, .int (-1)])) → h c = some (.inl (4, 8, .inr (.inr (.inr (.inr f))))) → (∀ n, n < e → f n = some (ad 13 s n)) → ad 9 s 0 = bt → ad 12 s 0 = bc → mJ K (5 + 4 * e) (67 + 30 * e) 39 [some (.ref a), some (.int (nI e))] [] h := by
  intro fu
  induction fu with
  | zero =>
    intro e h ad f hm
    exact absurd hm (by omega)
  | succ fu ih =>
    intro e h ad f hm he q hr hcA hf e9 e12
    refine mJ_iload_n hK dX3_init_39 rfl ?_
    refine mJ_bipush (v := nI 8) hK dX3_init_40 (by decide) ?_
    refine mJ_nge (tgt := 64) hK dX3_init_42 (by decide) (by omega) (by omega) (fun c_42 => ?_) (fun c_42 => ?_)
    · have e8 : e = 8 := by omega
      subst e8
      refine mJ_ext hcA hf (putk2 q (Or.inr rfl) (fun h q hcA hx => ?_))
      have hr := (hx a (fun z => hca z.symm)).trans hr
      refine mJ_vret hK dX3_init_64 rfl hZ (by decide) (by decide) ?_
      have q := q.to (V' := Vlo s 8) (U' := Ulo s) (sp' := fun x => x = a ∨ x = c) (fun _ _ _ => Iff.rfl) (fun k i j hu => by simp only [Vlo, Ulo] at hu ⊢; omega) (fun _ => Iff.rfl)
      obtain ⟨ad2, q, e8_s, ag⟩ := q.absorb' (b := c) (Or.inr rfl) hc0 8 s 0 (fun z => by first | (simp [sV, Vch, Vrl, Vtk, Vst, Vrd, Ust, Vlo, Ulo, Vl5, Ul5] at z; done) | (simp only [sV, Vch, Vrl, Vtk, Vst, Vrd, Ust, Vlo, Ulo, Vl5, Ul5] at z; omega)) (fun ad1 ad2 ha => by
        show (.inl (4, 8, .inr (.inr (.inr (.inr (fun n => some (ad1 13 s n)))))) : mC) = .inl (4, 8, .inr (.inr (.inr (.inr (fun n => some (ad2 13 s n))))))
        have e9 : (fun n => some (ad1 13 s n)) = (fun n => some (ad2 13 s n)) := funext (fun n => by rw [ha 13 s n (by first | (simp [Vlo, Ulo, Ul5]; done) | (unfold Ulo; omega) | (unfold Vlo; omega) | (unfold Ul5; omega))])
        rw [e9]) hcA
      have e9 := (ag 9 s 0 (by first | (simp [Vlo, Ulo, Ul5]; done) | (unfold Ulo; omega) | (unfold Vlo; omega) | (unfold Ul5; omega))).trans e9
      have e12 := (ag 12 s 0 (by first | (simp [Vlo, Ulo, Ul5]; done) | (unfold Ulo; omega) | (unfold Vlo; omega) | (unfold Ul5; omega))).trans e12
      refine ⟨rfl, fR.out (q.fin' (fun x => ⟨fun z => z.1.resolve_right z.2, fun z => ⟨Or.inl z, fun y => hca (y.symm.trans z)⟩⟩) 7 s 0 (fun z => by first | (simp [sV, Vch, Vrl, Vtk, Vst, Vrd, Ust, Vlo, Ulo, Vl5, Ul5] at z; done) | (simp only [sV, Vch, Vrl, Vtk, Vst, Vrd, Ust, Vlo, Ulo, Vl5, Ul5] at z; omega)) (fun ad1 ad2 ha => by
        show (.inr (3, [.ref (ad1 8 s 0), .ref (ad1 9 s 0), .ref (ad1 12 s 0), .int 0, .int (-1)]) : mC) = .inr (3, [.ref (ad2 8 s 0), .ref (ad2 9 s 0), .ref (ad2 12 s 0), .int 0, .int (-1)])
        rw [ha 8 s 0 (by first | (simp [sV, Vch, Vrl, Vtk, Vst, Vrd, Ust, Vlo, Ulo, Vl5, Ul5]; done) | (simp only [sV, Vch, Vrl, Vtk, Vst, Vrd, Ust, Vlo, Ulo, Vl5, Ul5]; omega)), ha 9 s 0 (by first | (simp [sV, Vch, Vrl, Vtk, Vst, Vrd, Ust, Vlo, Ulo, Vl5, Ul5]; done) | (simp only [sV, Vch, Vrl, Vtk, Vst, Vrd, Ust, Vlo, Ulo, Vl5, Ul5]; omega)), ha 12 s 0 (by first | (simp [sV, Vch, Vrl, Vtk, Vst, Vrd, Ust, Vlo, Ulo, Vl5, Ul5]; done) | (simp only [sV, Vch, Vrl, Vtk, Vst, Vrd, Ust, Vlo, Ulo, Vl5, Ul5]; omega))]) (by
        rw [hr]
        show _ = some (.inr (3, [.ref (ad2 8 s 0), .ref (ad2 9 s 0), .ref (ad2 12 s 0), .int 0, .int (-1)]) : mC)
        rw [e8_s, e9, e12])) (fun k i j => ?_) (fun k i j hu => ?_)⟩
      · simp only [sV, Vlo, Vst]; omega
      · simp only [sV, Ulo, Ust] at hu ⊢; omega
    · refine mJ_aload_n hK dX3_init_45 rfl ?_
      refine mJ_getf hK dX3_init_46 fX3_11 hr rfl ?_
      refine mJ_iload_n hK dX3_init_49 rfl ?_
      refine cJ_obj (Vc := Vch s e) (Uc := Vch s e) (kr := 13) (ir := s) (jr := e) true q (fun k i j hu hv => by simp only [Vlo, Vch] at hu hv; omega) (by unfold Vch; omega) (fun _ _ _ z => z) (fun _ => ⟨_, rfl⟩) hNo hK dX3_init_50 dX3_init_53 dX3_init_54 nwX3_9 (Or.inl ⟨rfl, icX3_32⟩) (by unfold mFit; decide) (by show 5 + 4 * e + 1 + 3 ≤ 37; omega) (by show 67 + 30 * e + 6 + 24 ≤ 307; omega) (Nat.le_of_ble_eq_true rfl) (fun b h1 hb => k_X0_init hb s e) (fun b h2 ad2 q2 hx e13 hb ag => ?_)
      obtain ⟨vs, hb⟩ := hb
      refine mJ_aastC hK dX3_init_57 ((hx c (Or.inr rfl)).trans hcA) hb (nI_in (by omega) (by omega)) (putk2 q2 (Or.inr rfl) (fun h3 q3 hc3 hx3 => ?_))
      refine mJ_iincN hK dX3_init_58 rfl rfl (by decide) rfl ?_
      refine mJ_goto (tgt := 39) hK dX3_init_61 (by decide) ?_
      have z := ih (e + 1) h3 ad2 _ (by omega) (by omega) (q3.to (V' := Vlo s (e + 1)) (U' := Vlo s (e + 1)) (fun k i j => by simp only [Vlo, Vch]; omega) (fun k i j hu => by simp only [Vlo, Vch] at hu ⊢; omega) (fun _ => Iff.rfl)) ((hx3 a (fun z => hca z.symm)).trans ((hx a (Or.inl rfl)).trans hr)) hc3 (fun n hn => ?_) ((ag 9 s 0 (by first | (simp [Vlo, Ulo, Ul5]; done) | (unfold Ulo; omega) | (unfold Vlo; omega) | (unfold Ul5; omega))).trans e9) ((ag 12 s 0 (by first | (simp [Vlo, Ulo, Ul5]; done) | (unfold Ulo; omega) | (unfold Vlo; omega) | (unfold Ul5; omega))).trans e12)
      · rw [show 5 + 4 * (e + 1) = 5 + 4 * e + 1 + 3 by omega, show 67 + 30 * (e + 1) = 67 + 30 * e + 6 + 24 by omega] at z
        exact z
      · rw [nI_clamp (by omega)]
        by_cases z : n = e
        · rw [z, va_up_self, e13]
        · rw [va_up_ne _ _ z, ag 13 s n (by first | (simp [Vlo, Ulo, Ul5]; done) | (unfold Ulo; omega) | (unfold Vlo; omega) | (unfold Ul5; omega))]
          exact hf n (by omega)

set_option maxRecDepth 100000 in
set_option maxHeartbeats 4000000 in
theorem k_X3_init {l : Launch} {D : va_G} {aC : Nat → ClassId} {h : mH} {a : Nat} (hr : h a = some (.inr (3, fz3))) (s : Nat) : mNon l D aC mX3_init [.ref a] h (mRv (fun h' => ∃ ad, fR (Vst s) (Ust s) ad a h h' ∧ ad 7 s 0 = a)) := by
  refine mNon.of [some (.ref a), none] (by decide +kernel) rfl (Nat.le_of_ble_eq_true rfl) rfl ?_
  intro K el eD eC hK hZ hNo hin
  subst el eD eC
  have q := qR.init hr
  refine mJ_aload_n hK dX3_init_0 rfl ?_
  refine mJ_obj hK dX3_init_1 obX3_3 ob_2 ob_3 (by decide) (by decide) ?_
  refine mJ_aload_n hK dX3_init_4 rfl ?_
  refine mJ_bipush (v := nI 8) hK dX3_init_5 (by decide) ?_
  refine cJ_spec (C := RX0) 4 8 q (Or.inr ⟨rfl, rfl⟩) hNo.2.2.1 nqX3_9 hK dX3_init_7 rfl (by omega) (by decide) (by decide) (fun c h1 hca hc0 q hcA hx => ?_)
  have hr := (hx a rfl).trans hr
  refine mJ_putF hin hK dX3_init_10 pfX3_11 rfl rfl hr (Nat.le_of_ble_eq_true rfl) (putk2 q (Or.inl rfl) (fun h2 q hr hx2 => ?_))
  have hcA := (hx2 c hca).trans hcA
  refine mJ_aload_n hK dX3_init_13 rfl ?_
  refine cJ_obj (Vc := Vtk s) (Uc := Vtk s) (kr := 9) (ir := s) (jr := 0) true q (fun k i j hu => hu.elim) (by unfold Vtk; omega) (fun _ _ _ z => z) (fun _ => ⟨_, rfl⟩) hNo hK dX3_init_14 dX3_init_17 dX3_init_18 nwX3_17 (Or.inl ⟨rfl, icX3_19⟩) (by unfold mFit; decide) (by decide) (by decide) (Nat.le_of_ble_eq_true rfl) (fun b h1 hb => k_X4_init hb s) (fun bt h3 ad q hx3 e9 hb ag => ?_)
  have hr := (hx3 a (Or.inl rfl)).trans hr
  have hcA := (hx3 c (Or.inr rfl)).trans hcA
  refine mJ_putF hin hK dX3_init_21 pfX3_20 rfl rfl hr (Nat.le_of_ble_eq_true rfl) (putk2 q (Or.inl rfl) (fun h4 q hr hx4 => ?_))
  have hcA := (hx4 c hca).trans hcA
  refine mJ_aload_n hK dX3_init_24 rfl ?_
  refine mJ_bipush (v := nI 8) hK dX3_init_25 (by decide) ?_
  refine cJ_arr (atype := .int) (a0 := (8, .inl (fun _ => 0))) 0 8 12 s 0 q (Or.inl rfl) hr (fun _ => rfl) (fun z => by first | (simp [sV, Vch, Vrl, Vtk, Vst, Vrd, Ust, Vlo, Ulo, Vl5, Ul5] at z; done) | (simp only [sV, Vch, Vrl, Vtk, Vst, Vrd, Ust, Vlo, Ulo, Vl5, Ul5] at z; omega)) hNo (Or.inl rfl) rfl (fun _ => rfl) ac_int hin hK dX3_init_27 dX3_init_29 pfX3_24 (fun _ => ⟨rfl, rfl⟩) (Nat.le_of_ble_eq_true rfl) rfl (by omega) (by decide) (by decide) (fun bc h5 ad2 q hr hx5 e12 ag2 => ?_)
  have hcA := (hx5 c (Or.inr rfl) hca).trans hcA
  have e9 := (ag2 9 s 0 (by first | (simp [sV, Vch, Vrl, Vtk, Vst, Vrd, Ust, Vlo, Ulo, Vl5, Ul5]; done) | (simp only [sV, Vch, Vrl, Vtk, Vst, Vrd, Ust, Vlo, Ulo, Vl5, Ul5]; omega))).trans e9
  refine mJ_aload_n hK dX3_init_32 rfl ?_
  refine mJ_iconst (v := -1) hK dX3_init_33 (by decide) ?_
  refine mJ_putf hK dX3_init_34 fX3_28 sX3_4 rfl rfl hr (Nat.le_of_ble_eq_true rfl) (putk2 q (Or.inl rfl) (fun h6 q hr hx6 => ?_))
  have hcA := (hx6 c hca).trans hcA
  refine mJ_iconst (v := nI 0) hK dX3_init_37 (by decide) ?_
  refine mJ_istore_n hK dX3_init_38 (by decide) rfl ?_
  refine mJ_widen (k := 5) (n := 67) (by decide) (by decide) ?_
  exact lp_X3_init hNo hK hca hc0 hZ 9 0 h6 ad2 _ (by omega) (by omega) (q.to (fun k i j => by simp only [Vlo, sV, Vtk, false_or]; omega) (fun k i j hu => by simp only [Vlo, sV, Vtk, false_or] at hu ⊢; omega) (fun _ => Iff.rfl)) hr hcA (fun n hn => absurd hn (by omega)) e9 e12

set_option maxRecDepth 100000 in
set_option maxHeartbeats 4000000 in
theorem lp_X5_init {K : mK} (hNo : mNo (kD K) (kC K) (ks K)) (hK : mCx K mX5_init) {a c b1 b2 b7 b71 b4 b5 b6 : Nat} {h0 : mH} (hca : ¬ c = a) (hc0 : h0 c = none) (hZ : mRt K mX5_init (mRv (fun h' => ∃ ad, fR xV (fun _ _ _ => True) ad a h0 h' ∧ ad 0 0 0 = a))) : ∀ (fu e : Nat) (h : mH) (ad : xAd) (f : Nat → Option Nat), 8 - e < fu → e ≤ 8 → qR (Vl5 e) (Ul5 e) ad (fun x => x = a ∨ x = c) h0 h → h a = some (.inr (5, [.ref b1, .int 0, .ref b2, .ref c, .int 0, .int 0, .ref b7, .ref b71, .int 0, .ref b4, .ref b5, .ref b6])) → h c = some (.inl (3, 8, .inr (.inr (.inr (.inr f))))) → (∀ n, n < e → f n = some (ad 17 n 0)) → ad 1 0 0 = b1 → ad 2 0 0 = b2 → ad 7 0 0 = b7 → ad 7 1 0 = b71 → ad 4 0 0 = b4 → ad 5 0 0 = b5 → ad 6 0 0 = b6 → mJ K (88 + 6 * e) (747 + 47 * e) 80 [some (.ref a), some (.int (nI e))] [] h := by
  intro fu
  induction fu with
  | zero =>
    intro e h ad f hm
    exact absurd hm (by omega)
  | succ fu ih =>
    intro e h ad f hm he q hr hcA hf eb1 eb2 eb7 eb71 eb4 eb5 eb6
    refine mJ_iload_n hK dX5_init_80 rfl ?_
    refine mJ_bipush (v := nI 8) hK dX5_init_81 (by decide) ?_
    refine mJ_nge (tgt := 105) hK dX5_init_83 (by decide) (by omega) (by omega) (fun c_83 => ?_) (fun c_83 => ?_)
    · have e8 : e = 8 := by omega
      subst e8
      refine mJ_ext (f' := fun n => some (ad 17 (if n < 8 then p0 n else 0) 0)) hcA (fun j hj => by rw [if_pos hj]; exact hf j hj) (putk2 q (Or.inr rfl) (fun h q hcA hx => ?_))
      have hr := (hx a (fun z => hca z.symm)).trans hr
      refine mJ_vret hK dX5_init_105 rfl hZ (by decide) (by decide) ?_
      obtain ⟨ad2, q, ec, ag⟩ := q.absorb' (b := c) (Or.inr rfl) hc0 3 0 0 (fun z => by first | (simp [sV, Vch, Vrl, Vtk, Vst, Vrd, Ust, Vlo, Ulo, Vl5, Ul5] at z; done) | (simp only [sV, Vch, Vrl, Vtk, Vst, Vrd, Ust, Vlo, Ulo, Vl5, Ul5] at z; omega)) (fun ad1 ad2 ha => by
        show (.inl (3, 8, .inr (.inr (.inr (.inr (fun n => some (ad1 17 (if n < 8 then p0 n else 0) 0)))))) : mC) = .inl (3, 8, .inr (.inr (.inr (.inr (fun n => some (ad2 17 (if n < 8 then p0 n else 0) 0))))))
        have e9 : (fun n => some (ad1 17 (if n < 8 then p0 n else 0) 0)) = (fun n => some (ad2 17 (if n < 8 then p0 n else 0) 0)) := funext (fun n => by
          have hl : (if n < 8 then p0 n else 0) < 8 := by
            unfold p0
            split <;> omega
          rw [ha 17 _ 0 (by first | (simp [Vlo, Ulo, Ul5]; done) | (unfold Ulo; omega) | (unfold Vlo; omega) | (unfold Ul5; omega))])
        rw [e9]) hcA
      have eb1 := (ag 1 0 0 (by first | (simp [Vlo, Ulo, Ul5]; done) | (unfold Ulo; omega) | (unfold Vlo; omega) | (unfold Ul5; omega))).trans eb1
      have eb2 := (ag 2 0 0 (by first | (simp [Vlo, Ulo, Ul5]; done) | (unfold Ulo; omega) | (unfold Vlo; omega) | (unfold Ul5; omega))).trans eb2
      have eb7 := (ag 7 0 0 (by first | (simp [Vlo, Ulo, Ul5]; done) | (unfold Ulo; omega) | (unfold Vlo; omega) | (unfold Ul5; omega))).trans eb7
      have eb71 := (ag 7 1 0 (by first | (simp [Vlo, Ulo, Ul5]; done) | (unfold Ulo; omega) | (unfold Vlo; omega) | (unfold Ul5; omega))).trans eb71
      have eb4 := (ag 4 0 0 (by first | (simp [Vlo, Ulo, Ul5]; done) | (unfold Ulo; omega) | (unfold Vlo; omega) | (unfold Ul5; omega))).trans eb4
      have eb5 := (ag 5 0 0 (by first | (simp [Vlo, Ulo, Ul5]; done) | (unfold Ulo; omega) | (unfold Vlo; omega) | (unfold Ul5; omega))).trans eb5
      have eb6 := (ag 6 0 0 (by first | (simp [Vlo, Ulo, Ul5]; done) | (unfold Ulo; omega) | (unfold Vlo; omega) | (unfold Ul5; omega))).trans eb6
      refine ⟨rfl, fR.out (q.fin' (fun x => ⟨fun z => z.1.resolve_right z.2, fun z => ⟨Or.inl z, fun y => hca (y.symm.trans z)⟩⟩) 0 0 0 (fun z => by first | (simp [sV, Vch, Vrl, Vtk, Vst, Vrd, Ust, Vlo, Ulo, Vl5, Ul5] at z; done) | (simp only [sV, Vch, Vrl, Vtk, Vst, Vrd, Ust, Vlo, Ulo, Vl5, Ul5] at z; omega)) (fun ad1 ad2 ha => by
        show (.inr (5, [.ref (ad1 1 0 0), .int 0, .ref (ad1 2 0 0), .ref (ad1 3 0 0), .int 0, .int 0, .ref (ad1 7 0 0), .ref (ad1 7 1 0), .int 0, .ref (ad1 4 0 0), .ref (ad1 5 0 0), .ref (ad1 6 0 0)]) : mC) = .inr (5, [.ref (ad2 1 0 0), .int 0, .ref (ad2 2 0 0), .ref (ad2 3 0 0), .int 0, .int 0, .ref (ad2 7 0 0), .ref (ad2 7 1 0), .int 0, .ref (ad2 4 0 0), .ref (ad2 5 0 0), .ref (ad2 6 0 0)])
        rw [ha 1 0 0 (by first | (simp [sV, Vch, Vrl, Vtk, Vst, Vrd, Ust, Vlo, Ulo, Vl5, Ul5]; done) | (simp only [sV, Vch, Vrl, Vtk, Vst, Vrd, Ust, Vlo, Ulo, Vl5, Ul5]; omega)), ha 2 0 0 (by first | (simp [sV, Vch, Vrl, Vtk, Vst, Vrd, Ust, Vlo, Ulo, Vl5, Ul5]; done) | (simp only [sV, Vch, Vrl, Vtk, Vst, Vrd, Ust, Vlo, Ulo, Vl5, Ul5]; omega)), ha 3 0 0 (by first | (simp [sV, Vch, Vrl, Vtk, Vst, Vrd, Ust, Vlo, Ulo, Vl5, Ul5]; done) | (simp only [sV, Vch, Vrl, Vtk, Vst, Vrd, Ust, Vlo, Ulo, Vl5, Ul5]; omega)), ha 7 0 0 (by first | (simp [sV, Vch, Vrl, Vtk, Vst, Vrd, Ust, Vlo, Ulo, Vl5, Ul5]; done) | (simp only [sV, Vch, Vrl, Vtk, Vst, Vrd, Ust, Vlo, Ulo, Vl5, Ul5]; omega)), ha 7 1 0 (by first | (simp [sV, Vch, Vrl, Vtk, Vst, Vrd, Ust, Vlo, Ulo, Vl5, Ul5]; done) | (simp only [sV, Vch, Vrl, Vtk, Vst, Vrd, Ust, Vlo, Ulo, Vl5, Ul5]; omega)), ha 4 0 0 (by first | (simp [sV, Vch, Vrl, Vtk, Vst, Vrd, Ust, Vlo, Ulo, Vl5, Ul5]; done) | (simp only [sV, Vch, Vrl, Vtk, Vst, Vrd, Ust, Vlo, Ulo, Vl5, Ul5]; omega)), ha 5 0 0 (by first | (simp [sV, Vch, Vrl, Vtk, Vst, Vrd, Ust, Vlo, Ulo, Vl5, Ul5]; done) | (simp only [sV, Vch, Vrl, Vtk, Vst, Vrd, Ust, Vlo, Ulo, Vl5, Ul5]; omega)), ha 6 0 0 (by first | (simp [sV, Vch, Vrl, Vtk, Vst, Vrd, Ust, Vlo, Ulo, Vl5, Ul5]; done) | (simp only [sV, Vch, Vrl, Vtk, Vst, Vrd, Ust, Vlo, Ulo, Vl5, Ul5]; omega))]) (by
        rw [hr]
        show _ = some (.inr (5, [.ref (ad2 1 0 0), .int 0, .ref (ad2 2 0 0), .ref (ad2 3 0 0), .int 0, .int 0, .ref (ad2 7 0 0), .ref (ad2 7 1 0), .int 0, .ref (ad2 4 0 0), .ref (ad2 5 0 0), .ref (ad2 6 0 0)]) : mC)
        rw [ec, eb1, eb2, eb7, eb71, eb4, eb5, eb6])) (fun k i j => ?_) (fun k i j hu => trivial)⟩
      simp only [sV, Vl5, xV]; omega
    · refine mJ_aload_n hK dX5_init_86 rfl ?_
      refine mJ_getf hK dX5_init_87 fX5_22 hr rfl ?_
      refine mJ_iload_n hK dX5_init_90 rfl ?_
      refine cJ_obj (Vc := Vrl e) (Uc := Vrl e) (kr := 17) (ir := e) (jr := 0) true q (fun k i j hu hv => by simp only [Ul5, Vrl] at hu hv; omega) (by unfold Vrl; omega) (fun _ _ _ z => z) (fun _ => ⟨_, rfl⟩) hNo hK dX5_init_91 dX5_init_94 dX5_init_95 nwX5_20 (Or.inl ⟨rfl, icX5_45⟩) (by unfold mFit; decide) (by show 88 + 6 * e + 1 + 5 ≤ 136; omega) (by show 747 + 47 * e + 11 + 36 ≤ 1123; omega) (Nat.le_of_ble_eq_true rfl) (fun b h1 hb => k_X1_init hb e) (fun b h2 ad2 q2 hx e17 hb ag => ?_)
      obtain ⟨vs, hb⟩ := hb
      refine mJ_aastR hK dX5_init_98 ((hx c (Or.inr rfl)).trans hcA) hb (nI_in (by omega) (by omega)) (putk2 q2 (Or.inr rfl) (fun h3 q3 hc3 hx3 => ?_))
      refine mJ_iincN hK dX5_init_99 rfl rfl (by decide) rfl ?_
      refine mJ_goto (tgt := 80) hK dX5_init_102 (by decide) ?_
      have z := ih (e + 1) h3 ad2 _ (by omega) (by omega) (q3.to (V' := Vl5 (e + 1)) (U' := Ul5 (e + 1)) (fun k i j => by simp only [Vl5, Vrl]; omega) (fun k i j hu => by simp only [Ul5, Vrl] at hu ⊢; omega) (fun _ => Iff.rfl)) ((hx3 a (fun z => hca z.symm)).trans ((hx a (Or.inl rfl)).trans hr)) hc3 (fun n hn => ?_) ((ag 1 0 0 (by first | (simp [Vlo, Ulo, Ul5]; done) | (unfold Ulo; omega) | (unfold Vlo; omega) | (unfold Ul5; omega))).trans eb1) ((ag 2 0 0 (by first | (simp [Vlo, Ulo, Ul5]; done) | (unfold Ulo; omega) | (unfold Vlo; omega) | (unfold Ul5; omega))).trans eb2) ((ag 7 0 0 (by first | (simp [Vlo, Ulo, Ul5]; done) | (unfold Ulo; omega) | (unfold Vlo; omega) | (unfold Ul5; omega))).trans eb7) ((ag 7 1 0 (by first | (simp [Vlo, Ulo, Ul5]; done) | (unfold Ulo; omega) | (unfold Vlo; omega) | (unfold Ul5; omega))).trans eb71) ((ag 4 0 0 (by first | (simp [Vlo, Ulo, Ul5]; done) | (unfold Ulo; omega) | (unfold Vlo; omega) | (unfold Ul5; omega))).trans eb4) ((ag 5 0 0 (by first | (simp [Vlo, Ulo, Ul5]; done) | (unfold Ulo; omega) | (unfold Vlo; omega) | (unfold Ul5; omega))).trans eb5) ((ag 6 0 0 (by first | (simp [Vlo, Ulo, Ul5]; done) | (unfold Ulo; omega) | (unfold Vlo; omega) | (unfold Ul5; omega))).trans eb6)
      · rw [show 88 + 6 * (e + 1) = 88 + 6 * e + 1 + 5 by omega, show 747 + 47 * (e + 1) = 747 + 47 * e + 11 + 36 by omega] at z
        exact z
      · rw [nI_clamp (by omega)]
        by_cases z : n = e
        · rw [z, va_up_self, e17]
        · rw [va_up_ne _ _ z, ag 17 n 0 (by first | (simp [Vlo, Ulo, Ul5]; done) | (unfold Ulo; omega) | (unfold Vlo; omega) | (unfold Ul5; omega))]
          exact hf n (by omega)

theorem V5_0 (k i j : Nat) : Vl5 0 k i j ↔ (((((((False ∨ sV 1 0 0 k i j) ∨ Vrd k i j) ∨ Vst 0 k i j) ∨ Vst 1 k i j) ∨ sV 4 0 0 k i j) ∨ sV 5 0 0 k i j) ∨ sV 6 0 0 k i j) := by
  constructor
  · intro z
    rcases z with ⟨z, e1, e2⟩ | ⟨a1, a2, a3, a4⟩ | ⟨a1, a2, a3, a4⟩ | ⟨a1, a2, a3, a4⟩
    · rcases z with z | z | z | z | z
      · exact Or.inl (Or.inl (Or.inl (Or.inl (Or.inl (Or.inl (Or.inr ⟨z, e1, e2⟩))))))
      · exact Or.inl (Or.inl (Or.inl (Or.inl (Or.inl (Or.inr (Or.inl ⟨z, e1, e2⟩))))))
      · exact Or.inl (Or.inl (Or.inr ⟨z, e1, e2⟩))
      · exact Or.inl (Or.inr ⟨z, e1, e2⟩)
      · exact Or.inr ⟨z, e1, e2⟩
    · rcases (show i = 0 ∨ i = 1 by omega) with e | e
      · exact Or.inl (Or.inl (Or.inl (Or.inl (Or.inr (Or.inl ⟨a1, a2, e, a4⟩)))))
      · exact Or.inl (Or.inl (Or.inl (Or.inr (Or.inl ⟨a1, a2, e, a4⟩))))
    · rcases (show i = 0 ∨ i = 1 by omega) with e | e
      · exact Or.inl (Or.inl (Or.inl (Or.inl (Or.inr (Or.inr ⟨a1, a2, e, a4⟩)))))
      · exact Or.inl (Or.inl (Or.inl (Or.inr (Or.inr ⟨a1, a2, e, a4⟩))))
    · exact Or.inl (Or.inl (Or.inl (Or.inl (Or.inl (Or.inr (Or.inr ⟨a1, a2, by omega, a4⟩))))))
  · intro z
    rcases z with (((((((z | ⟨e, e1, e2⟩) | z) | z) | z) | ⟨e, e1, e2⟩) | ⟨e, e1, e2⟩) | ⟨e, e1, e2⟩)
    · exact z.elim
    · exact Or.inl ⟨Or.inl e, e1, e2⟩
    · rcases z with ⟨e, e1, e2⟩ | ⟨a1, a2, a3, a4⟩
      · exact Or.inl ⟨Or.inr (Or.inl e), e1, e2⟩
      · exact Or.inr (Or.inr (Or.inr ⟨a1, a2, Or.inr a3, a4⟩))
    · rcases z with ⟨a1, a2, a3, a4⟩ | ⟨a1, a2, a3, a4⟩
      · exact Or.inr (Or.inl ⟨a1, a2, by omega, a4⟩)
      · exact Or.inr (Or.inr (Or.inl ⟨a1, a2, by omega, a4⟩))
    · rcases z with ⟨a1, a2, a3, a4⟩ | ⟨a1, a2, a3, a4⟩
      · exact Or.inr (Or.inl ⟨a1, a2, by omega, a4⟩)
      · exact Or.inr (Or.inr (Or.inl ⟨a1, a2, by omega, a4⟩))
    · exact Or.inl ⟨Or.inr (Or.inr (Or.inl e)), e1, e2⟩
    · exact Or.inl ⟨Or.inr (Or.inr (Or.inr (Or.inl e))), e1, e2⟩
    · exact Or.inl ⟨Or.inr (Or.inr (Or.inr (Or.inr e))), e1, e2⟩
theorem U5_0 (k i j : Nat) (z : ((((((False ∨ sV 1 0 0 k i j) ∨ Vrd k i j) ∨ Ust 0 k i j) ∨ Ust 1 k i j) ∨ sV 4 0 0 k i j) ∨ sV 5 0 0 k i j) ∨ sV 6 0 0 k i j) : Ul5 0 k i j := by
  rcases z with (((((((z | ⟨e, e1, e2⟩) | z) | ⟨a1, a2, a3⟩) | ⟨a1, a2, a3⟩) | ⟨e, e1, e2⟩) | ⟨e, e1, e2⟩) | ⟨e, e1, e2⟩)
  · exact z.elim
  · exact Or.inl ⟨Or.inl e, e1, e2⟩
  · rcases z with ⟨e, e1, e2⟩ | ⟨a1, a2, a3, a4⟩
    · exact Or.inl ⟨Or.inr (Or.inl e), e1, e2⟩
    · exact Or.inr (Or.inr ⟨a1, a2, Or.inr a3, a4⟩)
  · exact Or.inr (Or.inl ⟨a1, a2, by omega⟩)
  · exact Or.inr (Or.inl ⟨a1, a2, by omega⟩)
  · exact Or.inl ⟨Or.inr (Or.inr (Or.inl e)), e1, e2⟩
  · exact Or.inl ⟨Or.inr (Or.inr (Or.inr (Or.inl e))), e1, e2⟩
  · exact Or.inl ⟨Or.inr (Or.inr (Or.inr (Or.inr e))), e1, e2⟩

set_option maxRecDepth 100000 in
set_option maxHeartbeats 4000000 in
theorem k_X5_init {l : Launch} {D : va_G} {aC : Nat → ClassId} {h : mH} {a : Nat} (hr : h a = some (.inr (5, fz5))) : mNon l D aC mX5_init [.ref a] h (mRv (fun h' => ∃ ad, fR xV (fun _ _ _ => True) ad a h h' ∧ ad 0 0 0 = a)) := by
  refine mNon.of [some (.ref a), none] (by decide +kernel) rfl (Nat.le_of_ble_eq_true rfl) rfl ?_
  intro K el eD eC hK hZ hNo hin
  subst el eD eC
  have q := qR.init hr
  refine mJ_aload_n hK dX5_init_0 rfl ?_
  refine mJ_obj hK dX5_init_1 obX5_1 ob_2 ob_3 (by decide) (by decide) ?_
  refine mJ_aload_n hK dX5_init_4 rfl ?_
  refine mJ_bipush (v := nI 40) hK dX5_init_5 (by decide) ?_
  refine cJ_arr (atype := .int) (a0 := (40, .inl (fun _ => 0))) 0 40 1 0 0 q rfl hr (fun _ => rfl) (fun z => by first | (simp [sV, Vch, Vrl, Vtk, Vst, Vrd, Ust, Vlo, Ulo, Vl5, Ul5] at z; done) | (simp only [sV, Vch, Vrl, Vtk, Vst, Vrd, Ust, Vlo, Ulo, Vl5, Ul5] at z; omega)) hNo (Or.inl rfl) rfl (fun _ => rfl) ac_int hin hK dX5_init_7 dX5_init_9 pfX5_9 (fun _ => ⟨rfl, rfl⟩) (Nat.le_of_ble_eq_true rfl) rfl (by omega) (by decide) (by decide) (fun b1 h1 ad q hr hx eb1 ag => ?_)
  refine mJ_aload_n hK dX5_init_12 rfl ?_
  refine cJ_obj (Vc := Vrd) (Uc := Vrd) (kr := 2) (ir := 0) (jr := 0) true q (fun k i j hu hv => by simp only [sV, Vrd, false_or] at hu hv; omega) (by unfold Vrd; omega) (fun _ _ _ z => z) (fun _ => ⟨_, rfl⟩) hNo hK dX5_init_13 dX5_init_16 dX5_init_17 nwX5_13 (Or.inl ⟨rfl, icX5_15⟩) (by unfold mFit; decide) (by decide) (by decide) (Nat.le_of_ble_eq_true rfl) (fun b h1 hb => k_X2_init hb) (fun b2 h2 ad2 q hx eb2 hb ag => ?_)
  have hr := (hx a rfl).trans hr
  have eb1 := (ag 1 0 0 (by first | (simp [sV, Vch, Vrl, Vtk, Vst, Vrd, Ust, Vlo, Ulo, Vl5, Ul5]; done) | (simp only [sV, Vch, Vrl, Vtk, Vst, Vrd, Ust, Vlo, Ulo, Vl5, Ul5]; omega))).trans eb1
  refine mJ_putF hin hK dX5_init_20 pfX5_16 rfl rfl hr (Nat.le_of_ble_eq_true rfl) (putk2 q rfl (fun h3 q hr hx => ?_))
  refine mJ_aload_n hK dX5_init_23 rfl ?_
  refine mJ_bipush (v := nI 8) hK dX5_init_24 (by decide) ?_
  refine cJ_spec (C := RX1) 3 8 q (Or.inl ⟨rfl, rfl⟩) hNo.2.1 nqX5_20 hK dX5_init_26 rfl (by omega) (by decide) (by decide) (fun c h4 hca hc0 q hcA hx => ?_)
  have hr := (hx a rfl).trans hr
  refine mJ_putF hin hK dX5_init_29 pfX5_22 rfl rfl hr (Nat.le_of_ble_eq_true rfl) (putk2 q (Or.inl rfl) (fun h5 q hr hx => ?_))
  have hcA := (hx c hca).trans hcA
  refine mJ_aload_n hK dX5_init_32 rfl ?_
  refine cJ_obj (Vc := Vst 0) (Uc := Ust 0) (kr := 7) (ir := 0) (jr := 0) false q (fun k i j hu hv => by simp only [sV, Vrd, Ust, false_or] at hu hv; omega) (by unfold Vst; omega) (fun _ _ _ z => by simp only [Vst, Ust] at z ⊢; omega) (fun _ => ⟨_, rfl⟩) hNo hK dX5_init_33 dX5_init_36 dX5_init_37 nwX5_26 (Or.inr ⟨rfl, icX5_28⟩) (by unfold mFit; decide) (by decide) (by decide) (Nat.le_of_ble_eq_true rfl) (fun b h1 hb => k_X3_init hb 0) (fun b7 h6 ad3 q hx eb7 hb ag => ?_)
  have hr := (hx a (Or.inl rfl)).trans hr
  have hcA := (hx c (Or.inr rfl)).trans hcA
  have eb1 := (ag 1 0 0 (by first | (simp [sV, Vch, Vrl, Vtk, Vst, Vrd, Ust, Vlo, Ulo, Vl5, Ul5]; done) | (simp only [sV, Vch, Vrl, Vtk, Vst, Vrd, Ust, Vlo, Ulo, Vl5, Ul5]; omega))).trans eb1
  have eb2 := (ag 2 0 0 (by first | (simp [sV, Vch, Vrl, Vtk, Vst, Vrd, Ust, Vlo, Ulo, Vl5, Ul5]; done) | (simp only [sV, Vch, Vrl, Vtk, Vst, Vrd, Ust, Vlo, Ulo, Vl5, Ul5]; omega))).trans eb2
  refine mJ_putF hin hK dX5_init_40 pfX5_29 rfl rfl hr (Nat.le_of_ble_eq_true rfl) (putk2 q (Or.inl rfl) (fun h7 q hr hx => ?_))
  have hcA := (hx c hca).trans hcA
  refine mJ_aload_n hK dX5_init_43 rfl ?_
  refine cJ_obj (Vc := Vst 1) (Uc := Ust 1) (kr := 7) (ir := 1) (jr := 0) false q (fun k i j hu hv => by simp only [sV, Vrd, Ust, false_or] at hu hv; omega) (by unfold Vst; omega) (fun _ _ _ z => by simp only [Vst, Ust] at z ⊢; omega) (fun _ => ⟨_, rfl⟩) hNo hK dX5_init_44 dX5_init_47 dX5_init_48 nwX5_26 (Or.inr ⟨rfl, icX5_28⟩) (by unfold mFit; decide) (by decide) (by decide) (Nat.le_of_ble_eq_true rfl) (fun b h1 hb => k_X3_init hb 1) (fun b71 h6 ad3 q hx eb71 hb ag => ?_)
  have hr := (hx a (Or.inl rfl)).trans hr
  have hcA := (hx c (Or.inr rfl)).trans hcA
  have eb1 := (ag 1 0 0 (by first | (simp [sV, Vch, Vrl, Vtk, Vst, Vrd, Ust, Vlo, Ulo, Vl5, Ul5]; done) | (simp only [sV, Vch, Vrl, Vtk, Vst, Vrd, Ust, Vlo, Ulo, Vl5, Ul5]; omega))).trans eb1
  have eb2 := (ag 2 0 0 (by first | (simp [sV, Vch, Vrl, Vtk, Vst, Vrd, Ust, Vlo, Ulo, Vl5, Ul5]; done) | (simp only [sV, Vch, Vrl, Vtk, Vst, Vrd, Ust, Vlo, Ulo, Vl5, Ul5]; omega))).trans eb2
  have eb7 := (ag 7 0 0 (by first | (simp [sV, Vch, Vrl, Vtk, Vst, Vrd, Ust, Vlo, Ulo, Vl5, Ul5]; done) | (simp only [sV, Vch, Vrl, Vtk, Vst, Vrd, Ust, Vlo, Ulo, Vl5, Ul5]; omega))).trans eb7
  refine mJ_putF hin hK dX5_init_51 pfX5_33 rfl rfl hr (Nat.le_of_ble_eq_true rfl) (putk2 q (Or.inl rfl) (fun h7 q hr hx => ?_))
  have hcA := (hx c hca).trans hcA
  refine mJ_aload_n hK dX5_init_54 rfl ?_
  refine mJ_bipush (v := nI 8) hK dX5_init_55 (by decide) ?_
  refine cJ_arr (atype := .int) (a0 := (8, .inl (fun _ => 0))) 0 8 4 0 0 q (Or.inl rfl) hr (fun _ => rfl) (fun z => by first | (simp [sV, Vch, Vrl, Vtk, Vst, Vrd, Ust, Vlo, Ulo, Vl5, Ul5] at z; done) | (simp only [sV, Vch, Vrl, Vtk, Vst, Vrd, Ust, Vlo, Ulo, Vl5, Ul5] at z; omega)) hNo (Or.inl rfl) rfl (fun _ => rfl) ac_int hin hK dX5_init_57 dX5_init_59 pfX5_36 (fun _ => ⟨rfl, rfl⟩) (Nat.le_of_ble_eq_true rfl) rfl (by omega) (by decide) (by decide) (fun b4 h8 ad4 q hr hx eb4 ag => ?_)
  have hcA := (hx c (Or.inr rfl) hca).trans hcA
  have eb1 := (ag 1 0 0 (by first | (simp [sV, Vch, Vrl, Vtk, Vst, Vrd, Ust, Vlo, Ulo, Vl5, Ul5]; done) | (simp only [sV, Vch, Vrl, Vtk, Vst, Vrd, Ust, Vlo, Ulo, Vl5, Ul5]; omega))).trans eb1
  have eb2 := (ag 2 0 0 (by first | (simp [sV, Vch, Vrl, Vtk, Vst, Vrd, Ust, Vlo, Ulo, Vl5, Ul5]; done) | (simp only [sV, Vch, Vrl, Vtk, Vst, Vrd, Ust, Vlo, Ulo, Vl5, Ul5]; omega))).trans eb2
  have eb7 := (ag 7 0 0 (by first | (simp [sV, Vch, Vrl, Vtk, Vst, Vrd, Ust, Vlo, Ulo, Vl5, Ul5]; done) | (simp only [sV, Vch, Vrl, Vtk, Vst, Vrd, Ust, Vlo, Ulo, Vl5, Ul5]; omega))).trans eb7
  have eb71 := (ag 7 1 0 (by first | (simp [sV, Vch, Vrl, Vtk, Vst, Vrd, Ust, Vlo, Ulo, Vl5, Ul5]; done) | (simp only [sV, Vch, Vrl, Vtk, Vst, Vrd, Ust, Vlo, Ulo, Vl5, Ul5]; omega))).trans eb71
  refine mJ_aload_n hK dX5_init_62 rfl ?_
  refine mJ_bipush (v := nI 8) hK dX5_init_63 (by decide) ?_
  refine cJ_arr (atype := .int) (a0 := (8, .inl (fun _ => 0))) 0 8 5 0 0 q (Or.inl rfl) hr (fun _ => rfl) (fun z => by first | (simp [sV, Vch, Vrl, Vtk, Vst, Vrd, Ust, Vlo, Ulo, Vl5, Ul5] at z; done) | (simp only [sV, Vch, Vrl, Vtk, Vst, Vrd, Ust, Vlo, Ulo, Vl5, Ul5] at z; omega)) hNo (Or.inl rfl) rfl (fun _ => rfl) ac_int hin hK dX5_init_65 dX5_init_67 pfX5_39 (fun _ => ⟨rfl, rfl⟩) (Nat.le_of_ble_eq_true rfl) rfl (by omega) (by decide) (by decide) (fun b5 h8 ad4 q hr hx eb5 ag => ?_)
  have hcA := (hx c (Or.inr rfl) hca).trans hcA
  have eb1 := (ag 1 0 0 (by first | (simp [sV, Vch, Vrl, Vtk, Vst, Vrd, Ust, Vlo, Ulo, Vl5, Ul5]; done) | (simp only [sV, Vch, Vrl, Vtk, Vst, Vrd, Ust, Vlo, Ulo, Vl5, Ul5]; omega))).trans eb1
  have eb2 := (ag 2 0 0 (by first | (simp [sV, Vch, Vrl, Vtk, Vst, Vrd, Ust, Vlo, Ulo, Vl5, Ul5]; done) | (simp only [sV, Vch, Vrl, Vtk, Vst, Vrd, Ust, Vlo, Ulo, Vl5, Ul5]; omega))).trans eb2
  have eb7 := (ag 7 0 0 (by first | (simp [sV, Vch, Vrl, Vtk, Vst, Vrd, Ust, Vlo, Ulo, Vl5, Ul5]; done) | (simp only [sV, Vch, Vrl, Vtk, Vst, Vrd, Ust, Vlo, Ulo, Vl5, Ul5]; omega))).trans eb7
  have eb71 := (ag 7 1 0 (by first | (simp [sV, Vch, Vrl, Vtk, Vst, Vrd, Ust, Vlo, Ulo, Vl5, Ul5]; done) | (simp only [sV, Vch, Vrl, Vtk, Vst, Vrd, Ust, Vlo, Ulo, Vl5, Ul5]; omega))).trans eb71
  have eb4 := (ag 4 0 0 (by first | (simp [sV, Vch, Vrl, Vtk, Vst, Vrd, Ust, Vlo, Ulo, Vl5, Ul5]; done) | (simp only [sV, Vch, Vrl, Vtk, Vst, Vrd, Ust, Vlo, Ulo, Vl5, Ul5]; omega))).trans eb4
  refine mJ_aload_n hK dX5_init_70 rfl ?_
  refine mJ_bipush (v := nI 8) hK dX5_init_71 (by decide) ?_
  refine cJ_arr (atype := .int) (a0 := (8, .inl (fun _ => 0))) 0 8 6 0 0 q (Or.inl rfl) hr (fun _ => rfl) (fun z => by first | (simp [sV, Vch, Vrl, Vtk, Vst, Vrd, Ust, Vlo, Ulo, Vl5, Ul5] at z; done) | (simp only [sV, Vch, Vrl, Vtk, Vst, Vrd, Ust, Vlo, Ulo, Vl5, Ul5] at z; omega)) hNo (Or.inl rfl) rfl (fun _ => rfl) ac_int hin hK dX5_init_73 dX5_init_75 pfX5_42 (fun _ => ⟨rfl, rfl⟩) (Nat.le_of_ble_eq_true rfl) rfl (by omega) (by decide) (by decide) (fun b6 h8 ad4 q hr hx eb6 ag => ?_)
  have hcA := (hx c (Or.inr rfl) hca).trans hcA
  have eb1 := (ag 1 0 0 (by first | (simp [sV, Vch, Vrl, Vtk, Vst, Vrd, Ust, Vlo, Ulo, Vl5, Ul5]; done) | (simp only [sV, Vch, Vrl, Vtk, Vst, Vrd, Ust, Vlo, Ulo, Vl5, Ul5]; omega))).trans eb1
  have eb2 := (ag 2 0 0 (by first | (simp [sV, Vch, Vrl, Vtk, Vst, Vrd, Ust, Vlo, Ulo, Vl5, Ul5]; done) | (simp only [sV, Vch, Vrl, Vtk, Vst, Vrd, Ust, Vlo, Ulo, Vl5, Ul5]; omega))).trans eb2
  have eb7 := (ag 7 0 0 (by first | (simp [sV, Vch, Vrl, Vtk, Vst, Vrd, Ust, Vlo, Ulo, Vl5, Ul5]; done) | (simp only [sV, Vch, Vrl, Vtk, Vst, Vrd, Ust, Vlo, Ulo, Vl5, Ul5]; omega))).trans eb7
  have eb71 := (ag 7 1 0 (by first | (simp [sV, Vch, Vrl, Vtk, Vst, Vrd, Ust, Vlo, Ulo, Vl5, Ul5]; done) | (simp only [sV, Vch, Vrl, Vtk, Vst, Vrd, Ust, Vlo, Ulo, Vl5, Ul5]; omega))).trans eb71
  have eb4 := (ag 4 0 0 (by first | (simp [sV, Vch, Vrl, Vtk, Vst, Vrd, Ust, Vlo, Ulo, Vl5, Ul5]; done) | (simp only [sV, Vch, Vrl, Vtk, Vst, Vrd, Ust, Vlo, Ulo, Vl5, Ul5]; omega))).trans eb4
  have eb5 := (ag 5 0 0 (by first | (simp [sV, Vch, Vrl, Vtk, Vst, Vrd, Ust, Vlo, Ulo, Vl5, Ul5]; done) | (simp only [sV, Vch, Vrl, Vtk, Vst, Vrd, Ust, Vlo, Ulo, Vl5, Ul5]; omega))).trans eb5
  refine mJ_iconst (v := nI 0) hK dX5_init_78 (by decide) ?_
  refine mJ_istore_n hK dX5_init_79 (by decide) rfl ?_
  refine mJ_widen (k := 88) (n := 747) (by decide) (by decide) ?_
  exact lp_X5_init hNo hK hca hc0 hZ 9 0 _ _ _ (by omega) (by omega) (q.to V5_0 U5_0 (fun _ => Iff.rfl)) hr hcA (fun n hn => absurd hn (by omega)) eb1 eb2 eb7 eb71 eb4 eb5 eb6

