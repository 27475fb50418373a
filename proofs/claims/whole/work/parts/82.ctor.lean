theorem putk {K : mK} {cells slots pc : Nat} {L : List (Option Value)} {S : List Value} {h h0 : mH} {V U : Pk} {ad : xAd} {sp : Nat → Prop} {a : Nat} {e : mC} (q : qR V U ad sp h0 h) (hs : sp a) (kk : ∀ h', qR V U ad sp h0 h' → h' a = some e → mJ K cells slots pc L S h') : mJ K cells slots pc L S (mset h a e) := kk _ (q.put hs) mset_s
set_option maxRecDepth 100000 in
set_option maxHeartbeats 4000000 in
theorem k_X0_init {l : Launch} {D : va_G} {aC : Nat → ClassId} {h : mH} {a : Nat} (hr : h a = some (.inr (0, fz0))) (i j : Nat) : mNon l D aC mX0_init [.ref a] h (mRv (fun h' => ∃ ad, fR (Vch i j) (Vch i j) ad a h h' ∧ ad 13 i j = a)) := by
  refine mNon.of [some (.ref a)] (by decide +kernel) rfl (Nat.le_of_ble_eq_true rfl) rfl ?_
  intro K el eD eC hK hZ hNo hin
  subst el eD eC
  have q := qR.init hr
  refine mJ_aload_n hK dX0_init_0 rfl ?_
  refine mJ_obj hK dX0_init_1 obX0_3 ob_2 ob_3 (by decide) (by decide) ?_
  refine mJ_aload_n hK dX0_init_4 rfl ?_
  refine mJ_bipush (v := nI 8) hK dX0_init_5 (by decide) ?_
  refine cJ_arr (atype := .int) (a0 := (8, .inl (fun _ => 0))) 0 8 14 i j q rfl hr (fun _ => rfl) (fun z => by first | (simp [sV, Vch, Vrl, Vtk, Vst, Vrd, Ust] at z; done) | (simp only [sV, Vch, Vrl, Vtk, Vst, Vrd, Ust] at z; omega)) hNo (Or.inl rfl) rfl (fun _ => rfl) ac_int hin hK dX0_init_7 dX0_init_9 pfX0_9 (fun _ => ⟨rfl, rfl⟩) (Nat.le_of_ble_eq_true rfl) rfl (by omega) (by decide) (by decide) (fun b14_i_j h ad q hr hx e14_i_j ag => ?_)
  have hr : h a = some (.inr (0, [.ref b14_i_j, .null, .null, .int 0, .int 0, .long 0])) := hr
  refine mJ_aload_n hK dX0_init_12 rfl ?_
  refine mJ_bipush (v := nI 8) hK dX0_init_13 (by decide) ?_
  refine cJ_arr (atype := .int) (a0 := (8, .inl (fun _ => 0))) 0 8 15 i j q rfl hr (fun _ => rfl) (fun z => by first | (simp [sV, Vch, Vrl, Vtk, Vst, Vrd, Ust] at z; done) | (simp only [sV, Vch, Vrl, Vtk, Vst, Vrd, Ust] at z; omega)) hNo (Or.inl rfl) rfl (fun _ => rfl) ac_int hin hK dX0_init_15 dX0_init_17 pfX0_15 (fun _ => ⟨rfl, rfl⟩) (Nat.le_of_ble_eq_true rfl) rfl (by omega) (by decide) (by decide) (fun b15_i_j h ad q hr hx e15_i_j ag => ?_)
  have hr : h a = some (.inr (0, [.ref b14_i_j, .ref b15_i_j, .null, .int 0, .int 0, .long 0])) := hr
  have e14_i_j := (ag 14 i j (by first | (simp [sV, Vch, Vrl, Vtk, Vst, Vrd, Ust]; done) | (simp only [sV, Vch, Vrl, Vtk, Vst, Vrd, Ust]; omega))).trans e14_i_j
  refine mJ_aload_n hK dX0_init_20 rfl ?_
  refine mJ_bipush (v := nI 8) hK dX0_init_21 (by decide) ?_
  refine cJ_arr (atype := .int) (a0 := (8, .inl (fun _ => 0))) 0 8 16 i j q rfl hr (fun _ => rfl) (fun z => by first | (simp [sV, Vch, Vrl, Vtk, Vst, Vrd, Ust] at z; done) | (simp only [sV, Vch, Vrl, Vtk, Vst, Vrd, Ust] at z; omega)) hNo (Or.inl rfl) rfl (fun _ => rfl) ac_int hin hK dX0_init_23 dX0_init_25 pfX0_18 (fun _ => ⟨rfl, rfl⟩) (Nat.le_of_ble_eq_true rfl) rfl (by omega) (by decide) (by decide) (fun b16_i_j h ad q hr hx e16_i_j ag => ?_)
  have hr : h a = some (.inr (0, [.ref b14_i_j, .ref b15_i_j, .ref b16_i_j, .int 0, .int 0, .long 0])) := hr
  have e14_i_j := (ag 14 i j (by first | (simp [sV, Vch, Vrl, Vtk, Vst, Vrd, Ust]; done) | (simp only [sV, Vch, Vrl, Vtk, Vst, Vrd, Ust]; omega))).trans e14_i_j
  have e15_i_j := (ag 15 i j (by first | (simp [sV, Vch, Vrl, Vtk, Vst, Vrd, Ust]; done) | (simp only [sV, Vch, Vrl, Vtk, Vst, Vrd, Ust]; omega))).trans e15_i_j
  refine mJ_vret hK dX0_init_28 rfl hZ (by decide) (by decide) ?_
  refine ⟨rfl, fR.out (q.fin' (fun x => Iff.rfl) 13 i j (fun z => by first | (simp [sV, Vch, Vrl, Vtk, Vst, Vrd, Ust] at z; done) | (simp only [sV, Vch, Vrl, Vtk, Vst, Vrd, Ust] at z; omega)) (fun ad1 ad2 ha => by
    show (.inr (0, [.ref (ad1 14 i j), .ref (ad1 15 i j), .ref (ad1 16 i j), .int 0, .int 0, .long 0]) : mC) = .inr (0, [.ref (ad2 14 i j), .ref (ad2 15 i j), .ref (ad2 16 i j), .int 0, .int 0, .long 0])
    simp only [ha 14 i j (by first | (simp [sV, Vch, Vrl, Vtk, Vst, Vrd, Ust]; done) | (simp only [sV, Vch, Vrl, Vtk, Vst, Vrd, Ust]; omega)), ha 15 i j (by first | (simp [sV, Vch, Vrl, Vtk, Vst, Vrd, Ust]; done) | (simp only [sV, Vch, Vrl, Vtk, Vst, Vrd, Ust]; omega)), ha 16 i j (by first | (simp [sV, Vch, Vrl, Vtk, Vst, Vrd, Ust]; done) | (simp only [sV, Vch, Vrl, Vtk, Vst, Vrd, Ust]; omega))]) (by
    rw [hr]
    show _ = some (.inr (0, [.ref (ad 14 i j), .ref (ad 15 i j), .ref (ad 16 i j), .int 0, .int 0, .long 0]) : mC)
    simp only [e14_i_j, e15_i_j, e16_i_j])) (fun k i j => ?_) (fun k i j hu => ?_)⟩
  · simp only [sV, Vch, Vrl, Vtk, Vst, Vrd, Ust, false_or]; omega
  · simp only [sV, Vch, Vrl, Vtk, Vst, Vrd, Ust, false_or] at hu ⊢; omega

set_option maxRecDepth 100000 in
set_option maxHeartbeats 4000000 in
theorem k_X1_init {l : Launch} {D : va_G} {aC : Nat → ClassId} {h : mH} {a : Nat} (hr : h a = some (.inr (1, fz1))) (r : Nat) : mNon l D aC mX1_init [.ref a] h (mRv (fun h' => ∃ ad, fR (Vrl r) (Vrl r) ad a h h' ∧ ad 17 r 0 = a)) := by
  refine mNon.of [some (.ref a)] (by decide +kernel) rfl (Nat.le_of_ble_eq_true rfl) rfl ?_
  intro K el eD eC hK hZ hNo hin
  subst el eD eC
  have q := qR.init hr
  refine mJ_aload_n hK dX1_init_0 rfl ?_
  refine mJ_obj hK dX1_init_1 obX1_3 ob_2 ob_3 (by decide) (by decide) ?_
  refine mJ_aload_n hK dX1_init_4 rfl ?_
  refine mJ_iconst (v := nI 4) hK dX1_init_5 (by decide) ?_
  refine cJ_arr (atype := .int) (a0 := (4, .inl (fun _ => 0))) 0 4 18 r 0 q rfl hr (fun _ => rfl) (fun z => by first | (simp [sV, Vch, Vrl, Vtk, Vst, Vrd, Ust] at z; done) | (simp only [sV, Vch, Vrl, Vtk, Vst, Vrd, Ust] at z; omega)) hNo (Or.inl rfl) rfl (fun _ => rfl) ac_int hin hK dX1_init_6 dX1_init_8 pfX1_9 (fun _ => ⟨rfl, rfl⟩) (Nat.le_of_ble_eq_true rfl) rfl (by omega) (by decide) (by decide) (fun b18_r_0 h ad q hr hx e18_r_0 ag => ?_)
  have hr : h a = some (.inr (1, [.int 0, .int 0, .int 0, .int 0, .int 0, .int 0, .ref b18_r_0, .null, .null, .null, .null])) := hr
  refine mJ_aload_n hK dX1_init_11 rfl ?_
  refine mJ_iconst (v := nI 4) hK dX1_init_12 (by decide) ?_
  refine cJ_arr (atype := .boolean) (a0 := (4, .inl (fun _ => 0))) 2 4 19 r 0 q rfl hr (fun _ => rfl) (fun z => by first | (simp [sV, Vch, Vrl, Vtk, Vst, Vrd, Ust] at z; done) | (simp only [sV, Vch, Vrl, Vtk, Vst, Vrd, Ust] at z; omega)) hNo (Or.inr (Or.inr (Or.inl rfl))) rfl (fun _ => rfl) ac_boolean hin hK dX1_init_13 dX1_init_15 pfX1_15 (fun _ => ⟨rfl, rfl⟩) (Nat.le_of_ble_eq_true rfl) rfl (by omega) (by decide) (by decide) (fun b19_r_0 h ad q hr hx e19_r_0 ag => ?_)
  have hr : h a = some (.inr (1, [.int 0, .int 0, .int 0, .int 0, .int 0, .int 0, .ref b18_r_0, .ref b19_r_0, .null, .null, .null])) := hr
  have e18_r_0 := (ag 18 r 0 (by first | (simp [sV, Vch, Vrl, Vtk, Vst, Vrd, Ust]; done) | (simp only [sV, Vch, Vrl, Vtk, Vst, Vrd, Ust]; omega))).trans e18_r_0
  refine mJ_aload_n hK dX1_init_18 rfl ?_
  refine mJ_iconst (v := nI 4) hK dX1_init_19 (by decide) ?_
  refine cJ_arr (atype := .int) (a0 := (4, .inl (fun _ => 0))) 0 4 20 r 0 q rfl hr (fun _ => rfl) (fun z => by first | (simp [sV, Vch, Vrl, Vtk, Vst, Vrd, Ust] at z; done) | (simp only [sV, Vch, Vrl, Vtk, Vst, Vrd, Ust] at z; omega)) hNo (Or.inl rfl) rfl (fun _ => rfl) ac_int hin hK dX1_init_20 dX1_init_22 pfX1_19 (fun _ => ⟨rfl, rfl⟩) (Nat.le_of_ble_eq_true rfl) rfl (by omega) (by decide) (by decide) (fun b20_r_0 h ad q hr hx e20_r_0 ag => ?_)
  have hr : h a = some (.inr (1, [.int 0, .int 0, .int 0, .int 0, .int 0, .int 0, .ref b18_r_0, .ref b19_r_0, .ref b20_r_0, .null, .null])) := hr
  have e18_r_0 := (ag 18 r 0 (by first | (simp [sV, Vch, Vrl, Vtk, Vst, Vrd, Ust]; done) | (simp only [sV, Vch, Vrl, Vtk, Vst, Vrd, Ust]; omega))).trans e18_r_0
  have e19_r_0 := (ag 19 r 0 (by first | (simp [sV, Vch, Vrl, Vtk, Vst, Vrd, Ust]; done) | (simp only [sV, Vch, Vrl, Vtk, Vst, Vrd, Ust]; omega))).trans e19_r_0
  refine mJ_aload_n hK dX1_init_25 rfl ?_
  refine mJ_bipush (v := nI 12) hK dX1_init_26 (by decide) ?_
  refine cJ_arr (atype := .int) (a0 := (12, .inl (fun _ => 0))) 0 12 21 r 0 q rfl hr (fun _ => rfl) (fun z => by first | (simp [sV, Vch, Vrl, Vtk, Vst, Vrd, Ust] at z; done) | (simp only [sV, Vch, Vrl, Vtk, Vst, Vrd, Ust] at z; omega)) hNo (Or.inl rfl) rfl (fun _ => rfl) ac_int hin hK dX1_init_28 dX1_init_30 pfX1_22 (fun _ => ⟨rfl, rfl⟩) (Nat.le_of_ble_eq_true rfl) rfl (by omega) (by decide) (by decide) (fun b21_r_0 h ad q hr hx e21_r_0 ag => ?_)
  have hr : h a = some (.inr (1, [.int 0, .int 0, .int 0, .int 0, .int 0, .int 0, .ref b18_r_0, .ref b19_r_0, .ref b20_r_0, .ref b21_r_0, .null])) := hr
  have e18_r_0 := (ag 18 r 0 (by first | (simp [sV, Vch, Vrl, Vtk, Vst, Vrd, Ust]; done) | (simp only [sV, Vch, Vrl, Vtk, Vst, Vrd, Ust]; omega))).trans e18_r_0
  have e19_r_0 := (ag 19 r 0 (by first | (simp [sV, Vch, Vrl, Vtk, Vst, Vrd, Ust]; done) | (simp only [sV, Vch, Vrl, Vtk, Vst, Vrd, Ust]; omega))).trans e19_r_0
  have e20_r_0 := (ag 20 r 0 (by first | (simp [sV, Vch, Vrl, Vtk, Vst, Vrd, Ust]; done) | (simp only [sV, Vch, Vrl, Vtk, Vst, Vrd, Ust]; omega))).trans e20_r_0
  refine mJ_aload_n hK dX1_init_33 rfl ?_
  refine mJ_bipush (v := nI 12) hK dX1_init_34 (by decide) ?_
  refine cJ_arr (atype := .int) (a0 := (12, .inl (fun _ => 0))) 0 12 22 r 0 q rfl hr (fun _ => rfl) (fun z => by first | (simp [sV, Vch, Vrl, Vtk, Vst, Vrd, Ust] at z; done) | (simp only [sV, Vch, Vrl, Vtk, Vst, Vrd, Ust] at z; omega)) hNo (Or.inl rfl) rfl (fun _ => rfl) ac_int hin hK dX1_init_36 dX1_init_38 pfX1_25 (fun _ => ⟨rfl, rfl⟩) (Nat.le_of_ble_eq_true rfl) rfl (by omega) (by decide) (by decide) (fun b22_r_0 h ad q hr hx e22_r_0 ag => ?_)
  have hr : h a = some (.inr (1, [.int 0, .int 0, .int 0, .int 0, .int 0, .int 0, .ref b18_r_0, .ref b19_r_0, .ref b20_r_0, .ref b21_r_0, .ref b22_r_0])) := hr
  have e18_r_0 := (ag 18 r 0 (by first | (simp [sV, Vch, Vrl, Vtk, Vst, Vrd, Ust]; done) | (simp only [sV, Vch, Vrl, Vtk, Vst, Vrd, Ust]; omega))).trans e18_r_0
  have e19_r_0 := (ag 19 r 0 (by first | (simp [sV, Vch, Vrl, Vtk, Vst, Vrd, Ust]; done) | (simp only [sV, Vch, Vrl, Vtk, Vst, Vrd, Ust]; omega))).trans e19_r_0
  have e20_r_0 := (ag 20 r 0 (by first | (simp [sV, Vch, Vrl, Vtk, Vst, Vrd, Ust]; done) | (simp only [sV, Vch, Vrl, Vtk, Vst, Vrd, Ust]; omega))).trans e20_r_0
  have e21_r_0 := (ag 21 r 0 (by first | (simp [sV, Vch, Vrl, Vtk, Vst, Vrd, Ust]; done) | (simp only [sV, Vch, Vrl, Vtk, Vst, Vrd, Ust]; omega))).trans e21_r_0
  refine mJ_vret hK dX1_init_41 rfl hZ (by decide) (by decide) ?_
  refine ⟨rfl, fR.out (q.fin' (fun x => Iff.rfl) 17 r 0 (fun z => by first | (simp [sV, Vch, Vrl, Vtk, Vst, Vrd, Ust] at z; done) | (simp only [sV, Vch, Vrl, Vtk, Vst, Vrd, Ust] at z; omega)) (fun ad1 ad2 ha => by
    show (.inr (1, [.int 0, .int 0, .int 0, .int 0, .int 0, .int 0, .ref (ad1 18 r 0), .ref (ad1 19 r 0), .ref (ad1 20 r 0), .ref (ad1 21 r 0), .ref (ad1 22 r 0)]) : mC) = .inr (1, [.int 0, .int 0, .int 0, .int 0, .int 0, .int 0, .ref (ad2 18 r 0), .ref (ad2 19 r 0), .ref (ad2 20 r 0), .ref (ad2 21 r 0), .ref (ad2 22 r 0)])
    simp only [ha 18 r 0 (by first | (simp [sV, Vch, Vrl, Vtk, Vst, Vrd, Ust]; done) | (simp only [sV, Vch, Vrl, Vtk, Vst, Vrd, Ust]; omega)), ha 19 r 0 (by first | (simp [sV, Vch, Vrl, Vtk, Vst, Vrd, Ust]; done) | (simp only [sV, Vch, Vrl, Vtk, Vst, Vrd, Ust]; omega)), ha 20 r 0 (by first | (simp [sV, Vch, Vrl, Vtk, Vst, Vrd, Ust]; done) | (simp only [sV, Vch, Vrl, Vtk, Vst, Vrd, Ust]; omega)), ha 21 r 0 (by first | (simp [sV, Vch, Vrl, Vtk, Vst, Vrd, Ust]; done) | (simp only [sV, Vch, Vrl, Vtk, Vst, Vrd, Ust]; omega)), ha 22 r 0 (by first | (simp [sV, Vch, Vrl, Vtk, Vst, Vrd, Ust]; done) | (simp only [sV, Vch, Vrl, Vtk, Vst, Vrd, Ust]; omega))]) (by
    rw [hr]
    show _ = some (.inr (1, [.int 0, .int 0, .int 0, .int 0, .int 0, .int 0, .ref (ad 18 r 0), .ref (ad 19 r 0), .ref (ad 20 r 0), .ref (ad 21 r 0), .ref (ad 22 r 0)]) : mC)
    simp only [e18_r_0, e19_r_0, e20_r_0, e21_r_0, e22_r_0])) (fun k i j => ?_) (fun k i j hu => ?_)⟩
  · simp only [sV, Vch, Vrl, Vtk, Vst, Vrd, Ust, false_or]; omega
  · simp only [sV, Vch, Vrl, Vtk, Vst, Vrd, Ust, false_or] at hu ⊢; omega

set_option maxRecDepth 100000 in
set_option maxHeartbeats 4000000 in
theorem k_X4_init {l : Launch} {D : va_G} {aC : Nat → ClassId} {h : mH} {a : Nat} (hr : h a = some (.inr (4, fz4))) (s : Nat) : mNon l D aC mX4_init [.ref a] h (mRv (fun h' => ∃ ad, fR (Vtk s) (Vtk s) ad a h h' ∧ ad 9 s 0 = a)) := by
  refine mNon.of [some (.ref a)] (by decide +kernel) rfl (Nat.le_of_ble_eq_true rfl) rfl ?_
  intro K el eD eC hK hZ hNo hin
  subst el eD eC
  have q := qR.init hr
  refine mJ_aload_n hK dX4_init_0 rfl ?_
  refine mJ_obj hK dX4_init_1 obX4_3 ob_2 ob_3 (by decide) (by decide) ?_
  refine mJ_aload_n hK dX4_init_4 rfl ?_
  refine mJ_bipush (v := nI 24) hK dX4_init_5 (by decide) ?_
  refine cJ_arr (atype := .int) (a0 := (24, .inl (fun _ => 0))) 0 24 10 s 0 q rfl hr (fun _ => rfl) (fun z => by first | (simp [sV, Vch, Vrl, Vtk, Vst, Vrd, Ust] at z; done) | (simp only [sV, Vch, Vrl, Vtk, Vst, Vrd, Ust] at z; omega)) hNo (Or.inl rfl) rfl (fun _ => rfl) ac_int hin hK dX4_init_7 dX4_init_9 pfX4_9 (fun _ => ⟨rfl, rfl⟩) (Nat.le_of_ble_eq_true rfl) rfl (by omega) (by decide) (by decide) (fun b10_s_0 h ad q hr hx e10_s_0 ag => ?_)
  have hr : h a = some (.inr (4, [.ref b10_s_0, .null, .int 0])) := hr
  refine mJ_aload_n hK dX4_init_12 rfl ?_
  refine mJ_bipush (v := nI 24) hK dX4_init_13 (by decide) ?_
  refine cJ_arr (atype := .int) (a0 := (24, .inl (fun _ => 0))) 0 24 11 s 0 q rfl hr (fun _ => rfl) (fun z => by first | (simp [sV, Vch, Vrl, Vtk, Vst, Vrd, Ust] at z; done) | (simp only [sV, Vch, Vrl, Vtk, Vst, Vrd, Ust] at z; omega)) hNo (Or.inl rfl) rfl (fun _ => rfl) ac_int hin hK dX4_init_15 dX4_init_17 pfX4_15 (fun _ => ⟨rfl, rfl⟩) (Nat.le_of_ble_eq_true rfl) rfl (by omega) (by decide) (by decide) (fun b11_s_0 h ad q hr hx e11_s_0 ag => ?_)
  have hr : h a = some (.inr (4, [.ref b10_s_0, .ref b11_s_0, .int 0])) := hr
  have e10_s_0 := (ag 10 s 0 (by first | (simp [sV, Vch, Vrl, Vtk, Vst, Vrd, Ust]; done) | (simp only [sV, Vch, Vrl, Vtk, Vst, Vrd, Ust]; omega))).trans e10_s_0
  refine mJ_vret hK dX4_init_20 rfl hZ (by decide) (by decide) ?_
  refine ⟨rfl, fR.out (q.fin' (fun x => Iff.rfl) 9 s 0 (fun z => by first | (simp [sV, Vch, Vrl, Vtk, Vst, Vrd, Ust] at z; done) | (simp only [sV, Vch, Vrl, Vtk, Vst, Vrd, Ust] at z; omega)) (fun ad1 ad2 ha => by
    show (.inr (4, [.ref (ad1 10 s 0), .ref (ad1 11 s 0), .int 0]) : mC) = .inr (4, [.ref (ad2 10 s 0), .ref (ad2 11 s 0), .int 0])
    simp only [ha 10 s 0 (by first | (simp [sV, Vch, Vrl, Vtk, Vst, Vrd, Ust]; done) | (simp only [sV, Vch, Vrl, Vtk, Vst, Vrd, Ust]; omega)), ha 11 s 0 (by first | (simp [sV, Vch, Vrl, Vtk, Vst, Vrd, Ust]; done) | (simp only [sV, Vch, Vrl, Vtk, Vst, Vrd, Ust]; omega))]) (by
    rw [hr]
    show _ = some (.inr (4, [.ref (ad 10 s 0), .ref (ad 11 s 0), .int 0]) : mC)
    simp only [e10_s_0, e11_s_0])) (fun k i j => ?_) (fun k i j hu => ?_)⟩
  · simp only [sV, Vch, Vrl, Vtk, Vst, Vrd, Ust, false_or]; omega
  · simp only [sV, Vch, Vrl, Vtk, Vst, Vrd, Ust, false_or] at hu ⊢; omega

set_option maxRecDepth 100000 in
set_option maxHeartbeats 4000000 in
theorem k_X2_init {l : Launch} {D : va_G} {aC : Nat → ClassId} {h : mH} {a : Nat} (hr : h a = some (.inr (2, fz2)))  : mNon l D aC mX2_init [.ref a] h (mRv (fun h' => ∃ ad, fR (Vrd) (Vrd) ad a h h' ∧ ad 2 0 0 = a)) := by
  refine mNon.of [some (.ref a)] (by decide +kernel) rfl (Nat.le_of_ble_eq_true rfl) rfl ?_
  intro K el eD eC hK hZ hNo hin
  subst el eD eC
  have q := qR.init hr
  refine mJ_aload_n hK dX2_init_0 rfl ?_
  refine mJ_obj hK dX2_init_1 obX2_3 ob_2 ob_3 (by decide) (by decide) ?_
  refine mJ_aload_n hK dX2_init_4 rfl ?_
  refine cJ_obj (Vc := Vrl 8) (Uc := Vrl 8) (kr := 17) (ir := 8) (jr := 0) true q (fun k i j hu => hu.elim) (by unfold Vrl; omega) (fun _ _ _ z => z) (fun _ => ⟨_, rfl⟩) hNo hK dX2_init_5 dX2_init_8 dX2_init_9 nwX2_9 (Or.inl ⟨rfl, icX2_11⟩) (by unfold mFit; decide) (by decide) (by decide) (Nat.le_of_ble_eq_true rfl) (fun b h1 hb => k_X1_init hb 8) (fun b h ad q hx e17_8_0 hb ag => ?_)
  have hr := (hx a rfl).trans hr
  refine mJ_putf hK dX2_init_12 fX2_12 sX2_0 rfl rfl hr (Nat.le_of_ble_eq_true rfl) (putk q rfl (fun h q hr => ?_))
  have hr : h a = some (.inr (2, [.ref b, .int 0, .int 0, .int 0])) := hr
  refine mJ_vret hK dX2_init_15 rfl hZ (by decide) (by decide) ?_
  refine ⟨rfl, fR.out (q.fin' (fun x => Iff.rfl) 2 0 0 (fun z => by first | (simp [sV, Vch, Vrl, Vtk, Vst, Vrd, Ust] at z; done) | (simp only [sV, Vch, Vrl, Vtk, Vst, Vrd, Ust] at z; omega)) (fun ad1 ad2 ha => by
    show (.inr (2, [.ref (ad1 17 8 0), .int 0, .int 0, .int 0]) : mC) = .inr (2, [.ref (ad2 17 8 0), .int 0, .int 0, .int 0])
    simp only [ha 17 8 0 (by first | (simp [sV, Vch, Vrl, Vtk, Vst, Vrd, Ust]; done) | (simp only [sV, Vch, Vrl, Vtk, Vst, Vrd, Ust]; omega))]) (by
    rw [hr]
    show _ = some (.inr (2, [.ref (ad 17 8 0), .int 0, .int 0, .int 0]) : mC)
    simp only [e17_8_0])) (fun k i j => ?_) (fun k i j hu => ?_)⟩
  · simp only [sV, Vch, Vrl, Vtk, Vst, Vrd, Ust, false_or]; omega
  · simp only [sV, Vch, Vrl, Vtk, Vst, Vrd, Ust, false_or] at hu ⊢; omega

set_option maxRecDepth 100000 in
set_option maxHeartbeats 4000000 in
theorem k_X6_init {l : Launch} {D : va_G} {aC : Nat → ClassId} {h : mH} {a : Nat} (hr : h a = some (.inr (6, fz6)))  : mNon l D aC mX6_init [.ref a] h (mRv (fun h' => ∃ ad, fR (yV) (fun _ _ _ => True) ad a h h' ∧ ad 30 0 0 = a)) := by
  refine mNon.of [some (.ref a)] (by decide +kernel) rfl (Nat.le_of_ble_eq_true rfl) rfl ?_
  intro K el eD eC hK hZ hNo hin
  subst el eD eC
  have q := qR.init hr
  have q := q.to (U' := sU 30) (sp' := fun x => x = a) (fun _ _ _ => Iff.rfl) (fun k i j hu => hu.elim) (fun _ => Iff.rfl)
  refine mJ_aload_n hK dX6_init_0 rfl ?_
  refine mJ_obj hK dX6_init_1 obX6_1 ob_2 ob_3 (by decide) (by decide) ?_
  refine mJ_aload_n hK dX6_init_4 rfl ?_
  refine mJ_bipush (v := nI 40) hK dX6_init_5 (by decide) ?_
  refine cJ_arr (atype := .int) (a0 := (40, .inl (fun _ => 0))) 0 40 32 0 0 q rfl hr (fun _ => rfl) (fun z => absurd z.2 (by decide)) hNo (Or.inl rfl) rfl (fun _ => rfl) ac_int hin hK dX6_init_7 dX6_init_9 pfX6_7 (fun _ => ⟨rfl, rfl⟩) (Nat.le_of_ble_eq_true rfl) rfl (by omega) (by decide) (by decide) (fun b32_0_0 h ad q hr hx e32_0_0 ag => ?_)
  have hr : h a = some (.inr (6, [.int 0, .int 0, .ref b32_0_0, .int 0, .null, .null, .null, .null, .null, .null, .null, .null, .int 0, .int 0, .null, .null, .null, .null, .int 0, .int 0, .null, .null, .null, .null, .int 0, .int 0, .int 0, .int 0, .null, .int 0, .int 0, .int 0, .null, .null, .null, .null, .null, .null, .null, .int 0, .int 0, .int 0, .int 0, .null, .null, .null, .null, .null, .null, .null, .null, .null, .long 0])) := hr
  have q := q.to (U' := sU 32) (sp' := fun x => x = a) (fun _ _ _ => Iff.rfl) (fun k i j hu => by simp only [sV, sU] at hu ⊢; omega) (fun _ => Iff.rfl)
  refine mJ_aload_n hK dX6_init_12 rfl ?_
  refine mJ_bipush (v := nI 8) hK dX6_init_13 (by decide) ?_
  refine cJ_arr (atype := .int) (a0 := (8, .inl (fun _ => 0))) 0 8 34 0 0 q rfl hr (fun _ => rfl) (fun z => absurd z.2 (by decide)) hNo (Or.inl rfl) rfl (fun _ => rfl) ac_int hin hK dX6_init_15 dX6_init_17 pfX6_13 (fun _ => ⟨rfl, rfl⟩) (Nat.le_of_ble_eq_true rfl) rfl (by omega) (by decide) (by decide) (fun b34_0_0 h ad q hr hx e34_0_0 ag => ?_)
  have hr : h a = some (.inr (6, [.int 0, .int 0, .ref b32_0_0, .int 0, .ref b34_0_0, .null, .null, .null, .null, .null, .null, .null, .int 0, .int 0, .null, .null, .null, .null, .int 0, .int 0, .null, .null, .null, .null, .int 0, .int 0, .int 0, .int 0, .null, .int 0, .int 0, .int 0, .null, .null, .null, .null, .null, .null, .null, .int 0, .int 0, .int 0, .int 0, .null, .null, .null, .null, .null, .null, .null, .null, .null, .long 0])) := hr
  have e32_0_0 := (ag 32 0 0 ⟨by decide, by decide⟩).trans e32_0_0
  have q := q.to (U' := sU 34) (sp' := fun x => x = a) (fun _ _ _ => Iff.rfl) (fun k i j hu => by simp only [sV, sU] at hu ⊢; omega) (fun _ => Iff.rfl)
  refine mJ_aload_n hK dX6_init_20 rfl ?_
  refine mJ_bipush (v := nI 24) hK dX6_init_21 (by decide) ?_
  refine cJ_arr (atype := .int) (a0 := (24, .inl (fun _ => 0))) 0 24 35 0 0 q rfl hr (fun _ => rfl) (fun z => absurd z.2 (by decide)) hNo (Or.inl rfl) rfl (fun _ => rfl) ac_int hin hK dX6_init_23 dX6_init_25 pfX6_16 (fun _ => ⟨rfl, rfl⟩) (Nat.le_of_ble_eq_true rfl) rfl (by omega) (by decide) (by decide) (fun b35_0_0 h ad q hr hx e35_0_0 ag => ?_)
  have hr : h a = some (.inr (6, [.int 0, .int 0, .ref b32_0_0, .int 0, .ref b34_0_0, .ref b35_0_0, .null, .null, .null, .null, .null, .null, .int 0, .int 0, .null, .null, .null, .null, .int 0, .int 0, .null, .null, .null, .null, .int 0, .int 0, .int 0, .int 0, .null, .int 0, .int 0, .int 0, .null, .null, .null, .null, .null, .null, .null, .int 0, .int 0, .int 0, .int 0, .null, .null, .null, .null, .null, .null, .null, .null, .null, .long 0])) := hr
  have e32_0_0 := (ag 32 0 0 ⟨by decide, by decide⟩).trans e32_0_0
  have e34_0_0 := (ag 34 0 0 ⟨by decide, by decide⟩).trans e34_0_0
  have q := q.to (U' := sU 35) (sp' := fun x => x = a) (fun _ _ _ => Iff.rfl) (fun k i j hu => by simp only [sV, sU] at hu ⊢; omega) (fun _ => Iff.rfl)
  refine mJ_aload_n hK dX6_init_28 rfl ?_
  refine mJ_bipush (v := nI 8) hK dX6_init_29 (by decide) ?_
  refine cJ_arr (atype := .int) (a0 := (8, .inl (fun _ => 0))) 0 8 36 0 0 q rfl hr (fun _ => rfl) (fun z => absurd z.2 (by decide)) hNo (Or.inl rfl) rfl (fun _ => rfl) ac_int hin hK dX6_init_31 dX6_init_33 pfX6_19 (fun _ => ⟨rfl, rfl⟩) (Nat.le_of_ble_eq_true rfl) rfl (by omega) (by decide) (by decide) (fun b36_0_0 h ad q hr hx e36_0_0 ag => ?_)
  have hr : h a = some (.inr (6, [.int 0, .int 0, .ref b32_0_0, .int 0, .ref b34_0_0, .ref b35_0_0, .ref b36_0_0, .null, .null, .null, .null, .null, .int 0, .int 0, .null, .null, .null, .null, .int 0, .int 0, .null, .null, .null, .null, .int 0, .int 0, .int 0, .int 0, .null, .int 0, .int 0, .int 0, .null, .null, .null, .null, .null, .null, .null, .int 0, .int 0, .int 0, .int 0, .null, .null, .null, .null, .null, .null, .null, .null, .null, .long 0])) := hr
  have e32_0_0 := (ag 32 0 0 ⟨by decide, by decide⟩).trans e32_0_0
  have e34_0_0 := (ag 34 0 0 ⟨by decide, by decide⟩).trans e34_0_0
  have e35_0_0 := (ag 35 0 0 ⟨by decide, by decide⟩).trans e35_0_0
  have q := q.to (U' := sU 36) (sp' := fun x => x = a) (fun _ _ _ => Iff.rfl) (fun k i j hu => by simp only [sV, sU] at hu ⊢; omega) (fun _ => Iff.rfl)
  refine mJ_aload_n hK dX6_init_36 rfl ?_
  refine mJ_bipush (v := nI 32) hK dX6_init_37 (by decide) ?_
  refine cJ_arr (atype := .int) (a0 := (32, .inl (fun _ => 0))) 0 32 37 0 0 q rfl hr (fun _ => rfl) (fun z => absurd z.2 (by decide)) hNo (Or.inl rfl) rfl (fun _ => rfl) ac_int hin hK dX6_init_39 dX6_init_41 pfX6_22 (fun _ => ⟨rfl, rfl⟩) (Nat.le_of_ble_eq_true rfl) rfl (by omega) (by decide) (by decide) (fun b37_0_0 h ad q hr hx e37_0_0 ag => ?_)
  have hr : h a = some (.inr (6, [.int 0, .int 0, .ref b32_0_0, .int 0, .ref b34_0_0, .ref b35_0_0, .ref b36_0_0, .ref b37_0_0, .null, .null, .null, .null, .int 0, .int 0, .null, .null, .null, .null, .int 0, .int 0, .null, .null, .null, .null, .int 0, .int 0, .int 0, .int 0, .null, .int 0, .int 0, .int 0, .null, .null, .null, .null, .null, .null, .null, .int 0, .int 0, .int 0, .int 0, .null, .null, .null, .null, .null, .null, .null, .null, .null, .long 0])) := hr
  have e32_0_0 := (ag 32 0 0 ⟨by decide, by decide⟩).trans e32_0_0
  have e34_0_0 := (ag 34 0 0 ⟨by decide, by decide⟩).trans e34_0_0
  have e35_0_0 := (ag 35 0 0 ⟨by decide, by decide⟩).trans e35_0_0
  have e36_0_0 := (ag 36 0 0 ⟨by decide, by decide⟩).trans e36_0_0
  have q := q.to (U' := sU 37) (sp' := fun x => x = a) (fun _ _ _ => Iff.rfl) (fun k i j hu => by simp only [sV, sU] at hu ⊢; omega) (fun _ => Iff.rfl)
  refine mJ_aload_n hK dX6_init_44 rfl ?_
  refine mJ_bipush (v := nI 32) hK dX6_init_45 (by decide) ?_
  refine cJ_arr (atype := .int) (a0 := (32, .inl (fun _ => 0))) 0 32 38 0 0 q rfl hr (fun _ => rfl) (fun z => absurd z.2 (by decide)) hNo (Or.inl rfl) rfl (fun _ => rfl) ac_int hin hK dX6_init_47 dX6_init_49 pfX6_25 (fun _ => ⟨rfl, rfl⟩) (Nat.le_of_ble_eq_true rfl) rfl (by omega) (by decide) (by decide) (fun b38_0_0 h ad q hr hx e38_0_0 ag => ?_)
  have hr : h a = some (.inr (6, [.int 0, .int 0, .ref b32_0_0, .int 0, .ref b34_0_0, .ref b35_0_0, .ref b36_0_0, .ref b37_0_0, .ref b38_0_0, .null, .null, .null, .int 0, .int 0, .null, .null, .null, .null, .int 0, .int 0, .null, .null, .null, .null, .int 0, .int 0, .int 0, .int 0, .null, .int 0, .int 0, .int 0, .null, .null, .null, .null, .null, .null, .null, .int 0, .int 0, .int 0, .int 0, .null, .null, .null, .null, .null, .null, .null, .null, .null, .long 0])) := hr
  have e32_0_0 := (ag 32 0 0 ⟨by decide, by decide⟩).trans e32_0_0
  have e34_0_0 := (ag 34 0 0 ⟨by decide, by decide⟩).trans e34_0_0
  have e35_0_0 := (ag 35 0 0 ⟨by decide, by decide⟩).trans e35_0_0
  have e36_0_0 := (ag 36 0 0 ⟨by decide, by decide⟩).trans e36_0_0
  have e37_0_0 := (ag 37 0 0 ⟨by decide, by decide⟩).trans e37_0_0
  have q := q.to (U' := sU 38) (sp' := fun x => x = a) (fun _ _ _ => Iff.rfl) (fun k i j hu => by simp only [sV, sU] at hu ⊢; omega) (fun _ => Iff.rfl)
  refine mJ_aload_n hK dX6_init_52 rfl ?_
  refine mJ_bipush (v := nI 96) hK dX6_init_53 (by decide) ?_
  refine cJ_arr (atype := .int) (a0 := (96, .inl (fun _ => 0))) 0 96 39 0 0 q rfl hr (fun _ => rfl) (fun z => absurd z.2 (by decide)) hNo (Or.inl rfl) rfl (fun _ => rfl) ac_int hin hK dX6_init_55 dX6_init_57 pfX6_28 (fun _ => ⟨rfl, rfl⟩) (Nat.le_of_ble_eq_true rfl) rfl (by omega) (by decide) (by decide) (fun b39_0_0 h ad q hr hx e39_0_0 ag => ?_)
  have hr : h a = some (.inr (6, [.int 0, .int 0, .ref b32_0_0, .int 0, .ref b34_0_0, .ref b35_0_0, .ref b36_0_0, .ref b37_0_0, .ref b38_0_0, .ref b39_0_0, .null, .null, .int 0, .int 0, .null, .null, .null, .null, .int 0, .int 0, .null, .null, .null, .null, .int 0, .int 0, .int 0, .int 0, .null, .int 0, .int 0, .int 0, .null, .null, .null, .null, .null, .null, .null, .int 0, .int 0, .int 0, .int 0, .null, .null, .null, .null, .null, .null, .null, .null, .null, .long 0])) := hr
  have e32_0_0 := (ag 32 0 0 ⟨by decide, by decide⟩).trans e32_0_0
  have e34_0_0 := (ag 34 0 0 ⟨by decide, by decide⟩).trans e34_0_0
  have e35_0_0 := (ag 35 0 0 ⟨by decide, by decide⟩).trans e35_0_0
  have e36_0_0 := (ag 36 0 0 ⟨by decide, by decide⟩).trans e36_0_0
  have e37_0_0 := (ag 37 0 0 ⟨by decide, by decide⟩).trans e37_0_0
  have e38_0_0 := (ag 38 0 0 ⟨by decide, by decide⟩).trans e38_0_0
  have q := q.to (U' := sU 39) (sp' := fun x => x = a) (fun _ _ _ => Iff.rfl) (fun k i j hu => by simp only [sV, sU] at hu ⊢; omega) (fun _ => Iff.rfl)
  refine mJ_aload_n hK dX6_init_60 rfl ?_
  refine mJ_bipush (v := nI 96) hK dX6_init_61 (by decide) ?_
  refine cJ_arr (atype := .int) (a0 := (96, .inl (fun _ => 0))) 0 96 40 0 0 q rfl hr (fun _ => rfl) (fun z => absurd z.2 (by decide)) hNo (Or.inl rfl) rfl (fun _ => rfl) ac_int hin hK dX6_init_63 dX6_init_65 pfX6_31 (fun _ => ⟨rfl, rfl⟩) (Nat.le_of_ble_eq_true rfl) rfl (by omega) (by decide) (by decide) (fun b40_0_0 h ad q hr hx e40_0_0 ag => ?_)
  have hr : h a = some (.inr (6, [.int 0, .int 0, .ref b32_0_0, .int 0, .ref b34_0_0, .ref b35_0_0, .ref b36_0_0, .ref b37_0_0, .ref b38_0_0, .ref b39_0_0, .ref b40_0_0, .null, .int 0, .int 0, .null, .null, .null, .null, .int 0, .int 0, .null, .null, .null, .null, .int 0, .int 0, .int 0, .int 0, .null, .int 0, .int 0, .int 0, .null, .null, .null, .null, .null, .null, .null, .int 0, .int 0, .int 0, .int 0, .null, .null, .null, .null, .null, .null, .null, .null, .null, .long 0])) := hr
  have e32_0_0 := (ag 32 0 0 ⟨by decide, by decide⟩).trans e32_0_0
  have e34_0_0 := (ag 34 0 0 ⟨by decide, by decide⟩).trans e34_0_0
  have e35_0_0 := (ag 35 0 0 ⟨by decide, by decide⟩).trans e35_0_0
  have e36_0_0 := (ag 36 0 0 ⟨by decide, by decide⟩).trans e36_0_0
  have e37_0_0 := (ag 37 0 0 ⟨by decide, by decide⟩).trans e37_0_0
  have e38_0_0 := (ag 38 0 0 ⟨by decide, by decide⟩).trans e38_0_0
  have e39_0_0 := (ag 39 0 0 ⟨by decide, by decide⟩).trans e39_0_0
  have q := q.to (U' := sU 40) (sp' := fun x => x = a) (fun _ _ _ => Iff.rfl) (fun k i j hu => by simp only [sV, sU] at hu ⊢; omega) (fun _ => Iff.rfl)
  refine mJ_aload_n hK dX6_init_68 rfl ?_
  refine mJ_bipush (v := nI 8) hK dX6_init_69 (by decide) ?_
  refine cJ_arr (atype := .int) (a0 := (8, .inl (fun _ => 0))) 0 8 41 0 0 q rfl hr (fun _ => rfl) (fun z => absurd z.2 (by decide)) hNo (Or.inl rfl) rfl (fun _ => rfl) ac_int hin hK dX6_init_71 dX6_init_73 pfX6_34 (fun _ => ⟨rfl, rfl⟩) (Nat.le_of_ble_eq_true rfl) rfl (by omega) (by decide) (by decide) (fun b41_0_0 h ad q hr hx e41_0_0 ag => ?_)
  have hr : h a = some (.inr (6, [.int 0, .int 0, .ref b32_0_0, .int 0, .ref b34_0_0, .ref b35_0_0, .ref b36_0_0, .ref b37_0_0, .ref b38_0_0, .ref b39_0_0, .ref b40_0_0, .ref b41_0_0, .int 0, .int 0, .null, .null, .null, .null, .int 0, .int 0, .null, .null, .null, .null, .int 0, .int 0, .int 0, .int 0, .null, .int 0, .int 0, .int 0, .null, .null, .null, .null, .null, .null, .null, .int 0, .int 0, .int 0, .int 0, .null, .null, .null, .null, .null, .null, .null, .null, .null, .long 0])) := hr
  have e32_0_0 := (ag 32 0 0 ⟨by decide, by decide⟩).trans e32_0_0
  have e34_0_0 := (ag 34 0 0 ⟨by decide, by decide⟩).trans e34_0_0
  have e35_0_0 := (ag 35 0 0 ⟨by decide, by decide⟩).trans e35_0_0
  have e36_0_0 := (ag 36 0 0 ⟨by decide, by decide⟩).trans e36_0_0
  have e37_0_0 := (ag 37 0 0 ⟨by decide, by decide⟩).trans e37_0_0
  have e38_0_0 := (ag 38 0 0 ⟨by decide, by decide⟩).trans e38_0_0
  have e39_0_0 := (ag 39 0 0 ⟨by decide, by decide⟩).trans e39_0_0
  have e40_0_0 := (ag 40 0 0 ⟨by decide, by decide⟩).trans e40_0_0
  have q := q.to (U' := sU 41) (sp' := fun x => x = a) (fun _ _ _ => Iff.rfl) (fun k i j hu => by simp only [sV, sU] at hu ⊢; omega) (fun _ => Iff.rfl)
  refine mJ_aload_n hK dX6_init_76 rfl ?_
  refine mJ_iconst (v := -1) hK dX6_init_77 (by decide) ?_
  refine mJ_putf hK dX6_init_78 fX6_37 sX6_12 rfl rfl hr (Nat.le_of_ble_eq_true rfl) (putk q rfl (fun h q hr => ?_))
  have hr : h a = some (.inr (6, [.int 0, .int 0, .ref b32_0_0, .int 0, .ref b34_0_0, .ref b35_0_0, .ref b36_0_0, .ref b37_0_0, .ref b38_0_0, .ref b39_0_0, .ref b40_0_0, .ref b41_0_0, .int (-1), .int 0, .null, .null, .null, .null, .int 0, .int 0, .null, .null, .null, .null, .int 0, .int 0, .int 0, .int 0, .null, .int 0, .int 0, .int 0, .null, .null, .null, .null, .null, .null, .null, .int 0, .int 0, .int 0, .int 0, .null, .null, .null, .null, .null, .null, .null, .null, .null, .long 0])) := hr
  refine mJ_aload_n hK dX6_init_81 rfl ?_
  refine mJ_bipush (v := nI 8) hK dX6_init_82 (by decide) ?_
  refine cJ_arr (atype := .int) (a0 := (8, .inl (fun _ => 0))) 0 8 44 0 0 q rfl hr (fun _ => rfl) (fun z => absurd z.2 (by decide)) hNo (Or.inl rfl) rfl (fun _ => rfl) ac_int hin hK dX6_init_84 dX6_init_86 pfX6_41 (fun _ => ⟨rfl, rfl⟩) (Nat.le_of_ble_eq_true rfl) rfl (by omega) (by decide) (by decide) (fun b44_0_0 h ad q hr hx e44_0_0 ag => ?_)
  have hr : h a = some (.inr (6, [.int 0, .int 0, .ref b32_0_0, .int 0, .ref b34_0_0, .ref b35_0_0, .ref b36_0_0, .ref b37_0_0, .ref b38_0_0, .ref b39_0_0, .ref b40_0_0, .ref b41_0_0, .int (-1), .int 0, .ref b44_0_0, .null, .null, .null, .int 0, .int 0, .null, .null, .null, .null, .int 0, .int 0, .int 0, .int 0, .null, .int 0, .int 0, .int 0, .null, .null, .null, .null, .null, .null, .null, .int 0, .int 0, .int 0, .int 0, .null, .null, .null, .null, .null, .null, .null, .null, .null, .long 0])) := hr
  have e32_0_0 := (ag 32 0 0 ⟨by decide, by decide⟩).trans e32_0_0
  have e34_0_0 := (ag 34 0 0 ⟨by decide, by decide⟩).trans e34_0_0
  have e35_0_0 := (ag 35 0 0 ⟨by decide, by decide⟩).trans e35_0_0
  have e36_0_0 := (ag 36 0 0 ⟨by decide, by decide⟩).trans e36_0_0
  have e37_0_0 := (ag 37 0 0 ⟨by decide, by decide⟩).trans e37_0_0
  have e38_0_0 := (ag 38 0 0 ⟨by decide, by decide⟩).trans e38_0_0
  have e39_0_0 := (ag 39 0 0 ⟨by decide, by decide⟩).trans e39_0_0
  have e40_0_0 := (ag 40 0 0 ⟨by decide, by decide⟩).trans e40_0_0
  have e41_0_0 := (ag 41 0 0 ⟨by decide, by decide⟩).trans e41_0_0
  have q := q.to (U' := sU 44) (sp' := fun x => x = a) (fun _ _ _ => Iff.rfl) (fun k i j hu => by simp only [sV, sU] at hu ⊢; omega) (fun _ => Iff.rfl)
  refine mJ_aload_n hK dX6_init_89 rfl ?_
  refine mJ_bipush (v := nI 64) hK dX6_init_90 (by decide) ?_
  refine cJ_arr (atype := .int) (a0 := (64, .inl (fun _ => 0))) 0 64 45 0 0 q rfl hr (fun _ => rfl) (fun z => absurd z.2 (by decide)) hNo (Or.inl rfl) rfl (fun _ => rfl) ac_int hin hK dX6_init_92 dX6_init_94 pfX6_44 (fun _ => ⟨rfl, rfl⟩) (Nat.le_of_ble_eq_true rfl) rfl (by omega) (by decide) (by decide) (fun b45_0_0 h ad q hr hx e45_0_0 ag => ?_)
  have hr : h a = some (.inr (6, [.int 0, .int 0, .ref b32_0_0, .int 0, .ref b34_0_0, .ref b35_0_0, .ref b36_0_0, .ref b37_0_0, .ref b38_0_0, .ref b39_0_0, .ref b40_0_0, .ref b41_0_0, .int (-1), .int 0, .ref b44_0_0, .ref b45_0_0, .null, .null, .int 0, .int 0, .null, .null, .null, .null, .int 0, .int 0, .int 0, .int 0, .null, .int 0, .int 0, .int 0, .null, .null, .null, .null, .null, .null, .null, .int 0, .int 0, .int 0, .int 0, .null, .null, .null, .null, .null, .null, .null, .null, .null, .long 0])) := hr
  have e32_0_0 := (ag 32 0 0 ⟨by decide, by decide⟩).trans e32_0_0
  have e34_0_0 := (ag 34 0 0 ⟨by decide, by decide⟩).trans e34_0_0
  have e35_0_0 := (ag 35 0 0 ⟨by decide, by decide⟩).trans e35_0_0
  have e36_0_0 := (ag 36 0 0 ⟨by decide, by decide⟩).trans e36_0_0
  have e37_0_0 := (ag 37 0 0 ⟨by decide, by decide⟩).trans e37_0_0
  have e38_0_0 := (ag 38 0 0 ⟨by decide, by decide⟩).trans e38_0_0
  have e39_0_0 := (ag 39 0 0 ⟨by decide, by decide⟩).trans e39_0_0
  have e40_0_0 := (ag 40 0 0 ⟨by decide, by decide⟩).trans e40_0_0
  have e41_0_0 := (ag 41 0 0 ⟨by decide, by decide⟩).trans e41_0_0
  have e44_0_0 := (ag 44 0 0 ⟨by decide, by decide⟩).trans e44_0_0
  have q := q.to (U' := sU 45) (sp' := fun x => x = a) (fun _ _ _ => Iff.rfl) (fun k i j hu => by simp only [sV, sU] at hu ⊢; omega) (fun _ => Iff.rfl)
  refine mJ_aload_n hK dX6_init_97 rfl ?_
  refine mJ_bipush (v := nI 64) hK dX6_init_98 (by decide) ?_
  refine cJ_arr (atype := .int) (a0 := (64, .inl (fun _ => 0))) 0 64 46 0 0 q rfl hr (fun _ => rfl) (fun z => absurd z.2 (by decide)) hNo (Or.inl rfl) rfl (fun _ => rfl) ac_int hin hK dX6_init_100 dX6_init_102 pfX6_47 (fun _ => ⟨rfl, rfl⟩) (Nat.le_of_ble_eq_true rfl) rfl (by omega) (by decide) (by decide) (fun b46_0_0 h ad q hr hx e46_0_0 ag => ?_)
  have hr : h a = some (.inr (6, [.int 0, .int 0, .ref b32_0_0, .int 0, .ref b34_0_0, .ref b35_0_0, .ref b36_0_0, .ref b37_0_0, .ref b38_0_0, .ref b39_0_0, .ref b40_0_0, .ref b41_0_0, .int (-1), .int 0, .ref b44_0_0, .ref b45_0_0, .ref b46_0_0, .null, .int 0, .int 0, .null, .null, .null, .null, .int 0, .int 0, .int 0, .int 0, .null, .int 0, .int 0, .int 0, .null, .null, .null, .null, .null, .null, .null, .int 0, .int 0, .int 0, .int 0, .null, .null, .null, .null, .null, .null, .null, .null, .null, .long 0])) := hr
  have e32_0_0 := (ag 32 0 0 ⟨by decide, by decide⟩).trans e32_0_0
  have e34_0_0 := (ag 34 0 0 ⟨by decide, by decide⟩).trans e34_0_0
  have e35_0_0 := (ag 35 0 0 ⟨by decide, by decide⟩).trans e35_0_0
  have e36_0_0 := (ag 36 0 0 ⟨by decide, by decide⟩).trans e36_0_0
  have e37_0_0 := (ag 37 0 0 ⟨by decide, by decide⟩).trans e37_0_0
  have e38_0_0 := (ag 38 0 0 ⟨by decide, by decide⟩).trans e38_0_0
  have e39_0_0 := (ag 39 0 0 ⟨by decide, by decide⟩).trans e39_0_0
  have e40_0_0 := (ag 40 0 0 ⟨by decide, by decide⟩).trans e40_0_0
  have e41_0_0 := (ag 41 0 0 ⟨by decide, by decide⟩).trans e41_0_0
  have e44_0_0 := (ag 44 0 0 ⟨by decide, by decide⟩).trans e44_0_0
  have e45_0_0 := (ag 45 0 0 ⟨by decide, by decide⟩).trans e45_0_0
  have q := q.to (U' := sU 46) (sp' := fun x => x = a) (fun _ _ _ => Iff.rfl) (fun k i j hu => by simp only [sV, sU] at hu ⊢; omega) (fun _ => Iff.rfl)
  refine mJ_aload_n hK dX6_init_105 rfl ?_
  refine mJ_bipush (v := nI 64) hK dX6_init_106 (by decide) ?_
  refine cJ_arr (atype := .int) (a0 := (64, .inl (fun _ => 0))) 0 64 47 0 0 q rfl hr (fun _ => rfl) (fun z => absurd z.2 (by decide)) hNo (Or.inl rfl) rfl (fun _ => rfl) ac_int hin hK dX6_init_108 dX6_init_110 pfX6_50 (fun _ => ⟨rfl, rfl⟩) (Nat.le_of_ble_eq_true rfl) rfl (by omega) (by decide) (by decide) (fun b47_0_0 h ad q hr hx e47_0_0 ag => ?_)
  have hr : h a = some (.inr (6, [.int 0, .int 0, .ref b32_0_0, .int 0, .ref b34_0_0, .ref b35_0_0, .ref b36_0_0, .ref b37_0_0, .ref b38_0_0, .ref b39_0_0, .ref b40_0_0, .ref b41_0_0, .int (-1), .int 0, .ref b44_0_0, .ref b45_0_0, .ref b46_0_0, .ref b47_0_0, .int 0, .int 0, .null, .null, .null, .null, .int 0, .int 0, .int 0, .int 0, .null, .int 0, .int 0, .int 0, .null, .null, .null, .null, .null, .null, .null, .int 0, .int 0, .int 0, .int 0, .null, .null, .null, .null, .null, .null, .null, .null, .null, .long 0])) := hr
  have e32_0_0 := (ag 32 0 0 ⟨by decide, by decide⟩).trans e32_0_0
  have e34_0_0 := (ag 34 0 0 ⟨by decide, by decide⟩).trans e34_0_0
  have e35_0_0 := (ag 35 0 0 ⟨by decide, by decide⟩).trans e35_0_0
  have e36_0_0 := (ag 36 0 0 ⟨by decide, by decide⟩).trans e36_0_0
  have e37_0_0 := (ag 37 0 0 ⟨by decide, by decide⟩).trans e37_0_0
  have e38_0_0 := (ag 38 0 0 ⟨by decide, by decide⟩).trans e38_0_0
  have e39_0_0 := (ag 39 0 0 ⟨by decide, by decide⟩).trans e39_0_0
  have e40_0_0 := (ag 40 0 0 ⟨by decide, by decide⟩).trans e40_0_0
  have e41_0_0 := (ag 41 0 0 ⟨by decide, by decide⟩).trans e41_0_0
  have e44_0_0 := (ag 44 0 0 ⟨by decide, by decide⟩).trans e44_0_0
  have e45_0_0 := (ag 45 0 0 ⟨by decide, by decide⟩).trans e45_0_0
  have e46_0_0 := (ag 46 0 0 ⟨by decide, by decide⟩).trans e46_0_0
  have q := q.to (U' := sU 47) (sp' := fun x => x = a) (fun _ _ _ => Iff.rfl) (fun k i j hu => by simp only [sV, sU] at hu ⊢; omega) (fun _ => Iff.rfl)
  refine mJ_aload_n hK dX6_init_113 rfl ?_
  refine mJ_bipush (v := nI 24) hK dX6_init_114 (by decide) ?_
  refine cJ_arr (atype := .int) (a0 := (24, .inl (fun _ => 0))) 0 24 50 0 0 q rfl hr (fun _ => rfl) (fun z => absurd z.2 (by decide)) hNo (Or.inl rfl) rfl (fun _ => rfl) ac_int hin hK dX6_init_116 dX6_init_118 pfX6_53 (fun _ => ⟨rfl, rfl⟩) (Nat.le_of_ble_eq_true rfl) rfl (by omega) (by decide) (by decide) (fun b50_0_0 h ad q hr hx e50_0_0 ag => ?_)
  have hr : h a = some (.inr (6, [.int 0, .int 0, .ref b32_0_0, .int 0, .ref b34_0_0, .ref b35_0_0, .ref b36_0_0, .ref b37_0_0, .ref b38_0_0, .ref b39_0_0, .ref b40_0_0, .ref b41_0_0, .int (-1), .int 0, .ref b44_0_0, .ref b45_0_0, .ref b46_0_0, .ref b47_0_0, .int 0, .int 0, .ref b50_0_0, .null, .null, .null, .int 0, .int 0, .int 0, .int 0, .null, .int 0, .int 0, .int 0, .null, .null, .null, .null, .null, .null, .null, .int 0, .int 0, .int 0, .int 0, .null, .null, .null, .null, .null, .null, .null, .null, .null, .long 0])) := hr
  have e32_0_0 := (ag 32 0 0 ⟨by decide, by decide⟩).trans e32_0_0
  have e34_0_0 := (ag 34 0 0 ⟨by decide, by decide⟩).trans e34_0_0
  have e35_0_0 := (ag 35 0 0 ⟨by decide, by decide⟩).trans e35_0_0
  have e36_0_0 := (ag 36 0 0 ⟨by decide, by decide⟩).trans e36_0_0
  have e37_0_0 := (ag 37 0 0 ⟨by decide, by decide⟩).trans e37_0_0
  have e38_0_0 := (ag 38 0 0 ⟨by decide, by decide⟩).trans e38_0_0
  have e39_0_0 := (ag 39 0 0 ⟨by decide, by decide⟩).trans e39_0_0
  have e40_0_0 := (ag 40 0 0 ⟨by decide, by decide⟩).trans e40_0_0
  have e41_0_0 := (ag 41 0 0 ⟨by decide, by decide⟩).trans e41_0_0
  have e44_0_0 := (ag 44 0 0 ⟨by decide, by decide⟩).trans e44_0_0
  have e45_0_0 := (ag 45 0 0 ⟨by decide, by decide⟩).trans e45_0_0
  have e46_0_0 := (ag 46 0 0 ⟨by decide, by decide⟩).trans e46_0_0
  have e47_0_0 := (ag 47 0 0 ⟨by decide, by decide⟩).trans e47_0_0
  have q := q.to (U' := sU 50) (sp' := fun x => x = a) (fun _ _ _ => Iff.rfl) (fun k i j hu => by simp only [sV, sU] at hu ⊢; omega) (fun _ => Iff.rfl)
  refine mJ_aload_n hK dX6_init_121 rfl ?_
  refine mJ_bipush (v := nI 24) hK dX6_init_122 (by decide) ?_
  refine cJ_arr (atype := .int) (a0 := (24, .inl (fun _ => 0))) 0 24 51 0 0 q rfl hr (fun _ => rfl) (fun z => absurd z.2 (by decide)) hNo (Or.inl rfl) rfl (fun _ => rfl) ac_int hin hK dX6_init_124 dX6_init_126 pfX6_56 (fun _ => ⟨rfl, rfl⟩) (Nat.le_of_ble_eq_true rfl) rfl (by omega) (by decide) (by decide) (fun b51_0_0 h ad q hr hx e51_0_0 ag => ?_)
  have hr : h a = some (.inr (6, [.int 0, .int 0, .ref b32_0_0, .int 0, .ref b34_0_0, .ref b35_0_0, .ref b36_0_0, .ref b37_0_0, .ref b38_0_0, .ref b39_0_0, .ref b40_0_0, .ref b41_0_0, .int (-1), .int 0, .ref b44_0_0, .ref b45_0_0, .ref b46_0_0, .ref b47_0_0, .int 0, .int 0, .ref b50_0_0, .ref b51_0_0, .null, .null, .int 0, .int 0, .int 0, .int 0, .null, .int 0, .int 0, .int 0, .null, .null, .null, .null, .null, .null, .null, .int 0, .int 0, .int 0, .int 0, .null, .null, .null, .null, .null, .null, .null, .null, .null, .long 0])) := hr
  have e32_0_0 := (ag 32 0 0 ⟨by decide, by decide⟩).trans e32_0_0
  have e34_0_0 := (ag 34 0 0 ⟨by decide, by decide⟩).trans e34_0_0
  have e35_0_0 := (ag 35 0 0 ⟨by decide, by decide⟩).trans e35_0_0
  have e36_0_0 := (ag 36 0 0 ⟨by decide, by decide⟩).trans e36_0_0
  have e37_0_0 := (ag 37 0 0 ⟨by decide, by decide⟩).trans e37_0_0
  have e38_0_0 := (ag 38 0 0 ⟨by decide, by decide⟩).trans e38_0_0
  have e39_0_0 := (ag 39 0 0 ⟨by decide, by decide⟩).trans e39_0_0
  have e40_0_0 := (ag 40 0 0 ⟨by decide, by decide⟩).trans e40_0_0
  have e41_0_0 := (ag 41 0 0 ⟨by decide, by decide⟩).trans e41_0_0
  have e44_0_0 := (ag 44 0 0 ⟨by decide, by decide⟩).trans e44_0_0
  have e45_0_0 := (ag 45 0 0 ⟨by decide, by decide⟩).trans e45_0_0
  have e46_0_0 := (ag 46 0 0 ⟨by decide, by decide⟩).trans e46_0_0
  have e47_0_0 := (ag 47 0 0 ⟨by decide, by decide⟩).trans e47_0_0
  have e50_0_0 := (ag 50 0 0 ⟨by decide, by decide⟩).trans e50_0_0
  have q := q.to (U' := sU 51) (sp' := fun x => x = a) (fun _ _ _ => Iff.rfl) (fun k i j hu => by simp only [sV, sU] at hu ⊢; omega) (fun _ => Iff.rfl)
  refine mJ_aload_n hK dX6_init_129 rfl ?_
  refine mJ_bipush (v := nI 8) hK dX6_init_130 (by decide) ?_
  refine cJ_arr (atype := .int) (a0 := (8, .inl (fun _ => 0))) 0 8 52 0 0 q rfl hr (fun _ => rfl) (fun z => absurd z.2 (by decide)) hNo (Or.inl rfl) rfl (fun _ => rfl) ac_int hin hK dX6_init_132 dX6_init_134 pfX6_59 (fun _ => ⟨rfl, rfl⟩) (Nat.le_of_ble_eq_true rfl) rfl (by omega) (by decide) (by decide) (fun b52_0_0 h ad q hr hx e52_0_0 ag => ?_)
  have hr : h a = some (.inr (6, [.int 0, .int 0, .ref b32_0_0, .int 0, .ref b34_0_0, .ref b35_0_0, .ref b36_0_0, .ref b37_0_0, .ref b38_0_0, .ref b39_0_0, .ref b40_0_0, .ref b41_0_0, .int (-1), .int 0, .ref b44_0_0, .ref b45_0_0, .ref b46_0_0, .ref b47_0_0, .int 0, .int 0, .ref b50_0_0, .ref b51_0_0, .ref b52_0_0, .null, .int 0, .int 0, .int 0, .int 0, .null, .int 0, .int 0, .int 0, .null, .null, .null, .null, .null, .null, .null, .int 0, .int 0, .int 0, .int 0, .null, .null, .null, .null, .null, .null, .null, .null, .null, .long 0])) := hr
  have e32_0_0 := (ag 32 0 0 ⟨by decide, by decide⟩).trans e32_0_0
  have e34_0_0 := (ag 34 0 0 ⟨by decide, by decide⟩).trans e34_0_0
  have e35_0_0 := (ag 35 0 0 ⟨by decide, by decide⟩).trans e35_0_0
  have e36_0_0 := (ag 36 0 0 ⟨by decide, by decide⟩).trans e36_0_0
  have e37_0_0 := (ag 37 0 0 ⟨by decide, by decide⟩).trans e37_0_0
  have e38_0_0 := (ag 38 0 0 ⟨by decide, by decide⟩).trans e38_0_0
  have e39_0_0 := (ag 39 0 0 ⟨by decide, by decide⟩).trans e39_0_0
  have e40_0_0 := (ag 40 0 0 ⟨by decide, by decide⟩).trans e40_0_0
  have e41_0_0 := (ag 41 0 0 ⟨by decide, by decide⟩).trans e41_0_0
  have e44_0_0 := (ag 44 0 0 ⟨by decide, by decide⟩).trans e44_0_0
  have e45_0_0 := (ag 45 0 0 ⟨by decide, by decide⟩).trans e45_0_0
  have e46_0_0 := (ag 46 0 0 ⟨by decide, by decide⟩).trans e46_0_0
  have e47_0_0 := (ag 47 0 0 ⟨by decide, by decide⟩).trans e47_0_0
  have e50_0_0 := (ag 50 0 0 ⟨by decide, by decide⟩).trans e50_0_0
  have e51_0_0 := (ag 51 0 0 ⟨by decide, by decide⟩).trans e51_0_0
  have q := q.to (U' := sU 52) (sp' := fun x => x = a) (fun _ _ _ => Iff.rfl) (fun k i j hu => by simp only [sV, sU] at hu ⊢; omega) (fun _ => Iff.rfl)
  refine mJ_aload_n hK dX6_init_137 rfl ?_
  refine mJ_bipush (v := nI 8) hK dX6_init_138 (by decide) ?_
  refine cJ_arr (atype := .long) (a0 := (8, .inr (.inl (fun _ => 0)))) 1 8 53 0 0 q rfl hr (fun _ => rfl) (fun z => absurd z.2 (by decide)) hNo (Or.inr (Or.inl rfl)) rfl (fun _ => rfl) ac_long hin hK dX6_init_140 dX6_init_142 pfX6_62 (fun _ => ⟨rfl, rfl⟩) (Nat.le_of_ble_eq_true rfl) rfl (by omega) (by decide) (by decide) (fun b53_0_0 h ad q hr hx e53_0_0 ag => ?_)
  have hr : h a = some (.inr (6, [.int 0, .int 0, .ref b32_0_0, .int 0, .ref b34_0_0, .ref b35_0_0, .ref b36_0_0, .ref b37_0_0, .ref b38_0_0, .ref b39_0_0, .ref b40_0_0, .ref b41_0_0, .int (-1), .int 0, .ref b44_0_0, .ref b45_0_0, .ref b46_0_0, .ref b47_0_0, .int 0, .int 0, .ref b50_0_0, .ref b51_0_0, .ref b52_0_0, .ref b53_0_0, .int 0, .int 0, .int 0, .int 0, .null, .int 0, .int 0, .int 0, .null, .null, .null, .null, .null, .null, .null, .int 0, .int 0, .int 0, .int 0, .null, .null, .null, .null, .null, .null, .null, .null, .null, .long 0])) := hr
  have e32_0_0 := (ag 32 0 0 ⟨by decide, by decide⟩).trans e32_0_0
  have e34_0_0 := (ag 34 0 0 ⟨by decide, by decide⟩).trans e34_0_0
  have e35_0_0 := (ag 35 0 0 ⟨by decide, by decide⟩).trans e35_0_0
  have e36_0_0 := (ag 36 0 0 ⟨by decide, by decide⟩).trans e36_0_0
  have e37_0_0 := (ag 37 0 0 ⟨by decide, by decide⟩).trans e37_0_0
  have e38_0_0 := (ag 38 0 0 ⟨by decide, by decide⟩).trans e38_0_0
  have e39_0_0 := (ag 39 0 0 ⟨by decide, by decide⟩).trans e39_0_0
  have e40_0_0 := (ag 40 0 0 ⟨by decide, by decide⟩).trans e40_0_0
  have e41_0_0 := (ag 41 0 0 ⟨by decide, by decide⟩).trans e41_0_0
  have e44_0_0 := (ag 44 0 0 ⟨by decide, by decide⟩).trans e44_0_0
  have e45_0_0 := (ag 45 0 0 ⟨by decide, by decide⟩).trans e45_0_0
  have e46_0_0 := (ag 46 0 0 ⟨by decide, by decide⟩).trans e46_0_0
  have e47_0_0 := (ag 47 0 0 ⟨by decide, by decide⟩).trans e47_0_0
  have e50_0_0 := (ag 50 0 0 ⟨by decide, by decide⟩).trans e50_0_0
  have e51_0_0 := (ag 51 0 0 ⟨by decide, by decide⟩).trans e51_0_0
  have e52_0_0 := (ag 52 0 0 ⟨by decide, by decide⟩).trans e52_0_0
  have q := q.to (U' := sU 53) (sp' := fun x => x = a) (fun _ _ _ => Iff.rfl) (fun k i j hu => by simp only [sV, sU] at hu ⊢; omega) (fun _ => Iff.rfl)
  refine mJ_aload_n hK dX6_init_145 rfl ?_
  refine mJ_iconst (v := nI 3) hK dX6_init_146 (by decide) ?_
  refine cJ_arr (atype := .int) (a0 := (3, .inl (fun _ => 0))) 0 3 58 0 0 q rfl hr (fun _ => rfl) (fun z => absurd z.2 (by decide)) hNo (Or.inl rfl) rfl (fun _ => rfl) ac_int hin hK dX6_init_147 dX6_init_149 pfX6_66 (fun _ => ⟨rfl, rfl⟩) (Nat.le_of_ble_eq_true rfl) rfl (by omega) (by decide) (by decide) (fun b58_0_0 h ad q hr hx e58_0_0 ag => ?_)
  have hr : h a = some (.inr (6, [.int 0, .int 0, .ref b32_0_0, .int 0, .ref b34_0_0, .ref b35_0_0, .ref b36_0_0, .ref b37_0_0, .ref b38_0_0, .ref b39_0_0, .ref b40_0_0, .ref b41_0_0, .int (-1), .int 0, .ref b44_0_0, .ref b45_0_0, .ref b46_0_0, .ref b47_0_0, .int 0, .int 0, .ref b50_0_0, .ref b51_0_0, .ref b52_0_0, .ref b53_0_0, .int 0, .int 0, .int 0, .int 0, .ref b58_0_0, .int 0, .int 0, .int 0, .null, .null, .null, .null, .null, .null, .null, .int 0, .int 0, .int 0, .int 0, .null, .null, .null, .null, .null, .null, .null, .null, .null, .long 0])) := hr
  have e32_0_0 := (ag 32 0 0 ⟨by decide, by decide⟩).trans e32_0_0
  have e34_0_0 := (ag 34 0 0 ⟨by decide, by decide⟩).trans e34_0_0
  have e35_0_0 := (ag 35 0 0 ⟨by decide, by decide⟩).trans e35_0_0
  have e36_0_0 := (ag 36 0 0 ⟨by decide, by decide⟩).trans e36_0_0
  have e37_0_0 := (ag 37 0 0 ⟨by decide, by decide⟩).trans e37_0_0
  have e38_0_0 := (ag 38 0 0 ⟨by decide, by decide⟩).trans e38_0_0
  have e39_0_0 := (ag 39 0 0 ⟨by decide, by decide⟩).trans e39_0_0
  have e40_0_0 := (ag 40 0 0 ⟨by decide, by decide⟩).trans e40_0_0
  have e41_0_0 := (ag 41 0 0 ⟨by decide, by decide⟩).trans e41_0_0
  have e44_0_0 := (ag 44 0 0 ⟨by decide, by decide⟩).trans e44_0_0
  have e45_0_0 := (ag 45 0 0 ⟨by decide, by decide⟩).trans e45_0_0
  have e46_0_0 := (ag 46 0 0 ⟨by decide, by decide⟩).trans e46_0_0
  have e47_0_0 := (ag 47 0 0 ⟨by decide, by decide⟩).trans e47_0_0
  have e50_0_0 := (ag 50 0 0 ⟨by decide, by decide⟩).trans e50_0_0
  have e51_0_0 := (ag 51 0 0 ⟨by decide, by decide⟩).trans e51_0_0
  have e52_0_0 := (ag 52 0 0 ⟨by decide, by decide⟩).trans e52_0_0
  have e53_0_0 := (ag 53 0 0 ⟨by decide, by decide⟩).trans e53_0_0
  have q := q.to (U' := sU 58) (sp' := fun x => x = a) (fun _ _ _ => Iff.rfl) (fun k i j hu => by simp only [sV, sU] at hu ⊢; omega) (fun _ => Iff.rfl)
  refine mJ_aload_n hK dX6_init_152 rfl ?_
  refine mJ_iconst (v := nI 4) hK dX6_init_153 (by decide) ?_
  refine cJ_arr (atype := .int) (a0 := (4, .inl (fun _ => 0))) 0 4 62 0 0 q rfl hr (fun _ => rfl) (fun z => absurd z.2 (by decide)) hNo (Or.inl rfl) rfl (fun _ => rfl) ac_int hin hK dX6_init_154 dX6_init_156 pfX6_69 (fun _ => ⟨rfl, rfl⟩) (Nat.le_of_ble_eq_true rfl) rfl (by omega) (by decide) (by decide) (fun b62_0_0 h ad q hr hx e62_0_0 ag => ?_)
  have hr : h a = some (.inr (6, [.int 0, .int 0, .ref b32_0_0, .int 0, .ref b34_0_0, .ref b35_0_0, .ref b36_0_0, .ref b37_0_0, .ref b38_0_0, .ref b39_0_0, .ref b40_0_0, .ref b41_0_0, .int (-1), .int 0, .ref b44_0_0, .ref b45_0_0, .ref b46_0_0, .ref b47_0_0, .int 0, .int 0, .ref b50_0_0, .ref b51_0_0, .ref b52_0_0, .ref b53_0_0, .int 0, .int 0, .int 0, .int 0, .ref b58_0_0, .int 0, .int 0, .int 0, .ref b62_0_0, .null, .null, .null, .null, .null, .null, .int 0, .int 0, .int 0, .int 0, .null, .null, .null, .null, .null, .null, .null, .null, .null, .long 0])) := hr
  have e32_0_0 := (ag 32 0 0 ⟨by decide, by decide⟩).trans e32_0_0
  have e34_0_0 := (ag 34 0 0 ⟨by decide, by decide⟩).trans e34_0_0
  have e35_0_0 := (ag 35 0 0 ⟨by decide, by decide⟩).trans e35_0_0
  have e36_0_0 := (ag 36 0 0 ⟨by decide, by decide⟩).trans e36_0_0
  have e37_0_0 := (ag 37 0 0 ⟨by decide, by decide⟩).trans e37_0_0
  have e38_0_0 := (ag 38 0 0 ⟨by decide, by decide⟩).trans e38_0_0
  have e39_0_0 := (ag 39 0 0 ⟨by decide, by decide⟩).trans e39_0_0
  have e40_0_0 := (ag 40 0 0 ⟨by decide, by decide⟩).trans e40_0_0
  have e41_0_0 := (ag 41 0 0 ⟨by decide, by decide⟩).trans e41_0_0
  have e44_0_0 := (ag 44 0 0 ⟨by decide, by decide⟩).trans e44_0_0
  have e45_0_0 := (ag 45 0 0 ⟨by decide, by decide⟩).trans e45_0_0
  have e46_0_0 := (ag 46 0 0 ⟨by decide, by decide⟩).trans e46_0_0
  have e47_0_0 := (ag 47 0 0 ⟨by decide, by decide⟩).trans e47_0_0
  have e50_0_0 := (ag 50 0 0 ⟨by decide, by decide⟩).trans e50_0_0
  have e51_0_0 := (ag 51 0 0 ⟨by decide, by decide⟩).trans e51_0_0
  have e52_0_0 := (ag 52 0 0 ⟨by decide, by decide⟩).trans e52_0_0
  have e53_0_0 := (ag 53 0 0 ⟨by decide, by decide⟩).trans e53_0_0
  have e58_0_0 := (ag 58 0 0 ⟨by decide, by decide⟩).trans e58_0_0
  have q := q.to (U' := sU 62) (sp' := fun x => x = a) (fun _ _ _ => Iff.rfl) (fun k i j hu => by simp only [sV, sU] at hu ⊢; omega) (fun _ => Iff.rfl)
  refine mJ_aload_n hK dX6_init_159 rfl ?_
  refine mJ_iconst (v := nI 4) hK dX6_init_160 (by decide) ?_
  refine cJ_arr (atype := .int) (a0 := (4, .inl (fun _ => 0))) 0 4 63 0 0 q rfl hr (fun _ => rfl) (fun z => absurd z.2 (by decide)) hNo (Or.inl rfl) rfl (fun _ => rfl) ac_int hin hK dX6_init_161 dX6_init_163 pfX6_72 (fun _ => ⟨rfl, rfl⟩) (Nat.le_of_ble_eq_true rfl) rfl (by omega) (by decide) (by decide) (fun b63_0_0 h ad q hr hx e63_0_0 ag => ?_)
  have hr : h a = some (.inr (6, [.int 0, .int 0, .ref b32_0_0, .int 0, .ref b34_0_0, .ref b35_0_0, .ref b36_0_0, .ref b37_0_0, .ref b38_0_0, .ref b39_0_0, .ref b40_0_0, .ref b41_0_0, .int (-1), .int 0, .ref b44_0_0, .ref b45_0_0, .ref b46_0_0, .ref b47_0_0, .int 0, .int 0, .ref b50_0_0, .ref b51_0_0, .ref b52_0_0, .ref b53_0_0, .int 0, .int 0, .int 0, .int 0, .ref b58_0_0, .int 0, .int 0, .int 0, .ref b62_0_0, .ref b63_0_0, .null, .null, .null, .null, .null, .int 0, .int 0, .int 0, .int 0, .null, .null, .null, .null, .null, .null, .null, .null, .null, .long 0])) := hr
  have e32_0_0 := (ag 32 0 0 ⟨by decide, by decide⟩).trans e32_0_0
  have e34_0_0 := (ag 34 0 0 ⟨by decide, by decide⟩).trans e34_0_0
  have e35_0_0 := (ag 35 0 0 ⟨by decide, by decide⟩).trans e35_0_0
  have e36_0_0 := (ag 36 0 0 ⟨by decide, by decide⟩).trans e36_0_0
  have e37_0_0 := (ag 37 0 0 ⟨by decide, by decide⟩).trans e37_0_0
  have e38_0_0 := (ag 38 0 0 ⟨by decide, by decide⟩).trans e38_0_0
  have e39_0_0 := (ag 39 0 0 ⟨by decide, by decide⟩).trans e39_0_0
  have e40_0_0 := (ag 40 0 0 ⟨by decide, by decide⟩).trans e40_0_0
  have e41_0_0 := (ag 41 0 0 ⟨by decide, by decide⟩).trans e41_0_0
  have e44_0_0 := (ag 44 0 0 ⟨by decide, by decide⟩).trans e44_0_0
  have e45_0_0 := (ag 45 0 0 ⟨by decide, by decide⟩).trans e45_0_0
  have e46_0_0 := (ag 46 0 0 ⟨by decide, by decide⟩).trans e46_0_0
  have e47_0_0 := (ag 47 0 0 ⟨by decide, by decide⟩).trans e47_0_0
  have e50_0_0 := (ag 50 0 0 ⟨by decide, by decide⟩).trans e50_0_0
  have e51_0_0 := (ag 51 0 0 ⟨by decide, by decide⟩).trans e51_0_0
  have e52_0_0 := (ag 52 0 0 ⟨by decide, by decide⟩).trans e52_0_0
  have e53_0_0 := (ag 53 0 0 ⟨by decide, by decide⟩).trans e53_0_0
  have e58_0_0 := (ag 58 0 0 ⟨by decide, by decide⟩).trans e58_0_0
  have e62_0_0 := (ag 62 0 0 ⟨by decide, by decide⟩).trans e62_0_0
  have q := q.to (U' := sU 63) (sp' := fun x => x = a) (fun _ _ _ => Iff.rfl) (fun k i j hu => by simp only [sV, sU] at hu ⊢; omega) (fun _ => Iff.rfl)
  refine mJ_aload_n hK dX6_init_166 rfl ?_
  refine mJ_bipush (v := nI 12) hK dX6_init_167 (by decide) ?_
  refine cJ_arr (atype := .int) (a0 := (12, .inl (fun _ => 0))) 0 12 64 0 0 q rfl hr (fun _ => rfl) (fun z => absurd z.2 (by decide)) hNo (Or.inl rfl) rfl (fun _ => rfl) ac_int hin hK dX6_init_169 dX6_init_171 pfX6_75 (fun _ => ⟨rfl, rfl⟩) (Nat.le_of_ble_eq_true rfl) rfl (by omega) (by decide) (by decide) (fun b64_0_0 h ad q hr hx e64_0_0 ag => ?_)
  have hr : h a = some (.inr (6, [.int 0, .int 0, .ref b32_0_0, .int 0, .ref b34_0_0, .ref b35_0_0, .ref b36_0_0, .ref b37_0_0, .ref b38_0_0, .ref b39_0_0, .ref b40_0_0, .ref b41_0_0, .int (-1), .int 0, .ref b44_0_0, .ref b45_0_0, .ref b46_0_0, .ref b47_0_0, .int 0, .int 0, .ref b50_0_0, .ref b51_0_0, .ref b52_0_0, .ref b53_0_0, .int 0, .int 0, .int 0, .int 0, .ref b58_0_0, .int 0, .int 0, .int 0, .ref b62_0_0, .ref b63_0_0, .ref b64_0_0, .null, .null, .null, .null, .int 0, .int 0, .int 0, .int 0, .null, .null, .null, .null, .null, .null, .null, .null, .null, .long 0])) := hr
  have e32_0_0 := (ag 32 0 0 ⟨by decide, by decide⟩).trans e32_0_0
  have e34_0_0 := (ag 34 0 0 ⟨by decide, by decide⟩).trans e34_0_0
  have e35_0_0 := (ag 35 0 0 ⟨by decide, by decide⟩).trans e35_0_0
  have e36_0_0 := (ag 36 0 0 ⟨by decide, by decide⟩).trans e36_0_0
  have e37_0_0 := (ag 37 0 0 ⟨by decide, by decide⟩).trans e37_0_0
  have e38_0_0 := (ag 38 0 0 ⟨by decide, by decide⟩).trans e38_0_0
  have e39_0_0 := (ag 39 0 0 ⟨by decide, by decide⟩).trans e39_0_0
  have e40_0_0 := (ag 40 0 0 ⟨by decide, by decide⟩).trans e40_0_0
  have e41_0_0 := (ag 41 0 0 ⟨by decide, by decide⟩).trans e41_0_0
  have e44_0_0 := (ag 44 0 0 ⟨by decide, by decide⟩).trans e44_0_0
  have e45_0_0 := (ag 45 0 0 ⟨by decide, by decide⟩).trans e45_0_0
  have e46_0_0 := (ag 46 0 0 ⟨by decide, by decide⟩).trans e46_0_0
  have e47_0_0 := (ag 47 0 0 ⟨by decide, by decide⟩).trans e47_0_0
  have e50_0_0 := (ag 50 0 0 ⟨by decide, by decide⟩).trans e50_0_0
  have e51_0_0 := (ag 51 0 0 ⟨by decide, by decide⟩).trans e51_0_0
  have e52_0_0 := (ag 52 0 0 ⟨by decide, by decide⟩).trans e52_0_0
  have e53_0_0 := (ag 53 0 0 ⟨by decide, by decide⟩).trans e53_0_0
  have e58_0_0 := (ag 58 0 0 ⟨by decide, by decide⟩).trans e58_0_0
  have e62_0_0 := (ag 62 0 0 ⟨by decide, by decide⟩).trans e62_0_0
  have e63_0_0 := (ag 63 0 0 ⟨by decide, by decide⟩).trans e63_0_0
  have q := q.to (U' := sU 64) (sp' := fun x => x = a) (fun _ _ _ => Iff.rfl) (fun k i j hu => by simp only [sV, sU] at hu ⊢; omega) (fun _ => Iff.rfl)
  refine mJ_aload_n hK dX6_init_174 rfl ?_
  refine mJ_bipush (v := nI 12) hK dX6_init_175 (by decide) ?_
  refine cJ_arr (atype := .int) (a0 := (12, .inl (fun _ => 0))) 0 12 65 0 0 q rfl hr (fun _ => rfl) (fun z => absurd z.2 (by decide)) hNo (Or.inl rfl) rfl (fun _ => rfl) ac_int hin hK dX6_init_177 dX6_init_179 pfX6_78 (fun _ => ⟨rfl, rfl⟩) (Nat.le_of_ble_eq_true rfl) rfl (by omega) (by decide) (by decide) (fun b65_0_0 h ad q hr hx e65_0_0 ag => ?_)
  have hr : h a = some (.inr (6, [.int 0, .int 0, .ref b32_0_0, .int 0, .ref b34_0_0, .ref b35_0_0, .ref b36_0_0, .ref b37_0_0, .ref b38_0_0, .ref b39_0_0, .ref b40_0_0, .ref b41_0_0, .int (-1), .int 0, .ref b44_0_0, .ref b45_0_0, .ref b46_0_0, .ref b47_0_0, .int 0, .int 0, .ref b50_0_0, .ref b51_0_0, .ref b52_0_0, .ref b53_0_0, .int 0, .int 0, .int 0, .int 0, .ref b58_0_0, .int 0, .int 0, .int 0, .ref b62_0_0, .ref b63_0_0, .ref b64_0_0, .ref b65_0_0, .null, .null, .null, .int 0, .int 0, .int 0, .int 0, .null, .null, .null, .null, .null, .null, .null, .null, .null, .long 0])) := hr
  have e32_0_0 := (ag 32 0 0 ⟨by decide, by decide⟩).trans e32_0_0
  have e34_0_0 := (ag 34 0 0 ⟨by decide, by decide⟩).trans e34_0_0
  have e35_0_0 := (ag 35 0 0 ⟨by decide, by decide⟩).trans e35_0_0
  have e36_0_0 := (ag 36 0 0 ⟨by decide, by decide⟩).trans e36_0_0
  have e37_0_0 := (ag 37 0 0 ⟨by decide, by decide⟩).trans e37_0_0
  have e38_0_0 := (ag 38 0 0 ⟨by decide, by decide⟩).trans e38_0_0
  have e39_0_0 := (ag 39 0 0 ⟨by decide, by decide⟩).trans e39_0_0
  have e40_0_0 := (ag 40 0 0 ⟨by decide, by decide⟩).trans e40_0_0
  have e41_0_0 := (ag 41 0 0 ⟨by decide, by decide⟩).trans e41_0_0
  have e44_0_0 := (ag 44 0 0 ⟨by decide, by decide⟩).trans e44_0_0
  have e45_0_0 := (ag 45 0 0 ⟨by decide, by decide⟩).trans e45_0_0
  have e46_0_0 := (ag 46 0 0 ⟨by decide, by decide⟩).trans e46_0_0
  have e47_0_0 := (ag 47 0 0 ⟨by decide, by decide⟩).trans e47_0_0
  have e50_0_0 := (ag 50 0 0 ⟨by decide, by decide⟩).trans e50_0_0
  have e51_0_0 := (ag 51 0 0 ⟨by decide, by decide⟩).trans e51_0_0
  have e52_0_0 := (ag 52 0 0 ⟨by decide, by decide⟩).trans e52_0_0
  have e53_0_0 := (ag 53 0 0 ⟨by decide, by decide⟩).trans e53_0_0
  have e58_0_0 := (ag 58 0 0 ⟨by decide, by decide⟩).trans e58_0_0
  have e62_0_0 := (ag 62 0 0 ⟨by decide, by decide⟩).trans e62_0_0
  have e63_0_0 := (ag 63 0 0 ⟨by decide, by decide⟩).trans e63_0_0
  have e64_0_0 := (ag 64 0 0 ⟨by decide, by decide⟩).trans e64_0_0
  have q := q.to (U' := sU 65) (sp' := fun x => x = a) (fun _ _ _ => Iff.rfl) (fun k i j hu => by simp only [sV, sU] at hu ⊢; omega) (fun _ => Iff.rfl)
  refine mJ_aload_n hK dX6_init_182 rfl ?_
  refine mJ_bipush (v := nI 8) hK dX6_init_183 (by decide) ?_
  refine cJ_arr (atype := .int) (a0 := (8, .inl (fun _ => 0))) 0 8 66 0 0 q rfl hr (fun _ => rfl) (fun z => absurd z.2 (by decide)) hNo (Or.inl rfl) rfl (fun _ => rfl) ac_int hin hK dX6_init_185 dX6_init_187 pfX6_81 (fun _ => ⟨rfl, rfl⟩) (Nat.le_of_ble_eq_true rfl) rfl (by omega) (by decide) (by decide) (fun b66_0_0 h ad q hr hx e66_0_0 ag => ?_)
  have hr : h a = some (.inr (6, [.int 0, .int 0, .ref b32_0_0, .int 0, .ref b34_0_0, .ref b35_0_0, .ref b36_0_0, .ref b37_0_0, .ref b38_0_0, .ref b39_0_0, .ref b40_0_0, .ref b41_0_0, .int (-1), .int 0, .ref b44_0_0, .ref b45_0_0, .ref b46_0_0, .ref b47_0_0, .int 0, .int 0, .ref b50_0_0, .ref b51_0_0, .ref b52_0_0, .ref b53_0_0, .int 0, .int 0, .int 0, .int 0, .ref b58_0_0, .int 0, .int 0, .int 0, .ref b62_0_0, .ref b63_0_0, .ref b64_0_0, .ref b65_0_0, .ref b66_0_0, .null, .null, .int 0, .int 0, .int 0, .int 0, .null, .null, .null, .null, .null, .null, .null, .null, .null, .long 0])) := hr
  have e32_0_0 := (ag 32 0 0 ⟨by decide, by decide⟩).trans e32_0_0
  have e34_0_0 := (ag 34 0 0 ⟨by decide, by decide⟩).trans e34_0_0
  have e35_0_0 := (ag 35 0 0 ⟨by decide, by decide⟩).trans e35_0_0
  have e36_0_0 := (ag 36 0 0 ⟨by decide, by decide⟩).trans e36_0_0
  have e37_0_0 := (ag 37 0 0 ⟨by decide, by decide⟩).trans e37_0_0
  have e38_0_0 := (ag 38 0 0 ⟨by decide, by decide⟩).trans e38_0_0
  have e39_0_0 := (ag 39 0 0 ⟨by decide, by decide⟩).trans e39_0_0
  have e40_0_0 := (ag 40 0 0 ⟨by decide, by decide⟩).trans e40_0_0
  have e41_0_0 := (ag 41 0 0 ⟨by decide, by decide⟩).trans e41_0_0
  have e44_0_0 := (ag 44 0 0 ⟨by decide, by decide⟩).trans e44_0_0
  have e45_0_0 := (ag 45 0 0 ⟨by decide, by decide⟩).trans e45_0_0
  have e46_0_0 := (ag 46 0 0 ⟨by decide, by decide⟩).trans e46_0_0
  have e47_0_0 := (ag 47 0 0 ⟨by decide, by decide⟩).trans e47_0_0
  have e50_0_0 := (ag 50 0 0 ⟨by decide, by decide⟩).trans e50_0_0
  have e51_0_0 := (ag 51 0 0 ⟨by decide, by decide⟩).trans e51_0_0
  have e52_0_0 := (ag 52 0 0 ⟨by decide, by decide⟩).trans e52_0_0
  have e53_0_0 := (ag 53 0 0 ⟨by decide, by decide⟩).trans e53_0_0
  have e58_0_0 := (ag 58 0 0 ⟨by decide, by decide⟩).trans e58_0_0
  have e62_0_0 := (ag 62 0 0 ⟨by decide, by decide⟩).trans e62_0_0
  have e63_0_0 := (ag 63 0 0 ⟨by decide, by decide⟩).trans e63_0_0
  have e64_0_0 := (ag 64 0 0 ⟨by decide, by decide⟩).trans e64_0_0
  have e65_0_0 := (ag 65 0 0 ⟨by decide, by decide⟩).trans e65_0_0
  have q := q.to (U' := sU 66) (sp' := fun x => x = a) (fun _ _ _ => Iff.rfl) (fun k i j hu => by simp only [sV, sU] at hu ⊢; omega) (fun _ => Iff.rfl)
  refine mJ_aload_n hK dX6_init_190 rfl ?_
  refine mJ_bipush (v := nI 8) hK dX6_init_191 (by decide) ?_
  refine cJ_arr (atype := .int) (a0 := (8, .inl (fun _ => 0))) 0 8 67 0 0 q rfl hr (fun _ => rfl) (fun z => absurd z.2 (by decide)) hNo (Or.inl rfl) rfl (fun _ => rfl) ac_int hin hK dX6_init_193 dX6_init_195 pfX6_84 (fun _ => ⟨rfl, rfl⟩) (Nat.le_of_ble_eq_true rfl) rfl (by omega) (by decide) (by decide) (fun b67_0_0 h ad q hr hx e67_0_0 ag => ?_)
  have hr : h a = some (.inr (6, [.int 0, .int 0, .ref b32_0_0, .int 0, .ref b34_0_0, .ref b35_0_0, .ref b36_0_0, .ref b37_0_0, .ref b38_0_0, .ref b39_0_0, .ref b40_0_0, .ref b41_0_0, .int (-1), .int 0, .ref b44_0_0, .ref b45_0_0, .ref b46_0_0, .ref b47_0_0, .int 0, .int 0, .ref b50_0_0, .ref b51_0_0, .ref b52_0_0, .ref b53_0_0, .int 0, .int 0, .int 0, .int 0, .ref b58_0_0, .int 0, .int 0, .int 0, .ref b62_0_0, .ref b63_0_0, .ref b64_0_0, .ref b65_0_0, .ref b66_0_0, .ref b67_0_0, .null, .int 0, .int 0, .int 0, .int 0, .null, .null, .null, .null, .null, .null, .null, .null, .null, .long 0])) := hr
  have e32_0_0 := (ag 32 0 0 ⟨by decide, by decide⟩).trans e32_0_0
  have e34_0_0 := (ag 34 0 0 ⟨by decide, by decide⟩).trans e34_0_0
  have e35_0_0 := (ag 35 0 0 ⟨by decide, by decide⟩).trans e35_0_0
  have e36_0_0 := (ag 36 0 0 ⟨by decide, by decide⟩).trans e36_0_0
  have e37_0_0 := (ag 37 0 0 ⟨by decide, by decide⟩).trans e37_0_0
  have e38_0_0 := (ag 38 0 0 ⟨by decide, by decide⟩).trans e38_0_0
  have e39_0_0 := (ag 39 0 0 ⟨by decide, by decide⟩).trans e39_0_0
  have e40_0_0 := (ag 40 0 0 ⟨by decide, by decide⟩).trans e40_0_0
  have e41_0_0 := (ag 41 0 0 ⟨by decide, by decide⟩).trans e41_0_0
  have e44_0_0 := (ag 44 0 0 ⟨by decide, by decide⟩).trans e44_0_0
  have e45_0_0 := (ag 45 0 0 ⟨by decide, by decide⟩).trans e45_0_0
  have e46_0_0 := (ag 46 0 0 ⟨by decide, by decide⟩).trans e46_0_0
  have e47_0_0 := (ag 47 0 0 ⟨by decide, by decide⟩).trans e47_0_0
  have e50_0_0 := (ag 50 0 0 ⟨by decide, by decide⟩).trans e50_0_0
  have e51_0_0 := (ag 51 0 0 ⟨by decide, by decide⟩).trans e51_0_0
  have e52_0_0 := (ag 52 0 0 ⟨by decide, by decide⟩).trans e52_0_0
  have e53_0_0 := (ag 53 0 0 ⟨by decide, by decide⟩).trans e53_0_0
  have e58_0_0 := (ag 58 0 0 ⟨by decide, by decide⟩).trans e58_0_0
  have e62_0_0 := (ag 62 0 0 ⟨by decide, by decide⟩).trans e62_0_0
  have e63_0_0 := (ag 63 0 0 ⟨by decide, by decide⟩).trans e63_0_0
  have e64_0_0 := (ag 64 0 0 ⟨by decide, by decide⟩).trans e64_0_0
  have e65_0_0 := (ag 65 0 0 ⟨by decide, by decide⟩).trans e65_0_0
  have e66_0_0 := (ag 66 0 0 ⟨by decide, by decide⟩).trans e66_0_0
  have q := q.to (U' := sU 67) (sp' := fun x => x = a) (fun _ _ _ => Iff.rfl) (fun k i j hu => by simp only [sV, sU] at hu ⊢; omega) (fun _ => Iff.rfl)
  refine mJ_aload_n hK dX6_init_198 rfl ?_
  refine mJ_bipush (v := nI 8) hK dX6_init_199 (by decide) ?_
  refine cJ_arr (atype := .int) (a0 := (8, .inl (fun _ => 0))) 0 8 68 0 0 q rfl hr (fun _ => rfl) (fun z => absurd z.2 (by decide)) hNo (Or.inl rfl) rfl (fun _ => rfl) ac_int hin hK dX6_init_201 dX6_init_203 pfX6_87 (fun _ => ⟨rfl, rfl⟩) (Nat.le_of_ble_eq_true rfl) rfl (by omega) (by decide) (by decide) (fun b68_0_0 h ad q hr hx e68_0_0 ag => ?_)
  have hr : h a = some (.inr (6, [.int 0, .int 0, .ref b32_0_0, .int 0, .ref b34_0_0, .ref b35_0_0, .ref b36_0_0, .ref b37_0_0, .ref b38_0_0, .ref b39_0_0, .ref b40_0_0, .ref b41_0_0, .int (-1), .int 0, .ref b44_0_0, .ref b45_0_0, .ref b46_0_0, .ref b47_0_0, .int 0, .int 0, .ref b50_0_0, .ref b51_0_0, .ref b52_0_0, .ref b53_0_0, .int 0, .int 0, .int 0, .int 0, .ref b58_0_0, .int 0, .int 0, .int 0, .ref b62_0_0, .ref b63_0_0, .ref b64_0_0, .ref b65_0_0, .ref b66_0_0, .ref b67_0_0, .ref b68_0_0, .int 0, .int 0, .int 0, .int 0, .null, .null, .null, .null, .null, .null, .null, .null, .null, .long 0])) := hr
  have e32_0_0 := (ag 32 0 0 ⟨by decide, by decide⟩).trans e32_0_0
  have e34_0_0 := (ag 34 0 0 ⟨by decide, by decide⟩).trans e34_0_0
  have e35_0_0 := (ag 35 0 0 ⟨by decide, by decide⟩).trans e35_0_0
  have e36_0_0 := (ag 36 0 0 ⟨by decide, by decide⟩).trans e36_0_0
  have e37_0_0 := (ag 37 0 0 ⟨by decide, by decide⟩).trans e37_0_0
  have e38_0_0 := (ag 38 0 0 ⟨by decide, by decide⟩).trans e38_0_0
  have e39_0_0 := (ag 39 0 0 ⟨by decide, by decide⟩).trans e39_0_0
  have e40_0_0 := (ag 40 0 0 ⟨by decide, by decide⟩).trans e40_0_0
  have e41_0_0 := (ag 41 0 0 ⟨by decide, by decide⟩).trans e41_0_0
  have e44_0_0 := (ag 44 0 0 ⟨by decide, by decide⟩).trans e44_0_0
  have e45_0_0 := (ag 45 0 0 ⟨by decide, by decide⟩).trans e45_0_0
  have e46_0_0 := (ag 46 0 0 ⟨by decide, by decide⟩).trans e46_0_0
  have e47_0_0 := (ag 47 0 0 ⟨by decide, by decide⟩).trans e47_0_0
  have e50_0_0 := (ag 50 0 0 ⟨by decide, by decide⟩).trans e50_0_0
  have e51_0_0 := (ag 51 0 0 ⟨by decide, by decide⟩).trans e51_0_0
  have e52_0_0 := (ag 52 0 0 ⟨by decide, by decide⟩).trans e52_0_0
  have e53_0_0 := (ag 53 0 0 ⟨by decide, by decide⟩).trans e53_0_0
  have e58_0_0 := (ag 58 0 0 ⟨by decide, by decide⟩).trans e58_0_0
  have e62_0_0 := (ag 62 0 0 ⟨by decide, by decide⟩).trans e62_0_0
  have e63_0_0 := (ag 63 0 0 ⟨by decide, by decide⟩).trans e63_0_0
  have e64_0_0 := (ag 64 0 0 ⟨by decide, by decide⟩).trans e64_0_0
  have e65_0_0 := (ag 65 0 0 ⟨by decide, by decide⟩).trans e65_0_0
  have e66_0_0 := (ag 66 0 0 ⟨by decide, by decide⟩).trans e66_0_0
  have e67_0_0 := (ag 67 0 0 ⟨by decide, by decide⟩).trans e67_0_0
  have q := q.to (U' := sU 68) (sp' := fun x => x = a) (fun _ _ _ => Iff.rfl) (fun k i j hu => by simp only [sV, sU] at hu ⊢; omega) (fun _ => Iff.rfl)
  refine mJ_aload_n hK dX6_init_206 rfl ?_
  refine mJ_bipush (v := nI 8) hK dX6_init_207 (by decide) ?_
  refine cJ_arr (atype := .int) (a0 := (8, .inl (fun _ => 0))) 0 8 73 0 0 q rfl hr (fun _ => rfl) (fun z => absurd z.2 (by decide)) hNo (Or.inl rfl) rfl (fun _ => rfl) ac_int hin hK dX6_init_209 dX6_init_211 pfX6_90 (fun _ => ⟨rfl, rfl⟩) (Nat.le_of_ble_eq_true rfl) rfl (by omega) (by decide) (by decide) (fun b73_0_0 h ad q hr hx e73_0_0 ag => ?_)
  have hr : h a = some (.inr (6, [.int 0, .int 0, .ref b32_0_0, .int 0, .ref b34_0_0, .ref b35_0_0, .ref b36_0_0, .ref b37_0_0, .ref b38_0_0, .ref b39_0_0, .ref b40_0_0, .ref b41_0_0, .int (-1), .int 0, .ref b44_0_0, .ref b45_0_0, .ref b46_0_0, .ref b47_0_0, .int 0, .int 0, .ref b50_0_0, .ref b51_0_0, .ref b52_0_0, .ref b53_0_0, .int 0, .int 0, .int 0, .int 0, .ref b58_0_0, .int 0, .int 0, .int 0, .ref b62_0_0, .ref b63_0_0, .ref b64_0_0, .ref b65_0_0, .ref b66_0_0, .ref b67_0_0, .ref b68_0_0, .int 0, .int 0, .int 0, .int 0, .ref b73_0_0, .null, .null, .null, .null, .null, .null, .null, .null, .long 0])) := hr
  have e32_0_0 := (ag 32 0 0 ⟨by decide, by decide⟩).trans e32_0_0
  have e34_0_0 := (ag 34 0 0 ⟨by decide, by decide⟩).trans e34_0_0
  have e35_0_0 := (ag 35 0 0 ⟨by decide, by decide⟩).trans e35_0_0
  have e36_0_0 := (ag 36 0 0 ⟨by decide, by decide⟩).trans e36_0_0
  have e37_0_0 := (ag 37 0 0 ⟨by decide, by decide⟩).trans e37_0_0
  have e38_0_0 := (ag 38 0 0 ⟨by decide, by decide⟩).trans e38_0_0
  have e39_0_0 := (ag 39 0 0 ⟨by decide, by decide⟩).trans e39_0_0
  have e40_0_0 := (ag 40 0 0 ⟨by decide, by decide⟩).trans e40_0_0
  have e41_0_0 := (ag 41 0 0 ⟨by decide, by decide⟩).trans e41_0_0
  have e44_0_0 := (ag 44 0 0 ⟨by decide, by decide⟩).trans e44_0_0
  have e45_0_0 := (ag 45 0 0 ⟨by decide, by decide⟩).trans e45_0_0
  have e46_0_0 := (ag 46 0 0 ⟨by decide, by decide⟩).trans e46_0_0
  have e47_0_0 := (ag 47 0 0 ⟨by decide, by decide⟩).trans e47_0_0
  have e50_0_0 := (ag 50 0 0 ⟨by decide, by decide⟩).trans e50_0_0
  have e51_0_0 := (ag 51 0 0 ⟨by decide, by decide⟩).trans e51_0_0
  have e52_0_0 := (ag 52 0 0 ⟨by decide, by decide⟩).trans e52_0_0
  have e53_0_0 := (ag 53 0 0 ⟨by decide, by decide⟩).trans e53_0_0
  have e58_0_0 := (ag 58 0 0 ⟨by decide, by decide⟩).trans e58_0_0
  have e62_0_0 := (ag 62 0 0 ⟨by decide, by decide⟩).trans e62_0_0
  have e63_0_0 := (ag 63 0 0 ⟨by decide, by decide⟩).trans e63_0_0
  have e64_0_0 := (ag 64 0 0 ⟨by decide, by decide⟩).trans e64_0_0
  have e65_0_0 := (ag 65 0 0 ⟨by decide, by decide⟩).trans e65_0_0
  have e66_0_0 := (ag 66 0 0 ⟨by decide, by decide⟩).trans e66_0_0
  have e67_0_0 := (ag 67 0 0 ⟨by decide, by decide⟩).trans e67_0_0
  have e68_0_0 := (ag 68 0 0 ⟨by decide, by decide⟩).trans e68_0_0
  have q := q.to (U' := sU 73) (sp' := fun x => x = a) (fun _ _ _ => Iff.rfl) (fun k i j hu => by simp only [sV, sU] at hu ⊢; omega) (fun _ => Iff.rfl)
  refine mJ_aload_n hK dX6_init_214 rfl ?_
  refine mJ_bipush (v := nI 64) hK dX6_init_215 (by decide) ?_
  refine cJ_arr (atype := .int) (a0 := (64, .inl (fun _ => 0))) 0 64 74 0 0 q rfl hr (fun _ => rfl) (fun z => absurd z.2 (by decide)) hNo (Or.inl rfl) rfl (fun _ => rfl) ac_int hin hK dX6_init_217 dX6_init_219 pfX6_93 (fun _ => ⟨rfl, rfl⟩) (Nat.le_of_ble_eq_true rfl) rfl (by omega) (by decide) (by decide) (fun b74_0_0 h ad q hr hx e74_0_0 ag => ?_)
  have hr : h a = some (.inr (6, [.int 0, .int 0, .ref b32_0_0, .int 0, .ref b34_0_0, .ref b35_0_0, .ref b36_0_0, .ref b37_0_0, .ref b38_0_0, .ref b39_0_0, .ref b40_0_0, .ref b41_0_0, .int (-1), .int 0, .ref b44_0_0, .ref b45_0_0, .ref b46_0_0, .ref b47_0_0, .int 0, .int 0, .ref b50_0_0, .ref b51_0_0, .ref b52_0_0, .ref b53_0_0, .int 0, .int 0, .int 0, .int 0, .ref b58_0_0, .int 0, .int 0, .int 0, .ref b62_0_0, .ref b63_0_0, .ref b64_0_0, .ref b65_0_0, .ref b66_0_0, .ref b67_0_0, .ref b68_0_0, .int 0, .int 0, .int 0, .int 0, .ref b73_0_0, .ref b74_0_0, .null, .null, .null, .null, .null, .null, .null, .long 0])) := hr
  have e32_0_0 := (ag 32 0 0 ⟨by decide, by decide⟩).trans e32_0_0
  have e34_0_0 := (ag 34 0 0 ⟨by decide, by decide⟩).trans e34_0_0
  have e35_0_0 := (ag 35 0 0 ⟨by decide, by decide⟩).trans e35_0_0
  have e36_0_0 := (ag 36 0 0 ⟨by decide, by decide⟩).trans e36_0_0
  have e37_0_0 := (ag 37 0 0 ⟨by decide, by decide⟩).trans e37_0_0
  have e38_0_0 := (ag 38 0 0 ⟨by decide, by decide⟩).trans e38_0_0
  have e39_0_0 := (ag 39 0 0 ⟨by decide, by decide⟩).trans e39_0_0
  have e40_0_0 := (ag 40 0 0 ⟨by decide, by decide⟩).trans e40_0_0
  have e41_0_0 := (ag 41 0 0 ⟨by decide, by decide⟩).trans e41_0_0
  have e44_0_0 := (ag 44 0 0 ⟨by decide, by decide⟩).trans e44_0_0
  have e45_0_0 := (ag 45 0 0 ⟨by decide, by decide⟩).trans e45_0_0
  have e46_0_0 := (ag 46 0 0 ⟨by decide, by decide⟩).trans e46_0_0
  have e47_0_0 := (ag 47 0 0 ⟨by decide, by decide⟩).trans e47_0_0
  have e50_0_0 := (ag 50 0 0 ⟨by decide, by decide⟩).trans e50_0_0
  have e51_0_0 := (ag 51 0 0 ⟨by decide, by decide⟩).trans e51_0_0
  have e52_0_0 := (ag 52 0 0 ⟨by decide, by decide⟩).trans e52_0_0
  have e53_0_0 := (ag 53 0 0 ⟨by decide, by decide⟩).trans e53_0_0
  have e58_0_0 := (ag 58 0 0 ⟨by decide, by decide⟩).trans e58_0_0
  have e62_0_0 := (ag 62 0 0 ⟨by decide, by decide⟩).trans e62_0_0
  have e63_0_0 := (ag 63 0 0 ⟨by decide, by decide⟩).trans e63_0_0
  have e64_0_0 := (ag 64 0 0 ⟨by decide, by decide⟩).trans e64_0_0
  have e65_0_0 := (ag 65 0 0 ⟨by decide, by decide⟩).trans e65_0_0
  have e66_0_0 := (ag 66 0 0 ⟨by decide, by decide⟩).trans e66_0_0
  have e67_0_0 := (ag 67 0 0 ⟨by decide, by decide⟩).trans e67_0_0
  have e68_0_0 := (ag 68 0 0 ⟨by decide, by decide⟩).trans e68_0_0
  have e73_0_0 := (ag 73 0 0 ⟨by decide, by decide⟩).trans e73_0_0
  have q := q.to (U' := sU 74) (sp' := fun x => x = a) (fun _ _ _ => Iff.rfl) (fun k i j hu => by simp only [sV, sU] at hu ⊢; omega) (fun _ => Iff.rfl)
  refine mJ_aload_n hK dX6_init_222 rfl ?_
  refine mJ_bipush (v := nI 64) hK dX6_init_223 (by decide) ?_
  refine cJ_arr (atype := .int) (a0 := (64, .inl (fun _ => 0))) 0 64 75 0 0 q rfl hr (fun _ => rfl) (fun z => absurd z.2 (by decide)) hNo (Or.inl rfl) rfl (fun _ => rfl) ac_int hin hK dX6_init_225 dX6_init_227 pfX6_96 (fun _ => ⟨rfl, rfl⟩) (Nat.le_of_ble_eq_true rfl) rfl (by omega) (by decide) (by decide) (fun b75_0_0 h ad q hr hx e75_0_0 ag => ?_)
  have hr : h a = some (.inr (6, [.int 0, .int 0, .ref b32_0_0, .int 0, .ref b34_0_0, .ref b35_0_0, .ref b36_0_0, .ref b37_0_0, .ref b38_0_0, .ref b39_0_0, .ref b40_0_0, .ref b41_0_0, .int (-1), .int 0, .ref b44_0_0, .ref b45_0_0, .ref b46_0_0, .ref b47_0_0, .int 0, .int 0, .ref b50_0_0, .ref b51_0_0, .ref b52_0_0, .ref b53_0_0, .int 0, .int 0, .int 0, .int 0, .ref b58_0_0, .int 0, .int 0, .int 0, .ref b62_0_0, .ref b63_0_0, .ref b64_0_0, .ref b65_0_0, .ref b66_0_0, .ref b67_0_0, .ref b68_0_0, .int 0, .int 0, .int 0, .int 0, .ref b73_0_0, .ref b74_0_0, .ref b75_0_0, .null, .null, .null, .null, .null, .null, .long 0])) := hr
  have e32_0_0 := (ag 32 0 0 ⟨by decide, by decide⟩).trans e32_0_0
  have e34_0_0 := (ag 34 0 0 ⟨by decide, by decide⟩).trans e34_0_0
  have e35_0_0 := (ag 35 0 0 ⟨by decide, by decide⟩).trans e35_0_0
  have e36_0_0 := (ag 36 0 0 ⟨by decide, by decide⟩).trans e36_0_0
  have e37_0_0 := (ag 37 0 0 ⟨by decide, by decide⟩).trans e37_0_0
  have e38_0_0 := (ag 38 0 0 ⟨by decide, by decide⟩).trans e38_0_0
  have e39_0_0 := (ag 39 0 0 ⟨by decide, by decide⟩).trans e39_0_0
  have e40_0_0 := (ag 40 0 0 ⟨by decide, by decide⟩).trans e40_0_0
  have e41_0_0 := (ag 41 0 0 ⟨by decide, by decide⟩).trans e41_0_0
  have e44_0_0 := (ag 44 0 0 ⟨by decide, by decide⟩).trans e44_0_0
  have e45_0_0 := (ag 45 0 0 ⟨by decide, by decide⟩).trans e45_0_0
  have e46_0_0 := (ag 46 0 0 ⟨by decide, by decide⟩).trans e46_0_0
  have e47_0_0 := (ag 47 0 0 ⟨by decide, by decide⟩).trans e47_0_0
  have e50_0_0 := (ag 50 0 0 ⟨by decide, by decide⟩).trans e50_0_0
  have e51_0_0 := (ag 51 0 0 ⟨by decide, by decide⟩).trans e51_0_0
  have e52_0_0 := (ag 52 0 0 ⟨by decide, by decide⟩).trans e52_0_0
  have e53_0_0 := (ag 53 0 0 ⟨by decide, by decide⟩).trans e53_0_0
  have e58_0_0 := (ag 58 0 0 ⟨by decide, by decide⟩).trans e58_0_0
  have e62_0_0 := (ag 62 0 0 ⟨by decide, by decide⟩).trans e62_0_0
  have e63_0_0 := (ag 63 0 0 ⟨by decide, by decide⟩).trans e63_0_0
  have e64_0_0 := (ag 64 0 0 ⟨by decide, by decide⟩).trans e64_0_0
  have e65_0_0 := (ag 65 0 0 ⟨by decide, by decide⟩).trans e65_0_0
  have e66_0_0 := (ag 66 0 0 ⟨by decide, by decide⟩).trans e66_0_0
  have e67_0_0 := (ag 67 0 0 ⟨by decide, by decide⟩).trans e67_0_0
  have e68_0_0 := (ag 68 0 0 ⟨by decide, by decide⟩).trans e68_0_0
  have e73_0_0 := (ag 73 0 0 ⟨by decide, by decide⟩).trans e73_0_0
  have e74_0_0 := (ag 74 0 0 ⟨by decide, by decide⟩).trans e74_0_0
  have q := q.to (U' := sU 75) (sp' := fun x => x = a) (fun _ _ _ => Iff.rfl) (fun k i j hu => by simp only [sV, sU] at hu ⊢; omega) (fun _ => Iff.rfl)
  refine mJ_aload_n hK dX6_init_230 rfl ?_
  refine mJ_bipush (v := nI 64) hK dX6_init_231 (by decide) ?_
  refine cJ_arr (atype := .int) (a0 := (64, .inl (fun _ => 0))) 0 64 76 0 0 q rfl hr (fun _ => rfl) (fun z => absurd z.2 (by decide)) hNo (Or.inl rfl) rfl (fun _ => rfl) ac_int hin hK dX6_init_233 dX6_init_235 pfX6_99 (fun _ => ⟨rfl, rfl⟩) (Nat.le_of_ble_eq_true rfl) rfl (by omega) (by decide) (by decide) (fun b76_0_0 h ad q hr hx e76_0_0 ag => ?_)
  have hr : h a = some (.inr (6, [.int 0, .int 0, .ref b32_0_0, .int 0, .ref b34_0_0, .ref b35_0_0, .ref b36_0_0, .ref b37_0_0, .ref b38_0_0, .ref b39_0_0, .ref b40_0_0, .ref b41_0_0, .int (-1), .int 0, .ref b44_0_0, .ref b45_0_0, .ref b46_0_0, .ref b47_0_0, .int 0, .int 0, .ref b50_0_0, .ref b51_0_0, .ref b52_0_0, .ref b53_0_0, .int 0, .int 0, .int 0, .int 0, .ref b58_0_0, .int 0, .int 0, .int 0, .ref b62_0_0, .ref b63_0_0, .ref b64_0_0, .ref b65_0_0, .ref b66_0_0, .ref b67_0_0, .ref b68_0_0, .int 0, .int 0, .int 0, .int 0, .ref b73_0_0, .ref b74_0_0, .ref b75_0_0, .ref b76_0_0, .null, .null, .null, .null, .null, .long 0])) := hr
  have e32_0_0 := (ag 32 0 0 ⟨by decide, by decide⟩).trans e32_0_0
  have e34_0_0 := (ag 34 0 0 ⟨by decide, by decide⟩).trans e34_0_0
  have e35_0_0 := (ag 35 0 0 ⟨by decide, by decide⟩).trans e35_0_0
  have e36_0_0 := (ag 36 0 0 ⟨by decide, by decide⟩).trans e36_0_0
  have e37_0_0 := (ag 37 0 0 ⟨by decide, by decide⟩).trans e37_0_0
  have e38_0_0 := (ag 38 0 0 ⟨by decide, by decide⟩).trans e38_0_0
  have e39_0_0 := (ag 39 0 0 ⟨by decide, by decide⟩).trans e39_0_0
  have e40_0_0 := (ag 40 0 0 ⟨by decide, by decide⟩).trans e40_0_0
  have e41_0_0 := (ag 41 0 0 ⟨by decide, by decide⟩).trans e41_0_0
  have e44_0_0 := (ag 44 0 0 ⟨by decide, by decide⟩).trans e44_0_0
  have e45_0_0 := (ag 45 0 0 ⟨by decide, by decide⟩).trans e45_0_0
  have e46_0_0 := (ag 46 0 0 ⟨by decide, by decide⟩).trans e46_0_0
  have e47_0_0 := (ag 47 0 0 ⟨by decide, by decide⟩).trans e47_0_0
  have e50_0_0 := (ag 50 0 0 ⟨by decide, by decide⟩).trans e50_0_0
  have e51_0_0 := (ag 51 0 0 ⟨by decide, by decide⟩).trans e51_0_0
  have e52_0_0 := (ag 52 0 0 ⟨by decide, by decide⟩).trans e52_0_0
  have e53_0_0 := (ag 53 0 0 ⟨by decide, by decide⟩).trans e53_0_0
  have e58_0_0 := (ag 58 0 0 ⟨by decide, by decide⟩).trans e58_0_0
  have e62_0_0 := (ag 62 0 0 ⟨by decide, by decide⟩).trans e62_0_0
  have e63_0_0 := (ag 63 0 0 ⟨by decide, by decide⟩).trans e63_0_0
  have e64_0_0 := (ag 64 0 0 ⟨by decide, by decide⟩).trans e64_0_0
  have e65_0_0 := (ag 65 0 0 ⟨by decide, by decide⟩).trans e65_0_0
  have e66_0_0 := (ag 66 0 0 ⟨by decide, by decide⟩).trans e66_0_0
  have e67_0_0 := (ag 67 0 0 ⟨by decide, by decide⟩).trans e67_0_0
  have e68_0_0 := (ag 68 0 0 ⟨by decide, by decide⟩).trans e68_0_0
  have e73_0_0 := (ag 73 0 0 ⟨by decide, by decide⟩).trans e73_0_0
  have e74_0_0 := (ag 74 0 0 ⟨by decide, by decide⟩).trans e74_0_0
  have e75_0_0 := (ag 75 0 0 ⟨by decide, by decide⟩).trans e75_0_0
  have q := q.to (U' := sU 76) (sp' := fun x => x = a) (fun _ _ _ => Iff.rfl) (fun k i j hu => by simp only [sV, sU] at hu ⊢; omega) (fun _ => Iff.rfl)
  refine mJ_aload_n hK dX6_init_238 rfl ?_
  refine mJ_bipush (v := nI 24) hK dX6_init_239 (by decide) ?_
  refine cJ_arr (atype := .int) (a0 := (24, .inl (fun _ => 0))) 0 24 77 0 0 q rfl hr (fun _ => rfl) (fun z => absurd z.2 (by decide)) hNo (Or.inl rfl) rfl (fun _ => rfl) ac_int hin hK dX6_init_241 dX6_init_243 pfX6_102 (fun _ => ⟨rfl, rfl⟩) (Nat.le_of_ble_eq_true rfl) rfl (by omega) (by decide) (by decide) (fun b77_0_0 h ad q hr hx e77_0_0 ag => ?_)
  have hr : h a = some (.inr (6, [.int 0, .int 0, .ref b32_0_0, .int 0, .ref b34_0_0, .ref b35_0_0, .ref b36_0_0, .ref b37_0_0, .ref b38_0_0, .ref b39_0_0, .ref b40_0_0, .ref b41_0_0, .int (-1), .int 0, .ref b44_0_0, .ref b45_0_0, .ref b46_0_0, .ref b47_0_0, .int 0, .int 0, .ref b50_0_0, .ref b51_0_0, .ref b52_0_0, .ref b53_0_0, .int 0, .int 0, .int 0, .int 0, .ref b58_0_0, .int 0, .int 0, .int 0, .ref b62_0_0, .ref b63_0_0, .ref b64_0_0, .ref b65_0_0, .ref b66_0_0, .ref b67_0_0, .ref b68_0_0, .int 0, .int 0, .int 0, .int 0, .ref b73_0_0, .ref b74_0_0, .ref b75_0_0, .ref b76_0_0, .ref b77_0_0, .null, .null, .null, .null, .long 0])) := hr
  have e32_0_0 := (ag 32 0 0 ⟨by decide, by decide⟩).trans e32_0_0
  have e34_0_0 := (ag 34 0 0 ⟨by decide, by decide⟩).trans e34_0_0
  have e35_0_0 := (ag 35 0 0 ⟨by decide, by decide⟩).trans e35_0_0
  have e36_0_0 := (ag 36 0 0 ⟨by decide, by decide⟩).trans e36_0_0
  have e37_0_0 := (ag 37 0 0 ⟨by decide, by decide⟩).trans e37_0_0
  have e38_0_0 := (ag 38 0 0 ⟨by decide, by decide⟩).trans e38_0_0
  have e39_0_0 := (ag 39 0 0 ⟨by decide, by decide⟩).trans e39_0_0
  have e40_0_0 := (ag 40 0 0 ⟨by decide, by decide⟩).trans e40_0_0
  have e41_0_0 := (ag 41 0 0 ⟨by decide, by decide⟩).trans e41_0_0
  have e44_0_0 := (ag 44 0 0 ⟨by decide, by decide⟩).trans e44_0_0
  have e45_0_0 := (ag 45 0 0 ⟨by decide, by decide⟩).trans e45_0_0
  have e46_0_0 := (ag 46 0 0 ⟨by decide, by decide⟩).trans e46_0_0
  have e47_0_0 := (ag 47 0 0 ⟨by decide, by decide⟩).trans e47_0_0
  have e50_0_0 := (ag 50 0 0 ⟨by decide, by decide⟩).trans e50_0_0
  have e51_0_0 := (ag 51 0 0 ⟨by decide, by decide⟩).trans e51_0_0
  have e52_0_0 := (ag 52 0 0 ⟨by decide, by decide⟩).trans e52_0_0
  have e53_0_0 := (ag 53 0 0 ⟨by decide, by decide⟩).trans e53_0_0
  have e58_0_0 := (ag 58 0 0 ⟨by decide, by decide⟩).trans e58_0_0
  have e62_0_0 := (ag 62 0 0 ⟨by decide, by decide⟩).trans e62_0_0
  have e63_0_0 := (ag 63 0 0 ⟨by decide, by decide⟩).trans e63_0_0
  have e64_0_0 := (ag 64 0 0 ⟨by decide, by decide⟩).trans e64_0_0
  have e65_0_0 := (ag 65 0 0 ⟨by decide, by decide⟩).trans e65_0_0
  have e66_0_0 := (ag 66 0 0 ⟨by decide, by decide⟩).trans e66_0_0
  have e67_0_0 := (ag 67 0 0 ⟨by decide, by decide⟩).trans e67_0_0
  have e68_0_0 := (ag 68 0 0 ⟨by decide, by decide⟩).trans e68_0_0
  have e73_0_0 := (ag 73 0 0 ⟨by decide, by decide⟩).trans e73_0_0
  have e74_0_0 := (ag 74 0 0 ⟨by decide, by decide⟩).trans e74_0_0
  have e75_0_0 := (ag 75 0 0 ⟨by decide, by decide⟩).trans e75_0_0
  have e76_0_0 := (ag 76 0 0 ⟨by decide, by decide⟩).trans e76_0_0
  have q := q.to (U' := sU 77) (sp' := fun x => x = a) (fun _ _ _ => Iff.rfl) (fun k i j hu => by simp only [sV, sU] at hu ⊢; omega) (fun _ => Iff.rfl)
  refine mJ_aload_n hK dX6_init_246 rfl ?_
  refine mJ_bipush (v := nI 24) hK dX6_init_247 (by decide) ?_
  refine cJ_arr (atype := .int) (a0 := (24, .inl (fun _ => 0))) 0 24 78 0 0 q rfl hr (fun _ => rfl) (fun z => absurd z.2 (by decide)) hNo (Or.inl rfl) rfl (fun _ => rfl) ac_int hin hK dX6_init_249 dX6_init_251 pfX6_105 (fun _ => ⟨rfl, rfl⟩) (Nat.le_of_ble_eq_true rfl) rfl (by omega) (by decide) (by decide) (fun b78_0_0 h ad q hr hx e78_0_0 ag => ?_)
  have hr : h a = some (.inr (6, [.int 0, .int 0, .ref b32_0_0, .int 0, .ref b34_0_0, .ref b35_0_0, .ref b36_0_0, .ref b37_0_0, .ref b38_0_0, .ref b39_0_0, .ref b40_0_0, .ref b41_0_0, .int (-1), .int 0, .ref b44_0_0, .ref b45_0_0, .ref b46_0_0, .ref b47_0_0, .int 0, .int 0, .ref b50_0_0, .ref b51_0_0, .ref b52_0_0, .ref b53_0_0, .int 0, .int 0, .int 0, .int 0, .ref b58_0_0, .int 0, .int 0, .int 0, .ref b62_0_0, .ref b63_0_0, .ref b64_0_0, .ref b65_0_0, .ref b66_0_0, .ref b67_0_0, .ref b68_0_0, .int 0, .int 0, .int 0, .int 0, .ref b73_0_0, .ref b74_0_0, .ref b75_0_0, .ref b76_0_0, .ref b77_0_0, .ref b78_0_0, .null, .null, .null, .long 0])) := hr
  have e32_0_0 := (ag 32 0 0 ⟨by decide, by decide⟩).trans e32_0_0
  have e34_0_0 := (ag 34 0 0 ⟨by decide, by decide⟩).trans e34_0_0
  have e35_0_0 := (ag 35 0 0 ⟨by decide, by decide⟩).trans e35_0_0
  have e36_0_0 := (ag 36 0 0 ⟨by decide, by decide⟩).trans e36_0_0
  have e37_0_0 := (ag 37 0 0 ⟨by decide, by decide⟩).trans e37_0_0
  have e38_0_0 := (ag 38 0 0 ⟨by decide, by decide⟩).trans e38_0_0
  have e39_0_0 := (ag 39 0 0 ⟨by decide, by decide⟩).trans e39_0_0
  have e40_0_0 := (ag 40 0 0 ⟨by decide, by decide⟩).trans e40_0_0
  have e41_0_0 := (ag 41 0 0 ⟨by decide, by decide⟩).trans e41_0_0
  have e44_0_0 := (ag 44 0 0 ⟨by decide, by decide⟩).trans e44_0_0
  have e45_0_0 := (ag 45 0 0 ⟨by decide, by decide⟩).trans e45_0_0
  have e46_0_0 := (ag 46 0 0 ⟨by decide, by decide⟩).trans e46_0_0
  have e47_0_0 := (ag 47 0 0 ⟨by decide, by decide⟩).trans e47_0_0
  have e50_0_0 := (ag 50 0 0 ⟨by decide, by decide⟩).trans e50_0_0
  have e51_0_0 := (ag 51 0 0 ⟨by decide, by decide⟩).trans e51_0_0
  have e52_0_0 := (ag 52 0 0 ⟨by decide, by decide⟩).trans e52_0_0
  have e53_0_0 := (ag 53 0 0 ⟨by decide, by decide⟩).trans e53_0_0
  have e58_0_0 := (ag 58 0 0 ⟨by decide, by decide⟩).trans e58_0_0
  have e62_0_0 := (ag 62 0 0 ⟨by decide, by decide⟩).trans e62_0_0
  have e63_0_0 := (ag 63 0 0 ⟨by decide, by decide⟩).trans e63_0_0
  have e64_0_0 := (ag 64 0 0 ⟨by decide, by decide⟩).trans e64_0_0
  have e65_0_0 := (ag 65 0 0 ⟨by decide, by decide⟩).trans e65_0_0
  have e66_0_0 := (ag 66 0 0 ⟨by decide, by decide⟩).trans e66_0_0
  have e67_0_0 := (ag 67 0 0 ⟨by decide, by decide⟩).trans e67_0_0
  have e68_0_0 := (ag 68 0 0 ⟨by decide, by decide⟩).trans e68_0_0
  have e73_0_0 := (ag 73 0 0 ⟨by decide, by decide⟩).trans e73_0_0
  have e74_0_0 := (ag 74 0 0 ⟨by decide, by decide⟩).trans e74_0_0
  have e75_0_0 := (ag 75 0 0 ⟨by decide, by decide⟩).trans e75_0_0
  have e76_0_0 := (ag 76 0 0 ⟨by decide, by decide⟩).trans e76_0_0
  have e77_0_0 := (ag 77 0 0 ⟨by decide, by decide⟩).trans e77_0_0
  have q := q.to (U' := sU 78) (sp' := fun x => x = a) (fun _ _ _ => Iff.rfl) (fun k i j hu => by simp only [sV, sU] at hu ⊢; omega) (fun _ => Iff.rfl)
  refine mJ_aload_n hK dX6_init_254 rfl ?_
  refine mJ_bipush (v := nI 8) hK dX6_init_255 (by decide) ?_
  refine cJ_arr (atype := .int) (a0 := (8, .inl (fun _ => 0))) 0 8 79 0 0 q rfl hr (fun _ => rfl) (fun z => absurd z.2 (by decide)) hNo (Or.inl rfl) rfl (fun _ => rfl) ac_int hin hK dX6_init_257 dX6_init_259 pfX6_108 (fun _ => ⟨rfl, rfl⟩) (Nat.le_of_ble_eq_true rfl) rfl (by omega) (by decide) (by decide) (fun b79_0_0 h ad q hr hx e79_0_0 ag => ?_)
  have hr : h a = some (.inr (6, [.int 0, .int 0, .ref b32_0_0, .int 0, .ref b34_0_0, .ref b35_0_0, .ref b36_0_0, .ref b37_0_0, .ref b38_0_0, .ref b39_0_0, .ref b40_0_0, .ref b41_0_0, .int (-1), .int 0, .ref b44_0_0, .ref b45_0_0, .ref b46_0_0, .ref b47_0_0, .int 0, .int 0, .ref b50_0_0, .ref b51_0_0, .ref b52_0_0, .ref b53_0_0, .int 0, .int 0, .int 0, .int 0, .ref b58_0_0, .int 0, .int 0, .int 0, .ref b62_0_0, .ref b63_0_0, .ref b64_0_0, .ref b65_0_0, .ref b66_0_0, .ref b67_0_0, .ref b68_0_0, .int 0, .int 0, .int 0, .int 0, .ref b73_0_0, .ref b74_0_0, .ref b75_0_0, .ref b76_0_0, .ref b77_0_0, .ref b78_0_0, .ref b79_0_0, .null, .null, .long 0])) := hr
  have e32_0_0 := (ag 32 0 0 ⟨by decide, by decide⟩).trans e32_0_0
  have e34_0_0 := (ag 34 0 0 ⟨by decide, by decide⟩).trans e34_0_0
  have e35_0_0 := (ag 35 0 0 ⟨by decide, by decide⟩).trans e35_0_0
  have e36_0_0 := (ag 36 0 0 ⟨by decide, by decide⟩).trans e36_0_0
  have e37_0_0 := (ag 37 0 0 ⟨by decide, by decide⟩).trans e37_0_0
  have e38_0_0 := (ag 38 0 0 ⟨by decide, by decide⟩).trans e38_0_0
  have e39_0_0 := (ag 39 0 0 ⟨by decide, by decide⟩).trans e39_0_0
  have e40_0_0 := (ag 40 0 0 ⟨by decide, by decide⟩).trans e40_0_0
  have e41_0_0 := (ag 41 0 0 ⟨by decide, by decide⟩).trans e41_0_0
  have e44_0_0 := (ag 44 0 0 ⟨by decide, by decide⟩).trans e44_0_0
  have e45_0_0 := (ag 45 0 0 ⟨by decide, by decide⟩).trans e45_0_0
  have e46_0_0 := (ag 46 0 0 ⟨by decide, by decide⟩).trans e46_0_0
  have e47_0_0 := (ag 47 0 0 ⟨by decide, by decide⟩).trans e47_0_0
  have e50_0_0 := (ag 50 0 0 ⟨by decide, by decide⟩).trans e50_0_0
  have e51_0_0 := (ag 51 0 0 ⟨by decide, by decide⟩).trans e51_0_0
  have e52_0_0 := (ag 52 0 0 ⟨by decide, by decide⟩).trans e52_0_0
  have e53_0_0 := (ag 53 0 0 ⟨by decide, by decide⟩).trans e53_0_0
  have e58_0_0 := (ag 58 0 0 ⟨by decide, by decide⟩).trans e58_0_0
  have e62_0_0 := (ag 62 0 0 ⟨by decide, by decide⟩).trans e62_0_0
  have e63_0_0 := (ag 63 0 0 ⟨by decide, by decide⟩).trans e63_0_0
  have e64_0_0 := (ag 64 0 0 ⟨by decide, by decide⟩).trans e64_0_0
  have e65_0_0 := (ag 65 0 0 ⟨by decide, by decide⟩).trans e65_0_0
  have e66_0_0 := (ag 66 0 0 ⟨by decide, by decide⟩).trans e66_0_0
  have e67_0_0 := (ag 67 0 0 ⟨by decide, by decide⟩).trans e67_0_0
  have e68_0_0 := (ag 68 0 0 ⟨by decide, by decide⟩).trans e68_0_0
  have e73_0_0 := (ag 73 0 0 ⟨by decide, by decide⟩).trans e73_0_0
  have e74_0_0 := (ag 74 0 0 ⟨by decide, by decide⟩).trans e74_0_0
  have e75_0_0 := (ag 75 0 0 ⟨by decide, by decide⟩).trans e75_0_0
  have e76_0_0 := (ag 76 0 0 ⟨by decide, by decide⟩).trans e76_0_0
  have e77_0_0 := (ag 77 0 0 ⟨by decide, by decide⟩).trans e77_0_0
  have e78_0_0 := (ag 78 0 0 ⟨by decide, by decide⟩).trans e78_0_0
  have q := q.to (U' := sU 79) (sp' := fun x => x = a) (fun _ _ _ => Iff.rfl) (fun k i j hu => by simp only [sV, sU] at hu ⊢; omega) (fun _ => Iff.rfl)
  refine mJ_aload_n hK dX6_init_262 rfl ?_
  refine mJ_bipush (v := nI 8) hK dX6_init_263 (by decide) ?_
  refine cJ_arr (atype := .int) (a0 := (8, .inl (fun _ => 0))) 0 8 80 0 0 q rfl hr (fun _ => rfl) (fun z => absurd z.2 (by decide)) hNo (Or.inl rfl) rfl (fun _ => rfl) ac_int hin hK dX6_init_265 dX6_init_267 pfX6_111 (fun _ => ⟨rfl, rfl⟩) (Nat.le_of_ble_eq_true rfl) rfl (by omega) (by decide) (by decide) (fun b80_0_0 h ad q hr hx e80_0_0 ag => ?_)
  have hr : h a = some (.inr (6, [.int 0, .int 0, .ref b32_0_0, .int 0, .ref b34_0_0, .ref b35_0_0, .ref b36_0_0, .ref b37_0_0, .ref b38_0_0, .ref b39_0_0, .ref b40_0_0, .ref b41_0_0, .int (-1), .int 0, .ref b44_0_0, .ref b45_0_0, .ref b46_0_0, .ref b47_0_0, .int 0, .int 0, .ref b50_0_0, .ref b51_0_0, .ref b52_0_0, .ref b53_0_0, .int 0, .int 0, .int 0, .int 0, .ref b58_0_0, .int 0, .int 0, .int 0, .ref b62_0_0, .ref b63_0_0, .ref b64_0_0, .ref b65_0_0, .ref b66_0_0, .ref b67_0_0, .ref b68_0_0, .int 0, .int 0, .int 0, .int 0, .ref b73_0_0, .ref b74_0_0, .ref b75_0_0, .ref b76_0_0, .ref b77_0_0, .ref b78_0_0, .ref b79_0_0, .ref b80_0_0, .null, .long 0])) := hr
  have e32_0_0 := (ag 32 0 0 ⟨by decide, by decide⟩).trans e32_0_0
  have e34_0_0 := (ag 34 0 0 ⟨by decide, by decide⟩).trans e34_0_0
  have e35_0_0 := (ag 35 0 0 ⟨by decide, by decide⟩).trans e35_0_0
  have e36_0_0 := (ag 36 0 0 ⟨by decide, by decide⟩).trans e36_0_0
  have e37_0_0 := (ag 37 0 0 ⟨by decide, by decide⟩).trans e37_0_0
  have e38_0_0 := (ag 38 0 0 ⟨by decide, by decide⟩).trans e38_0_0
  have e39_0_0 := (ag 39 0 0 ⟨by decide, by decide⟩).trans e39_0_0
  have e40_0_0 := (ag 40 0 0 ⟨by decide, by decide⟩).trans e40_0_0
  have e41_0_0 := (ag 41 0 0 ⟨by decide, by decide⟩).trans e41_0_0
  have e44_0_0 := (ag 44 0 0 ⟨by decide, by decide⟩).trans e44_0_0
  have e45_0_0 := (ag 45 0 0 ⟨by decide, by decide⟩).trans e45_0_0
  have e46_0_0 := (ag 46 0 0 ⟨by decide, by decide⟩).trans e46_0_0
  have e47_0_0 := (ag 47 0 0 ⟨by decide, by decide⟩).trans e47_0_0
  have e50_0_0 := (ag 50 0 0 ⟨by decide, by decide⟩).trans e50_0_0
  have e51_0_0 := (ag 51 0 0 ⟨by decide, by decide⟩).trans e51_0_0
  have e52_0_0 := (ag 52 0 0 ⟨by decide, by decide⟩).trans e52_0_0
  have e53_0_0 := (ag 53 0 0 ⟨by decide, by decide⟩).trans e53_0_0
  have e58_0_0 := (ag 58 0 0 ⟨by decide, by decide⟩).trans e58_0_0
  have e62_0_0 := (ag 62 0 0 ⟨by decide, by decide⟩).trans e62_0_0
  have e63_0_0 := (ag 63 0 0 ⟨by decide, by decide⟩).trans e63_0_0
  have e64_0_0 := (ag 64 0 0 ⟨by decide, by decide⟩).trans e64_0_0
  have e65_0_0 := (ag 65 0 0 ⟨by decide, by decide⟩).trans e65_0_0
  have e66_0_0 := (ag 66 0 0 ⟨by decide, by decide⟩).trans e66_0_0
  have e67_0_0 := (ag 67 0 0 ⟨by decide, by decide⟩).trans e67_0_0
  have e68_0_0 := (ag 68 0 0 ⟨by decide, by decide⟩).trans e68_0_0
  have e73_0_0 := (ag 73 0 0 ⟨by decide, by decide⟩).trans e73_0_0
  have e74_0_0 := (ag 74 0 0 ⟨by decide, by decide⟩).trans e74_0_0
  have e75_0_0 := (ag 75 0 0 ⟨by decide, by decide⟩).trans e75_0_0
  have e76_0_0 := (ag 76 0 0 ⟨by decide, by decide⟩).trans e76_0_0
  have e77_0_0 := (ag 77 0 0 ⟨by decide, by decide⟩).trans e77_0_0
  have e78_0_0 := (ag 78 0 0 ⟨by decide, by decide⟩).trans e78_0_0
  have e79_0_0 := (ag 79 0 0 ⟨by decide, by decide⟩).trans e79_0_0
  have q := q.to (U' := sU 80) (sp' := fun x => x = a) (fun _ _ _ => Iff.rfl) (fun k i j hu => by simp only [sV, sU] at hu ⊢; omega) (fun _ => Iff.rfl)
  refine mJ_aload_n hK dX6_init_270 rfl ?_
  refine mJ_bipush (v := nI 8) hK dX6_init_271 (by decide) ?_
  refine cJ_arr (atype := .long) (a0 := (8, .inr (.inl (fun _ => 0)))) 1 8 81 0 0 q rfl hr (fun _ => rfl) (fun z => absurd z.2 (by decide)) hNo (Or.inr (Or.inl rfl)) rfl (fun _ => rfl) ac_long hin hK dX6_init_273 dX6_init_275 pfX6_114 (fun _ => ⟨rfl, rfl⟩) (Nat.le_of_ble_eq_true rfl) rfl (by omega) (by decide) (by decide) (fun b81_0_0 h ad q hr hx e81_0_0 ag => ?_)
  have hr : h a = some (.inr (6, [.int 0, .int 0, .ref b32_0_0, .int 0, .ref b34_0_0, .ref b35_0_0, .ref b36_0_0, .ref b37_0_0, .ref b38_0_0, .ref b39_0_0, .ref b40_0_0, .ref b41_0_0, .int (-1), .int 0, .ref b44_0_0, .ref b45_0_0, .ref b46_0_0, .ref b47_0_0, .int 0, .int 0, .ref b50_0_0, .ref b51_0_0, .ref b52_0_0, .ref b53_0_0, .int 0, .int 0, .int 0, .int 0, .ref b58_0_0, .int 0, .int 0, .int 0, .ref b62_0_0, .ref b63_0_0, .ref b64_0_0, .ref b65_0_0, .ref b66_0_0, .ref b67_0_0, .ref b68_0_0, .int 0, .int 0, .int 0, .int 0, .ref b73_0_0, .ref b74_0_0, .ref b75_0_0, .ref b76_0_0, .ref b77_0_0, .ref b78_0_0, .ref b79_0_0, .ref b80_0_0, .ref b81_0_0, .long 0])) := hr
  have e32_0_0 := (ag 32 0 0 ⟨by decide, by decide⟩).trans e32_0_0
  have e34_0_0 := (ag 34 0 0 ⟨by decide, by decide⟩).trans e34_0_0
  have e35_0_0 := (ag 35 0 0 ⟨by decide, by decide⟩).trans e35_0_0
  have e36_0_0 := (ag 36 0 0 ⟨by decide, by decide⟩).trans e36_0_0
  have e37_0_0 := (ag 37 0 0 ⟨by decide, by decide⟩).trans e37_0_0
  have e38_0_0 := (ag 38 0 0 ⟨by decide, by decide⟩).trans e38_0_0
  have e39_0_0 := (ag 39 0 0 ⟨by decide, by decide⟩).trans e39_0_0
  have e40_0_0 := (ag 40 0 0 ⟨by decide, by decide⟩).trans e40_0_0
  have e41_0_0 := (ag 41 0 0 ⟨by decide, by decide⟩).trans e41_0_0
  have e44_0_0 := (ag 44 0 0 ⟨by decide, by decide⟩).trans e44_0_0
  have e45_0_0 := (ag 45 0 0 ⟨by decide, by decide⟩).trans e45_0_0
  have e46_0_0 := (ag 46 0 0 ⟨by decide, by decide⟩).trans e46_0_0
  have e47_0_0 := (ag 47 0 0 ⟨by decide, by decide⟩).trans e47_0_0
  have e50_0_0 := (ag 50 0 0 ⟨by decide, by decide⟩).trans e50_0_0
  have e51_0_0 := (ag 51 0 0 ⟨by decide, by decide⟩).trans e51_0_0
  have e52_0_0 := (ag 52 0 0 ⟨by decide, by decide⟩).trans e52_0_0
  have e53_0_0 := (ag 53 0 0 ⟨by decide, by decide⟩).trans e53_0_0
  have e58_0_0 := (ag 58 0 0 ⟨by decide, by decide⟩).trans e58_0_0
  have e62_0_0 := (ag 62 0 0 ⟨by decide, by decide⟩).trans e62_0_0
  have e63_0_0 := (ag 63 0 0 ⟨by decide, by decide⟩).trans e63_0_0
  have e64_0_0 := (ag 64 0 0 ⟨by decide, by decide⟩).trans e64_0_0
  have e65_0_0 := (ag 65 0 0 ⟨by decide, by decide⟩).trans e65_0_0
  have e66_0_0 := (ag 66 0 0 ⟨by decide, by decide⟩).trans e66_0_0
  have e67_0_0 := (ag 67 0 0 ⟨by decide, by decide⟩).trans e67_0_0
  have e68_0_0 := (ag 68 0 0 ⟨by decide, by decide⟩).trans e68_0_0
  have e73_0_0 := (ag 73 0 0 ⟨by decide, by decide⟩).trans e73_0_0
  have e74_0_0 := (ag 74 0 0 ⟨by decide, by decide⟩).trans e74_0_0
  have e75_0_0 := (ag 75 0 0 ⟨by decide, by decide⟩).trans e75_0_0
  have e76_0_0 := (ag 76 0 0 ⟨by decide, by decide⟩).trans e76_0_0
  have e77_0_0 := (ag 77 0 0 ⟨by decide, by decide⟩).trans e77_0_0
  have e78_0_0 := (ag 78 0 0 ⟨by decide, by decide⟩).trans e78_0_0
  have e79_0_0 := (ag 79 0 0 ⟨by decide, by decide⟩).trans e79_0_0
  have e80_0_0 := (ag 80 0 0 ⟨by decide, by decide⟩).trans e80_0_0
  have q := q.to (U' := sU 81) (sp' := fun x => x = a) (fun _ _ _ => Iff.rfl) (fun k i j hu => by simp only [sV, sU] at hu ⊢; omega) (fun _ => Iff.rfl)
  refine mJ_vret hK dX6_init_278 rfl hZ (by decide) (by decide) ?_
  refine ⟨rfl, fR.out (q.fin' (fun x => Iff.rfl) 30 0 0 (fun z => absurd z.1 (by decide)) (fun ad1 ad2 ha => by
    show (.inr (6, [.int 0, .int 0, .ref (ad1 32 0 0), .int 0, .ref (ad1 34 0 0), .ref (ad1 35 0 0), .ref (ad1 36 0 0), .ref (ad1 37 0 0), .ref (ad1 38 0 0), .ref (ad1 39 0 0), .ref (ad1 40 0 0), .ref (ad1 41 0 0), .int (-1), .int 0, .ref (ad1 44 0 0), .ref (ad1 45 0 0), .ref (ad1 46 0 0), .ref (ad1 47 0 0), .int 0, .int 0, .ref (ad1 50 0 0), .ref (ad1 51 0 0), .ref (ad1 52 0 0), .ref (ad1 53 0 0), .int 0, .int 0, .int 0, .int 0, .ref (ad1 58 0 0), .int 0, .int 0, .int 0, .ref (ad1 62 0 0), .ref (ad1 63 0 0), .ref (ad1 64 0 0), .ref (ad1 65 0 0), .ref (ad1 66 0 0), .ref (ad1 67 0 0), .ref (ad1 68 0 0), .int 0, .int 0, .int 0, .int 0, .ref (ad1 73 0 0), .ref (ad1 74 0 0), .ref (ad1 75 0 0), .ref (ad1 76 0 0), .ref (ad1 77 0 0), .ref (ad1 78 0 0), .ref (ad1 79 0 0), .ref (ad1 80 0 0), .ref (ad1 81 0 0), .long 0]) : mC) = .inr (6, [.int 0, .int 0, .ref (ad2 32 0 0), .int 0, .ref (ad2 34 0 0), .ref (ad2 35 0 0), .ref (ad2 36 0 0), .ref (ad2 37 0 0), .ref (ad2 38 0 0), .ref (ad2 39 0 0), .ref (ad2 40 0 0), .ref (ad2 41 0 0), .int (-1), .int 0, .ref (ad2 44 0 0), .ref (ad2 45 0 0), .ref (ad2 46 0 0), .ref (ad2 47 0 0), .int 0, .int 0, .ref (ad2 50 0 0), .ref (ad2 51 0 0), .ref (ad2 52 0 0), .ref (ad2 53 0 0), .int 0, .int 0, .int 0, .int 0, .ref (ad2 58 0 0), .int 0, .int 0, .int 0, .ref (ad2 62 0 0), .ref (ad2 63 0 0), .ref (ad2 64 0 0), .ref (ad2 65 0 0), .ref (ad2 66 0 0), .ref (ad2 67 0 0), .ref (ad2 68 0 0), .int 0, .int 0, .int 0, .int 0, .ref (ad2 73 0 0), .ref (ad2 74 0 0), .ref (ad2 75 0 0), .ref (ad2 76 0 0), .ref (ad2 77 0 0), .ref (ad2 78 0 0), .ref (ad2 79 0 0), .ref (ad2 80 0 0), .ref (ad2 81 0 0), .long 0])
    simp only [ha 32 0 0 ⟨by decide, by decide⟩, ha 34 0 0 ⟨by decide, by decide⟩, ha 35 0 0 ⟨by decide, by decide⟩, ha 36 0 0 ⟨by decide, by decide⟩, ha 37 0 0 ⟨by decide, by decide⟩, ha 38 0 0 ⟨by decide, by decide⟩, ha 39 0 0 ⟨by decide, by decide⟩, ha 40 0 0 ⟨by decide, by decide⟩, ha 41 0 0 ⟨by decide, by decide⟩, ha 44 0 0 ⟨by decide, by decide⟩, ha 45 0 0 ⟨by decide, by decide⟩, ha 46 0 0 ⟨by decide, by decide⟩, ha 47 0 0 ⟨by decide, by decide⟩, ha 50 0 0 ⟨by decide, by decide⟩, ha 51 0 0 ⟨by decide, by decide⟩, ha 52 0 0 ⟨by decide, by decide⟩, ha 53 0 0 ⟨by decide, by decide⟩, ha 58 0 0 ⟨by decide, by decide⟩, ha 62 0 0 ⟨by decide, by decide⟩, ha 63 0 0 ⟨by decide, by decide⟩, ha 64 0 0 ⟨by decide, by decide⟩, ha 65 0 0 ⟨by decide, by decide⟩, ha 66 0 0 ⟨by decide, by decide⟩, ha 67 0 0 ⟨by decide, by decide⟩, ha 68 0 0 ⟨by decide, by decide⟩, ha 73 0 0 ⟨by decide, by decide⟩, ha 74 0 0 ⟨by decide, by decide⟩, ha 75 0 0 ⟨by decide, by decide⟩, ha 76 0 0 ⟨by decide, by decide⟩, ha 77 0 0 ⟨by decide, by decide⟩, ha 78 0 0 ⟨by decide, by decide⟩, ha 79 0 0 ⟨by decide, by decide⟩, ha 80 0 0 ⟨by decide, by decide⟩, ha 81 0 0 ⟨by decide, by decide⟩]) (by
    rw [hr]
    show _ = some (.inr (6, [.int 0, .int 0, .ref (ad 32 0 0), .int 0, .ref (ad 34 0 0), .ref (ad 35 0 0), .ref (ad 36 0 0), .ref (ad 37 0 0), .ref (ad 38 0 0), .ref (ad 39 0 0), .ref (ad 40 0 0), .ref (ad 41 0 0), .int (-1), .int 0, .ref (ad 44 0 0), .ref (ad 45 0 0), .ref (ad 46 0 0), .ref (ad 47 0 0), .int 0, .int 0, .ref (ad 50 0 0), .ref (ad 51 0 0), .ref (ad 52 0 0), .ref (ad 53 0 0), .int 0, .int 0, .int 0, .int 0, .ref (ad 58 0 0), .int 0, .int 0, .int 0, .ref (ad 62 0 0), .ref (ad 63 0 0), .ref (ad 64 0 0), .ref (ad 65 0 0), .ref (ad 66 0 0), .ref (ad 67 0 0), .ref (ad 68 0 0), .int 0, .int 0, .int 0, .int 0, .ref (ad 73 0 0), .ref (ad 74 0 0), .ref (ad 75 0 0), .ref (ad 76 0 0), .ref (ad 77 0 0), .ref (ad 78 0 0), .ref (ad 79 0 0), .ref (ad 80 0 0), .ref (ad 81 0 0), .long 0]) : mC)
    simp only [e32_0_0, e34_0_0, e35_0_0, e36_0_0, e37_0_0, e38_0_0, e39_0_0, e40_0_0, e41_0_0, e44_0_0, e45_0_0, e46_0_0, e47_0_0, e50_0_0, e51_0_0, e52_0_0, e53_0_0, e58_0_0, e62_0_0, e63_0_0, e64_0_0, e65_0_0, e66_0_0, e67_0_0, e68_0_0, e73_0_0, e74_0_0, e75_0_0, e76_0_0, e77_0_0, e78_0_0, e79_0_0, e80_0_0, e81_0_0])) (fun k i j => ?_) (fun k i j hu => ?_)⟩
  · constructor
    · intro hv
      obtain ⟨v1, v2, rfl, rfl, n31, n33, n42, n43, n48, n49, n54, n55, n56, n57, n59, n60, n61, n69, n70, n71, n72⟩ := hv
      have hk : k = 30 ∨ k = 31 ∨ k = 32 ∨ k = 33 ∨ k = 34 ∨ k = 35 ∨ k = 36 ∨ k = 37 ∨ k = 38 ∨ k = 39 ∨ k = 40 ∨ k = 41 ∨ k = 42 ∨ k = 43 ∨ k = 44 ∨ k = 45 ∨ k = 46 ∨ k = 47 ∨ k = 48 ∨ k = 49 ∨ k = 50 ∨ k = 51 ∨ k = 52 ∨ k = 53 ∨ k = 54 ∨ k = 55 ∨ k = 56 ∨ k = 57 ∨ k = 58 ∨ k = 59 ∨ k = 60 ∨ k = 61 ∨ k = 62 ∨ k = 63 ∨ k = 64 ∨ k = 65 ∨ k = 66 ∨ k = 67 ∨ k = 68 ∨ k = 69 ∨ k = 70 ∨ k = 71 ∨ k = 72 ∨ k = 73 ∨ k = 74 ∨ k = 75 ∨ k = 76 ∨ k = 77 ∨ k = 78 ∨ k = 79 ∨ k = 80 ∨ k = 81 := by
        clear n31 n33 n42 n43 n48 n49 n54 n55 n56 n57 n59 n60 n61 n69 n70 n71 n72
        omega
      rcases hk with rfl | rfl | rfl | rfl | rfl | rfl | rfl | rfl | rfl | rfl | rfl | rfl | rfl | rfl | rfl | rfl | rfl | rfl | rfl | rfl | rfl | rfl | rfl | rfl | rfl | rfl | rfl | rfl | rfl | rfl | rfl | rfl | rfl | rfl | rfl | rfl | rfl | rfl | rfl | rfl | rfl | rfl | rfl | rfl | rfl | rfl | rfl | rfl | rfl | rfl | rfl | rfl
      · exact Or.inr ⟨rfl, rfl, rfl⟩
      · exact absurd rfl n31
      · exact Or.inl (Or.inl (Or.inl (Or.inl (Or.inl (Or.inl (Or.inl (Or.inl (Or.inl (Or.inl (Or.inl (Or.inl (Or.inl (Or.inl (Or.inl (Or.inl (Or.inl (Or.inl (Or.inl (Or.inl (Or.inl (Or.inl (Or.inl (Or.inl (Or.inl (Or.inl (Or.inl (Or.inl (Or.inl (Or.inl (Or.inl (Or.inl (Or.inl (Or.inl (Or.inr ⟨rfl, rfl, rfl⟩))))))))))))))))))))))))))))))))))
      · exact absurd rfl n33
      · exact Or.inl (Or.inl (Or.inl (Or.inl (Or.inl (Or.inl (Or.inl (Or.inl (Or.inl (Or.inl (Or.inl (Or.inl (Or.inl (Or.inl (Or.inl (Or.inl (Or.inl (Or.inl (Or.inl (Or.inl (Or.inl (Or.inl (Or.inl (Or.inl (Or.inl (Or.inl (Or.inl (Or.inl (Or.inl (Or.inl (Or.inl (Or.inl (Or.inl (Or.inr ⟨rfl, rfl, rfl⟩)))))))))))))))))))))))))))))))))
      · exact Or.inl (Or.inl (Or.inl (Or.inl (Or.inl (Or.inl (Or.inl (Or.inl (Or.inl (Or.inl (Or.inl (Or.inl (Or.inl (Or.inl (Or.inl (Or.inl (Or.inl (Or.inl (Or.inl (Or.inl (Or.inl (Or.inl (Or.inl (Or.inl (Or.inl (Or.inl (Or.inl (Or.inl (Or.inl (Or.inl (Or.inl (Or.inl (Or.inr ⟨rfl, rfl, rfl⟩))))))))))))))))))))))))))))))))
      · exact Or.inl (Or.inl (Or.inl (Or.inl (Or.inl (Or.inl (Or.inl (Or.inl (Or.inl (Or.inl (Or.inl (Or.inl (Or.inl (Or.inl (Or.inl (Or.inl (Or.inl (Or.inl (Or.inl (Or.inl (Or.inl (Or.inl (Or.inl (Or.inl (Or.inl (Or.inl (Or.inl (Or.inl (Or.inl (Or.inl (Or.inl (Or.inr ⟨rfl, rfl, rfl⟩)))))))))))))))))))))))))))))))
      · exact Or.inl (Or.inl (Or.inl (Or.inl (Or.inl (Or.inl (Or.inl (Or.inl (Or.inl (Or.inl (Or.inl (Or.inl (Or.inl (Or.inl (Or.inl (Or.inl (Or.inl (Or.inl (Or.inl (Or.inl (Or.inl (Or.inl (Or.inl (Or.inl (Or.inl (Or.inl (Or.inl (Or.inl (Or.inl (Or.inl (Or.inr ⟨rfl, rfl, rfl⟩))))))))))))))))))))))))))))))
      · exact Or.inl (Or.inl (Or.inl (Or.inl (Or.inl (Or.inl (Or.inl (Or.inl (Or.inl (Or.inl (Or.inl (Or.inl (Or.inl (Or.inl (Or.inl (Or.inl (Or.inl (Or.inl (Or.inl (Or.inl (Or.inl (Or.inl (Or.inl (Or.inl (Or.inl (Or.inl (Or.inl (Or.inl (Or.inl (Or.inr ⟨rfl, rfl, rfl⟩)))))))))))))))))))))))))))))
      · exact Or.inl (Or.inl (Or.inl (Or.inl (Or.inl (Or.inl (Or.inl (Or.inl (Or.inl (Or.inl (Or.inl (Or.inl (Or.inl (Or.inl (Or.inl (Or.inl (Or.inl (Or.inl (Or.inl (Or.inl (Or.inl (Or.inl (Or.inl (Or.inl (Or.inl (Or.inl (Or.inl (Or.inl (Or.inr ⟨rfl, rfl, rfl⟩))))))))))))))))))))))))))))
      · exact Or.inl (Or.inl (Or.inl (Or.inl (Or.inl (Or.inl (Or.inl (Or.inl (Or.inl (Or.inl (Or.inl (Or.inl (Or.inl (Or.inl (Or.inl (Or.inl (Or.inl (Or.inl (Or.inl (Or.inl (Or.inl (Or.inl (Or.inl (Or.inl (Or.inl (Or.inl (Or.inl (Or.inr ⟨rfl, rfl, rfl⟩)))))))))))))))))))))))))))
      · exact Or.inl (Or.inl (Or.inl (Or.inl (Or.inl (Or.inl (Or.inl (Or.inl (Or.inl (Or.inl (Or.inl (Or.inl (Or.inl (Or.inl (Or.inl (Or.inl (Or.inl (Or.inl (Or.inl (Or.inl (Or.inl (Or.inl (Or.inl (Or.inl (Or.inl (Or.inl (Or.inr ⟨rfl, rfl, rfl⟩))))))))))))))))))))))))))
      · exact absurd rfl n42
      · exact absurd rfl n43
      · exact Or.inl (Or.inl (Or.inl (Or.inl (Or.inl (Or.inl (Or.inl (Or.inl (Or.inl (Or.inl (Or.inl (Or.inl (Or.inl (Or.inl (Or.inl (Or.inl (Or.inl (Or.inl (Or.inl (Or.inl (Or.inl (Or.inl (Or.inl (Or.inl (Or.inl (Or.inr ⟨rfl, rfl, rfl⟩)))))))))))))))))))))))))
      · exact Or.inl (Or.inl (Or.inl (Or.inl (Or.inl (Or.inl (Or.inl (Or.inl (Or.inl (Or.inl (Or.inl (Or.inl (Or.inl (Or.inl (Or.inl (Or.inl (Or.inl (Or.inl (Or.inl (Or.inl (Or.inl (Or.inl (Or.inl (Or.inl (Or.inr ⟨rfl, rfl, rfl⟩))))))))))))))))))))))))
      · exact Or.inl (Or.inl (Or.inl (Or.inl (Or.inl (Or.inl (Or.inl (Or.inl (Or.inl (Or.inl (Or.inl (Or.inl (Or.inl (Or.inl (Or.inl (Or.inl (Or.inl (Or.inl (Or.inl (Or.inl (Or.inl (Or.inl (Or.inl (Or.inr ⟨rfl, rfl, rfl⟩)))))))))))))))))))))))
      · exact Or.inl (Or.inl (Or.inl (Or.inl (Or.inl (Or.inl (Or.inl (Or.inl (Or.inl (Or.inl (Or.inl (Or.inl (Or.inl (Or.inl (Or.inl (Or.inl (Or.inl (Or.inl (Or.inl (Or.inl (Or.inl (Or.inl (Or.inr ⟨rfl, rfl, rfl⟩))))))))))))))))))))))
      · exact absurd rfl n48
      · exact absurd rfl n49
      · exact Or.inl (Or.inl (Or.inl (Or.inl (Or.inl (Or.inl (Or.inl (Or.inl (Or.inl (Or.inl (Or.inl (Or.inl (Or.inl (Or.inl (Or.inl (Or.inl (Or.inl (Or.inl (Or.inl (Or.inl (Or.inl (Or.inr ⟨rfl, rfl, rfl⟩)))))))))))))))))))))
      · exact Or.inl (Or.inl (Or.inl (Or.inl (Or.inl (Or.inl (Or.inl (Or.inl (Or.inl (Or.inl (Or.inl (Or.inl (Or.inl (Or.inl (Or.inl (Or.inl (Or.inl (Or.inl (Or.inl (Or.inl (Or.inr ⟨rfl, rfl, rfl⟩))))))))))))))))))))
      · exact Or.inl (Or.inl (Or.inl (Or.inl (Or.inl (Or.inl (Or.inl (Or.inl (Or.inl (Or.inl (Or.inl (Or.inl (Or.inl (Or.inl (Or.inl (Or.inl (Or.inl (Or.inl (Or.inl (Or.inr ⟨rfl, rfl, rfl⟩)))))))))))))))))))
      · exact Or.inl (Or.inl (Or.inl (Or.inl (Or.inl (Or.inl (Or.inl (Or.inl (Or.inl (Or.inl (Or.inl (Or.inl (Or.inl (Or.inl (Or.inl (Or.inl (Or.inl (Or.inl (Or.inr ⟨rfl, rfl, rfl⟩))))))))))))))))))
      · exact absurd rfl n54
      · exact absurd rfl n55
      · exact absurd rfl n56
      · exact absurd rfl n57
      · exact Or.inl (Or.inl (Or.inl (Or.inl (Or.inl (Or.inl (Or.inl (Or.inl (Or.inl (Or.inl (Or.inl (Or.inl (Or.inl (Or.inl (Or.inl (Or.inl (Or.inl (Or.inr ⟨rfl, rfl, rfl⟩)))))))))))))))))
      · exact absurd rfl n59
      · exact absurd rfl n60
      · exact absurd rfl n61
      · exact Or.inl (Or.inl (Or.inl (Or.inl (Or.inl (Or.inl (Or.inl (Or.inl (Or.inl (Or.inl (Or.inl (Or.inl (Or.inl (Or.inl (Or.inl (Or.inl (Or.inr ⟨rfl, rfl, rfl⟩))))))))))))))))
      · exact Or.inl (Or.inl (Or.inl (Or.inl (Or.inl (Or.inl (Or.inl (Or.inl (Or.inl (Or.inl (Or.inl (Or.inl (Or.inl (Or.inl (Or.inl (Or.inr ⟨rfl, rfl, rfl⟩)))))))))))))))
      · exact Or.inl (Or.inl (Or.inl (Or.inl (Or.inl (Or.inl (Or.inl (Or.inl (Or.inl (Or.inl (Or.inl (Or.inl (Or.inl (Or.inl (Or.inr ⟨rfl, rfl, rfl⟩))))))))))))))
      · exact Or.inl (Or.inl (Or.inl (Or.inl (Or.inl (Or.inl (Or.inl (Or.inl (Or.inl (Or.inl (Or.inl (Or.inl (Or.inl (Or.inr ⟨rfl, rfl, rfl⟩)))))))))))))
      · exact Or.inl (Or.inl (Or.inl (Or.inl (Or.inl (Or.inl (Or.inl (Or.inl (Or.inl (Or.inl (Or.inl (Or.inl (Or.inr ⟨rfl, rfl, rfl⟩))))))))))))
      · exact Or.inl (Or.inl (Or.inl (Or.inl (Or.inl (Or.inl (Or.inl (Or.inl (Or.inl (Or.inl (Or.inl (Or.inr ⟨rfl, rfl, rfl⟩)))))))))))
      · exact Or.inl (Or.inl (Or.inl (Or.inl (Or.inl (Or.inl (Or.inl (Or.inl (Or.inl (Or.inl (Or.inr ⟨rfl, rfl, rfl⟩))))))))))
      · exact absurd rfl n69
      · exact absurd rfl n70
      · exact absurd rfl n71
      · exact absurd rfl n72
      · exact Or.inl (Or.inl (Or.inl (Or.inl (Or.inl (Or.inl (Or.inl (Or.inl (Or.inl (Or.inr ⟨rfl, rfl, rfl⟩)))))))))
      · exact Or.inl (Or.inl (Or.inl (Or.inl (Or.inl (Or.inl (Or.inl (Or.inl (Or.inr ⟨rfl, rfl, rfl⟩))))))))
      · exact Or.inl (Or.inl (Or.inl (Or.inl (Or.inl (Or.inl (Or.inl (Or.inr ⟨rfl, rfl, rfl⟩)))))))
      · exact Or.inl (Or.inl (Or.inl (Or.inl (Or.inl (Or.inl (Or.inr ⟨rfl, rfl, rfl⟩))))))
      · exact Or.inl (Or.inl (Or.inl (Or.inl (Or.inl (Or.inr ⟨rfl, rfl, rfl⟩)))))
      · exact Or.inl (Or.inl (Or.inl (Or.inl (Or.inr ⟨rfl, rfl, rfl⟩))))
      · exact Or.inl (Or.inl (Or.inl (Or.inr ⟨rfl, rfl, rfl⟩)))
      · exact Or.inl (Or.inl (Or.inr ⟨rfl, rfl, rfl⟩))
      · exact Or.inl (Or.inr ⟨rfl, rfl, rfl⟩)
    · intro hv
      rcases hv with ((((((((((((((((((((((((((((((((((hv | ⟨rfl, rfl, rfl⟩) | ⟨rfl, rfl, rfl⟩) | ⟨rfl, rfl, rfl⟩) | ⟨rfl, rfl, rfl⟩) | ⟨rfl, rfl, rfl⟩) | ⟨rfl, rfl, rfl⟩) | ⟨rfl, rfl, rfl⟩) | ⟨rfl, rfl, rfl⟩) | ⟨rfl, rfl, rfl⟩) | ⟨rfl, rfl, rfl⟩) | ⟨rfl, rfl, rfl⟩) | ⟨rfl, rfl, rfl⟩) | ⟨rfl, rfl, rfl⟩) | ⟨rfl, rfl, rfl⟩) | ⟨rfl, rfl, rfl⟩) | ⟨rfl, rfl, rfl⟩) | ⟨rfl, rfl, rfl⟩) | ⟨rfl, rfl, rfl⟩) | ⟨rfl, rfl, rfl⟩) | ⟨rfl, rfl, rfl⟩) | ⟨rfl, rfl, rfl⟩) | ⟨rfl, rfl, rfl⟩) | ⟨rfl, rfl, rfl⟩) | ⟨rfl, rfl, rfl⟩) | ⟨rfl, rfl, rfl⟩) | ⟨rfl, rfl, rfl⟩) | ⟨rfl, rfl, rfl⟩) | ⟨rfl, rfl, rfl⟩) | ⟨rfl, rfl, rfl⟩) | ⟨rfl, rfl, rfl⟩) | ⟨rfl, rfl, rfl⟩) | ⟨rfl, rfl, rfl⟩) | ⟨rfl, rfl, rfl⟩) | ⟨rfl, rfl, rfl⟩) | ⟨rfl, rfl, rfl⟩
      · exact hv.elim
      · unfold yV; decide
      · unfold yV; decide
      · unfold yV; decide
      · unfold yV; decide
      · unfold yV; decide
      · unfold yV; decide
      · unfold yV; decide
      · unfold yV; decide
      · unfold yV; decide
      · unfold yV; decide
      · unfold yV; decide
      · unfold yV; decide
      · unfold yV; decide
      · unfold yV; decide
      · unfold yV; decide
      · unfold yV; decide
      · unfold yV; decide
      · unfold yV; decide
      · unfold yV; decide
      · unfold yV; decide
      · unfold yV; decide
      · unfold yV; decide
      · unfold yV; decide
      · unfold yV; decide
      · unfold yV; decide
      · unfold yV; decide
      · unfold yV; decide
      · unfold yV; decide
      · unfold yV; decide
      · unfold yV; decide
      · unfold yV; decide
      · unfold yV; decide
      · unfold yV; decide
      · unfold yV; decide
      · unfold yV; decide
  · trivial

