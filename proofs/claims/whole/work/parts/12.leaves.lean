section
variable {K : mK} {μ : mM} {cells slots pc : Nat} {L : List (Option Value)} {S : List Value} {h : mH} {V : Nat → Nat → Nat → Prop} {ad : xAd} {h0 : mH} {F : xFm} {W : xWm} {pm : Nat → Nat} {k i j : Nat}
theorem xJ_getx {idx ci n N : Nat} (x : Int32) (hR : xR V ad h0 F W pm h) (hK : mCx K μ) (hd : decode μ.2.1 pc = .ok (.getfield idx, 3)) (hl : mFL μ.1.cls idx ci n) (hv : V k i j) (hc : ∀ g w, xC ad pm g w k i j = .inr (ci, (List.range N).map (xF ad pm g w k i j))) (hn : n < N) (hi : xI k n = true) (hx : F k i j n = x) (kk : mJ K cells slots (pc + 3) L (.int x :: S) h) : mJ K cells slots pc L (.ref (ad k i j) :: S) h := by
  subst hx
  exact xJ_geti hR hK hd hl hv hc hn hi kk
theorem xJ_ialdx {n : Nat} {y : Int32} (m : Nat) (x : Int32) (hR : xR V ad h0 F W pm h) (hK : mCx K μ) (hd : decode μ.2.1 pc = .ok (.iaload, 1)) (hv : V k i j) (hc : ∀ g w, xC ad pm g w k i j = .inl (0, n, .inl g)) (hy : y = nI m) (hm : m < n) (hn : n < 2 ^ 31) (hx : F k i j m = x) (kk : mJ K cells slots (pc + 1) L (.int x :: S) h) : mJ K cells slots pc L (.int y :: .ref (ad k i j) :: S) h := by
  subst hx
  exact xJ_iald m hR hK hd hv hc hy hm hn kk
theorem xL_0 {g : Nat → Int32} {w : Nat → Int64} {x : Int64} : va_up (xF ad pm g w 13 i j) 5 (.long x) = xF ad pm g (vp_updL w 0 x) 13 i j := by
  funext n
  match n with
  | 0 => rfl
  | 1 => rfl
  | 2 => rfl
  | 3 => rfl
  | 4 => rfl
  | 5 => rfl
  | n + 6 => rfl
theorem xL_6 {g : Nat → Int32} {w : Nat → Int64} {x : Int64} : va_up (xF ad pm g w 30 i j) 52 (.long x) = xF ad pm g (vp_updL w 0 x) 30 i j := by
  funext n
  by_cases e : n = 52
  · subst e
    rfl
  · have h1 : va_up (xF ad pm g w 30 i j) 52 (.long x) n = xF ad pm g w 30 i j n := by simp [va_up, e]
    rw [h1]
    match n, e with
    | 0, _ => rfl
    | 1, _ => rfl
    | 2, _ => rfl
    | 3, _ => rfl
    | 4, _ => rfl
    | 5, _ => rfl
    | 6, _ => rfl
    | 7, _ => rfl
    | 8, _ => rfl
    | 9, _ => rfl
    | 10, _ => rfl
    | 11, _ => rfl
    | 12, _ => rfl
    | 13, _ => rfl
    | 14, _ => rfl
    | 15, _ => rfl
    | 16, _ => rfl
    | 17, _ => rfl
    | 18, _ => rfl
    | 19, _ => rfl
    | 20, _ => rfl
    | 21, _ => rfl
    | 22, _ => rfl
    | 23, _ => rfl
    | 24, _ => rfl
    | 25, _ => rfl
    | 26, _ => rfl
    | 27, _ => rfl
    | 28, _ => rfl
    | 29, _ => rfl
    | 30, _ => rfl
    | 31, _ => rfl
    | 32, _ => rfl
    | 33, _ => rfl
    | 34, _ => rfl
    | 35, _ => rfl
    | 36, _ => rfl
    | 37, _ => rfl
    | 38, _ => rfl
    | 39, _ => rfl
    | 40, _ => rfl
    | 41, _ => rfl
    | 42, _ => rfl
    | 43, _ => rfl
    | 44, _ => rfl
    | 45, _ => rfl
    | 46, _ => rfl
    | 47, _ => rfl
    | 48, _ => rfl
    | 49, _ => rfl
    | 50, _ => rfl
    | 51, _ => rfl
    | 52, e => exact absurd rfl e
    | n + 53, _ => rfl
theorem xR_ext {F' : xFm} (hR : xR V ad h0 F W pm h) (e : F = F') : xR V ad h0 F' W pm h := e ▸ hR
theorem xR_ext2 {F' : xFm} {W' : xWm} (hR : xR V ad h0 F W pm h) (e : F = F') (e2 : W = W') : xR V ad h0 F' W' pm h := by
  subst e e2
  exact hR
theorem b0 {p : Prop} [Decidable p] (h : ¬ p) : nI 0 = bI p := (bI_f h).symm
theorem b1 {p : Prop} [Decidable p] (h : p) : nI 1 = bI p := (bI_t h).symm
theorem bi8 : (nI 8).toInt = 8 := by decide
theorem bi0 : (0 : Int32).toInt = 0 := by decide
end
set_option maxRecDepth 100000 in
set_option maxHeartbeats 4000000 in
theorem k_X6_within {l : Launch} {D : va_G} {aC : Nat → ClassId} {h : mH} (v a b : Int32) : mCon l D aC mX6_within [.int v, .int a, .int b] h (mRi (bI (a ≤ v ∧ v ≤ b)) (fun h' => h' = h)) := by
  refine mCon.of [some (.int v), some (.int a), some (.int b)] (by decide +kernel) rfl (Nat.le_of_ble_eq_true rfl) ?_
  intro K el eD eC hK hZ
  subst el eD eC
  refine mJ_iload_n hK dX6_within_0 rfl ?_
  refine mJ_iload_n hK dX6_within_1 rfl ?_
  refine mJ_icmp_lt (tgt := 14) hK dX6_within_2 (by decide) (fun c_2 => ?_) (fun c_2 => ?_)
  · refine mJ_iconst (v := nI 0) hK dX6_within_14 (by decide) ?_
    refine mJ_zret hK dX6_within_15 rfl (by decide) hZ (by decide) (by decide) ?_
    refine ⟨congrArg (fun z => some (Value.int z)) ?_, rfl⟩
    first | exact b0 (by simp only [Int32.le_iff_toInt_le, Int32.lt_iff_toInt_lt, bi8, bi0] at *; omega) | exact b1 (by simp only [Int32.le_iff_toInt_le, Int32.lt_iff_toInt_lt, bi8, bi0] at *; omega)
  · refine mJ_iload_n hK dX6_within_5 rfl ?_
    refine mJ_iload_n hK dX6_within_6 rfl ?_
    refine mJ_icmp_gt (tgt := 14) hK dX6_within_7 (by decide) (fun c_7 => ?_) (fun c_7 => ?_)
    · refine mJ_iconst (v := nI 0) hK dX6_within_14 (by decide) ?_
      refine mJ_zret hK dX6_within_15 rfl (by decide) hZ (by decide) (by decide) ?_
      refine ⟨congrArg (fun z => some (Value.int z)) ?_, rfl⟩
      first | exact b0 (by simp only [Int32.le_iff_toInt_le, Int32.lt_iff_toInt_lt, bi8, bi0] at *; omega) | exact b1 (by simp only [Int32.le_iff_toInt_le, Int32.lt_iff_toInt_lt, bi8, bi0] at *; omega)
    · refine mJ_iconst (v := nI 1) hK dX6_within_10 (by decide) ?_
      refine mJ_goto (tgt := 15) hK dX6_within_11 (by decide) ?_
      refine mJ_zret hK dX6_within_15 rfl (by decide) hZ (by decide) (by decide) ?_
      refine ⟨congrArg (fun z => some (Value.int z)) ?_, rfl⟩
      first | exact b0 (by simp only [Int32.le_iff_toInt_le, Int32.lt_iff_toInt_lt, bi8, bi0] at *; omega) | exact b1 (by simp only [Int32.le_iff_toInt_le, Int32.lt_iff_toInt_lt, bi8, bi0] at *; omega)

set_option maxRecDepth 100000 in
set_option maxHeartbeats 4000000 in
theorem k_X5_isChannel {l : Launch} {D : va_G} {aC : Nat → ClassId} {h : mH} (v : Int32) : mCon l D aC mX5_isChannel [.int v] h (mRi (bI (0 ≤ v ∧ v < nI 8)) (fun h' => h' = h)) := by
  refine mCon.of [some (.int v)] (by decide +kernel) rfl (Nat.le_of_ble_eq_true rfl) ?_
  intro K el eD eC hK hZ
  subst el eD eC
  refine mJ_iload_n hK dX5_isChannel_0 rfl ?_
  refine mJ_if_lt (tgt := 14) hK dX5_isChannel_1 (by decide) (fun c_1 => ?_) (fun c_1 => ?_)
  · refine mJ_iconst (v := nI 0) hK dX5_isChannel_14 (by decide) ?_
    refine mJ_zret hK dX5_isChannel_15 rfl (by decide) hZ (by decide) (by decide) ?_
    refine ⟨congrArg (fun z => some (Value.int z)) ?_, rfl⟩
    first | exact b0 (by simp only [Int32.le_iff_toInt_le, Int32.lt_iff_toInt_lt, bi8, bi0] at *; omega) | exact b1 (by simp only [Int32.le_iff_toInt_le, Int32.lt_iff_toInt_lt, bi8, bi0] at *; omega)
  · refine mJ_iload_n hK dX5_isChannel_4 rfl ?_
    refine mJ_bipush (v := nI 8) hK dX5_isChannel_5 (by decide) ?_
    refine mJ_icmp_ge (tgt := 14) hK dX5_isChannel_7 (by decide) (fun c_7 => ?_) (fun c_7 => ?_)
    · refine mJ_iconst (v := nI 0) hK dX5_isChannel_14 (by decide) ?_
      refine mJ_zret hK dX5_isChannel_15 rfl (by decide) hZ (by decide) (by decide) ?_
      refine ⟨congrArg (fun z => some (Value.int z)) ?_, rfl⟩
      first | exact b0 (by simp only [Int32.le_iff_toInt_le, Int32.lt_iff_toInt_lt, bi8, bi0] at *; omega) | exact b1 (by simp only [Int32.le_iff_toInt_le, Int32.lt_iff_toInt_lt, bi8, bi0] at *; omega)
    · refine mJ_iconst (v := nI 1) hK dX5_isChannel_10 (by decide) ?_
      refine mJ_goto (tgt := 15) hK dX5_isChannel_11 (by decide) ?_
      refine mJ_zret hK dX5_isChannel_15 rfl (by decide) hZ (by decide) (by decide) ?_
      refine ⟨congrArg (fun z => some (Value.int z)) ?_, rfl⟩
      first | exact b0 (by simp only [Int32.le_iff_toInt_le, Int32.lt_iff_toInt_lt, bi8, bi0] at *; omega) | exact b1 (by simp only [Int32.le_iff_toInt_le, Int32.lt_iff_toInt_lt, bi8, bi0] at *; omega)

set_option maxRecDepth 100000 in
set_option maxHeartbeats 4000000 in
theorem k_X5_mix {l : Launch} {D : va_G} {aC : Nat → ClassId} {h : mH} (v w : Int64) : mCon l D aC mX5_mix [.long v, .long w] h (mRl (31 * v + w) (fun h' => h' = h)) := by
  refine mCon.of [some (.long v), none, some (.long w), none] (by decide +kernel) rfl (Nat.le_of_ble_eq_true rfl) ?_
  intro K el eD eC hK hZ
  subst el eD eC
  refine mJ_ldc2 hK dX5_mix_0 cX5_319 ?_
  refine mJ_lload_n hK dX5_mix_3 rfl ?_
  refine mJ_lmul hK dX5_mix_4 ?_
  refine mJ_lload_n hK dX5_mix_5 rfl ?_
  refine mJ_ladd hK dX5_mix_6 ?_
  refine mJ_lret hK dX5_mix_7 rfl hZ (by decide) (by decide) ?_
  exact ⟨rfl, rfl⟩

def bcI (v : Int32) : Int32 :=
  let a := v - ((v.toUInt32 >>> (Int32.toUInt32 (nI 1) &&& Int32.toUInt32 31)).toInt32 &&& 1431655765)
  let b := (a &&& 858993459) + ((a.toUInt32 >>> (Int32.toUInt32 (nI 2) &&& Int32.toUInt32 31)).toInt32 &&& 858993459)
  let c := (b + (b.toUInt32 >>> (Int32.toUInt32 (nI 4) &&& Int32.toUInt32 31)).toInt32) &&& 252645135
  let d := c + (c.toUInt32 >>> (Int32.toUInt32 (nI 8) &&& Int32.toUInt32 31)).toInt32
  let e := d + (d.toUInt32 >>> (Int32.toUInt32 (nI 16) &&& Int32.toUInt32 31)).toInt32
  e &&& nI 63
set_option maxRecDepth 100000 in
set_option maxHeartbeats 4000000 in
theorem k_J6_bitCount {l : Launch} {D : va_G} {aC : Nat → ClassId} {h : mH} (v : Int32) : mCon l D aC mJ6_bitCount_0f7a4 [.int v] h (mRi (bcI v) (fun h' => h' = h)) := by
  refine mCon.of [some (.int v)] (by decide +kernel) rfl (Nat.le_of_ble_eq_true rfl) ?_
  intro K el eD eC hK hZ
  subst el eD eC
  refine mJ_iload_n hK dJ6_bitCount_0f7a4_0 rfl ?_
  refine mJ_iload_n hK dJ6_bitCount_0f7a4_1 rfl ?_
  refine mJ_iconst (v := nI 1) hK dJ6_bitCount_0f7a4_2 (by decide) ?_
  refine mJ_iushr hK dJ6_bitCount_0f7a4_3 rfl ?_
  refine mJ_ldcw hK dJ6_bitCount_0f7a4_4 cJ6_265 ?_
  refine mJ_iand hK dJ6_bitCount_0f7a4_7 ?_
  refine mJ_isub hK dJ6_bitCount_0f7a4_8 ?_
  refine mJ_istore_n hK dJ6_bitCount_0f7a4_9 (by decide) rfl ?_
  refine mJ_iload_n hK dJ6_bitCount_0f7a4_10 rfl ?_
  refine mJ_ldcw hK dJ6_bitCount_0f7a4_11 cJ6_266 ?_
  refine mJ_iand hK dJ6_bitCount_0f7a4_14 ?_
  refine mJ_iload_n hK dJ6_bitCount_0f7a4_15 rfl ?_
  refine mJ_iconst (v := nI 2) hK dJ6_bitCount_0f7a4_16 (by decide) ?_
  refine mJ_iushr hK dJ6_bitCount_0f7a4_17 rfl ?_
  refine mJ_ldcw hK dJ6_bitCount_0f7a4_18 cJ6_266 ?_
  refine mJ_iand hK dJ6_bitCount_0f7a4_21 ?_
  refine mJ_iadd hK dJ6_bitCount_0f7a4_22 ?_
  refine mJ_istore_n hK dJ6_bitCount_0f7a4_23 (by decide) rfl ?_
  refine mJ_iload_n hK dJ6_bitCount_0f7a4_24 rfl ?_
  refine mJ_iload_n hK dJ6_bitCount_0f7a4_25 rfl ?_
  refine mJ_iconst (v := nI 4) hK dJ6_bitCount_0f7a4_26 (by decide) ?_
  refine mJ_iushr hK dJ6_bitCount_0f7a4_27 rfl ?_
  refine mJ_iadd hK dJ6_bitCount_0f7a4_28 ?_
  refine mJ_ldcw hK dJ6_bitCount_0f7a4_29 cJ6_267 ?_
  refine mJ_iand hK dJ6_bitCount_0f7a4_32 ?_
  refine mJ_istore_n hK dJ6_bitCount_0f7a4_33 (by decide) rfl ?_
  refine mJ_iload_n hK dJ6_bitCount_0f7a4_34 rfl ?_
  refine mJ_iload_n hK dJ6_bitCount_0f7a4_35 rfl ?_
  refine mJ_bipush (v := nI 8) hK dJ6_bitCount_0f7a4_36 (by decide) ?_
  refine mJ_iushr hK dJ6_bitCount_0f7a4_38 rfl ?_
  refine mJ_iadd hK dJ6_bitCount_0f7a4_39 ?_
  refine mJ_istore_n hK dJ6_bitCount_0f7a4_40 (by decide) rfl ?_
  refine mJ_iload_n hK dJ6_bitCount_0f7a4_41 rfl ?_
  refine mJ_iload_n hK dJ6_bitCount_0f7a4_42 rfl ?_
  refine mJ_bipush (v := nI 16) hK dJ6_bitCount_0f7a4_43 (by decide) ?_
  refine mJ_iushr hK dJ6_bitCount_0f7a4_45 rfl ?_
  refine mJ_iadd hK dJ6_bitCount_0f7a4_46 ?_
  refine mJ_istore_n hK dJ6_bitCount_0f7a4_47 (by decide) rfl ?_
  refine mJ_iload_n hK dJ6_bitCount_0f7a4_48 rfl ?_
  refine mJ_bipush (v := nI 63) hK dJ6_bitCount_0f7a4_49 (by decide) ?_
  refine mJ_iand hK dJ6_bitCount_0f7a4_51 ?_
  refine mJ_iret hK dJ6_bitCount_0f7a4_52 rfl hZ (by decide) (by decide) ?_
  exact ⟨rfl, rfl⟩

theorem mJ_lmax {K : mK} {μ : mM} {cells slots pc : Nat} {L : List (Option Value)} {S : List Value} {h : mH} {idx : Nat} {x y : Int64} (hK : mCx K μ) (hd : decode μ.2.1 pc = .ok (.invokestatic idx, 3)) (hl : mLS μ.1.cls idx mJ9_max_f86c9 2) (hfr : 1 ≤ (mRm μ).frames) (hlo : (S.map fun v => v.category).sum + 15 ≤ (mRm μ).locals) (hc : cells ≤ (mRm μ).cells) (hs9 : slots ≤ (mRm μ).slots) (kk : mJ K cells slots (pc + 3) L (.long (if y < x then x else y) :: S) h) : mJ K cells slots pc L (.long y :: .long x :: S) h := by
  intro H locs ls hH hS hL
  have hw := hK.2.2.2.2.2.1
  have hR := hK.2.2.2.2.2.2.2.1
  exact va_mmax_long hK.1 hK.2.1 hL.1.symm hK.2.2.2.2.1 (hw _ hl.1.1) (hw _ hl.2) (hw _ hl.1.2.1) (hw _ hl.1.2.2.1) (by rw [hR]; exact hfr) (by rw [hR]; exact hlo) (by rw [hR]; exact hc) (by rw [hR]; exact hs9) hd (kk H locs ls hH hS hL)
theorem mJ_lmin {K : mK} {μ : mM} {cells slots pc : Nat} {L : List (Option Value)} {S : List Value} {h : mH} {idx : Nat} {x y : Int64} (hK : mCx K μ) (hd : decode μ.2.1 pc = .ok (.invokestatic idx, 3)) (hl : mLS μ.1.cls idx mJ9_min_f86c9 2) (hfr : 1 ≤ (mRm μ).frames) (hlo : (S.map fun v => v.category).sum + 15 ≤ (mRm μ).locals) (hc : cells ≤ (mRm μ).cells) (hs9 : slots ≤ (mRm μ).slots) (kk : mJ K cells slots (pc + 3) L (.long (if y < x then y else x) :: S) h) : mJ K cells slots pc L (.long y :: .long x :: S) h := by
  intro H locs ls hH hS hL
  have hw := hK.2.2.2.2.2.1
  have hR := hK.2.2.2.2.2.2.2.1
  exact va_mmin_long hK.1 hK.2.1 hL.1.symm hK.2.2.2.2.1 (hw _ hl.1.1) (hw _ hl.2) (hw _ hl.1.2.1) (hw _ hl.1.2.2.1) (by rw [hR]; exact hfr) (by rw [hR]; exact hlo) (by rw [hR]; exact hc) (by rw [hR]; exact hs9) hd (kk H locs ls hH hS hL)