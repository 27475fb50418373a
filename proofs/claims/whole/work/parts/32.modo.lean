def vlM (F : xFm) (a i : Nat) : Int32 := if a < 8 then F 45 0 0 (8 * a + i) else nI (a - 8)
abbrev ghM (s x y : Int32) : Prop := (s = nI 60 ∧ x < y) ∨ (¬ s = nI 60 ∧ s = nI 61 ∧ x = y) ∨ (¬ s = nI 60 ∧ ¬ s = nI 61 ∧ y < x)
abbrev gdM (F : xFm) (r a b : Nat) (cn : Nat → Nat) : Prop := F 35 0 0 (3 * r + 1) = 0 ∨ ghM (F 35 0 0 (3 * r + 1)) (vlM F a (cn a)) (vlM F b (cn b))
theorem lgc_ge {x y : Int32} : 0 ≤ lg_cmp x.toInt64 y.toInt64 ↔ ¬ x < y := by
  rw [← wl_lt, Int64.not_lt]
  unfold lg_cmp
  split
  · rename_i h
    exact ⟨fun _ => Int64.le_of_lt h, fun _ => by decide⟩
  · split
    · rename_i h
      exact ⟨fun _ => by rw [h]; exact Int64.le_refl _, fun _ => by decide⟩
    · rename_i h1 h2
      exact ⟨fun z => absurd z (by decide), fun z => absurd (Int64.lt_of_le_of_ne z (fun e => h2 e.symm)) h1⟩
theorem lgc_eq {x y : Int32} : lg_cmp x.toInt64 y.toInt64 = 0 ↔ x = y := by
  refine Iff.trans ?_ wl_eq
  unfold lg_cmp
  split
  · rename_i h
    exact ⟨fun z => absurd z (by decide), fun z => by rw [z] at h; exact (Int64.lt_irrefl h).elim⟩
  · split
    · rename_i h
      exact ⟨fun _ => h, fun _ => rfl⟩
    · rename_i h1 h2
      exact ⟨fun z => absurd z (by decide), fun z => absurd z h2⟩
theorem lgc_le {x y : Int32} : lg_cmp x.toInt64 y.toInt64 ≤ 0 ↔ ¬ y < x := by
  rw [← wl_lt]
  unfold lg_cmp
  split
  · rename_i h
    exact ⟨fun z => absurd z (by decide), fun z => absurd h z⟩
  · rename_i h1
    refine ⟨fun _ => h1, fun _ => ?_⟩
    split <;> decide
theorem gdN {F : xFm} {r a b : Nat} {cn : Nat → Nat} (h0 : ¬ F 35 0 0 (3 * r + 1) = 0) (h : ¬ ghM (F 35 0 0 (3 * r + 1)) (vlM F a (cn a)) (vlM F b (cn b))) : ¬ gdM F r a b cn := fun z => z.elim h0 h
theorem ghN1 {s x y : Int32} (h1 : s = nI 60) (h2 : ¬ x < y) : ¬ ghM s x y := by
  rintro (z | z | z)
  · exact h2 z.2
  · exact z.1 h1
  · exact z.1 h1
theorem ghN2 {s x y : Int32} (h1 : ¬ s = nI 60) (h2 : s = nI 61) (h3 : ¬ x = y) : ¬ ghM s x y := by
  rintro (z | z | z)
  · exact h1 z.1
  · exact h3 z.2.2
  · exact z.2.1 h2
theorem ghN3 {s x y : Int32} (h1 : ¬ s = nI 60) (h2 : ¬ s = nI 61) (h3 : ¬ y < x) : ¬ ghM s x y := by
  rintro (z | z | z)
  · exact h1 z.1
  · exact h2 z.2.1
  · exact h3 z.2.2
def vq (w cn : Nat → Nat) : Nat → Nat
  | 0 => 0
  | c + 1 => vq w cn c * w c + cn c
def pq (w : Nat → Nat) : Nat → Nat
  | 0 => 1
  | c + 1 => pq w c * w c
theorem vq_lt {w cn : Nat → Nat} : ∀ {e : Nat}, (∀ c, c < e → cn c < w c) → vq w cn e < pq w e
  | 0, _ => by unfold vq pq; omega
  | e + 1, h => by
    have ih := vq_lt (w := w) (cn := cn) (e := e) (fun c hc => h c (by omega))
    have h1 := h e (by omega)
    have h2 : (vq w cn e + 1) * w e ≤ pq w e * w e := Nat.mul_le_mul_right _ ih
    rw [Nat.add_mul, Nat.one_mul] at h2
    unfold vq pq
    omega
theorem vq_cong {w a b : Nat → Nat} : ∀ {e : Nat}, (∀ c, c < e → a c = b c) → vq w a e = vq w b e
  | 0, _ => rfl
  | e + 1, h => by
    unfold vq
    rw [vq_cong (e := e) (fun c hc => h c (by omega)), h e (by omega)]
theorem vq_inj {w a b : Nat → Nat} : ∀ {e : Nat}, (∀ c, c < e → a c < w c) → (∀ c, c < e → b c < w c) → vq w a e = vq w b e → ∀ c, c < e → a c = b c
  | 0, _, _, _ => fun c hc => absurd hc (by omega)
  | e + 1, ha, hb, h => by
    unfold vq at h
    have h1 := ha e (by omega)
    have h2 := hb e (by omega)
    have e1 : a e = b e := by
      have := congrArg (· % w e) h
      simp only [Nat.mul_add_mod', Nat.mod_eq_of_lt h1, Nat.mod_eq_of_lt h2] at this
      exact this
    have e2 : vq w a e = vq w b e := by
      have h3 : vq w a e * w e = vq w b e * w e := by omega
      exact Nat.eq_of_mul_eq_mul_right (by omega) h3
    intro c hc
    by_cases hce : c = e
    · rw [hce]
      exact e1
    · exact vq_inj (fun c hc => ha c (by omega)) (fun c hc => hb c (by omega)) e2 c (by omega)
def goW (w : Nat → Nat) : Nat → (Nat → Nat) → Option (Nat → Nat)
  | 0, _ => none
  | c + 1, cn => if cn c + 1 < w c then some (va_up cn c (cn c + 1)) else goW w c (va_up cn c 0)
theorem va_up_s {α : Type} {f : Nat → α} {n : Nat} {v : α} : va_up f n v n = v := by simp [va_up]
theorem va_up_n {α : Type} {f : Nat → α} {n m : Nat} {v : α} (h : m ≠ n) : va_up f n v m = f m := by simp [va_up, h]
theorem va_up_id {α : Type} {f : Nat → α} {n : Nat} {v : α} (h : f n = v) : va_up f n v = f := by
  funext m
  by_cases e : m = n
  · rw [e, va_up_s, h]
  · exact va_up_n e
theorem goW_some {w : Nat → Nat} : ∀ {e : Nat} {cn cn' : Nat → Nat}, (∀ c, c < e → cn c < w c) → goW w e cn = some cn' → vq w cn' e = vq w cn e + 1 ∧ (∀ c, c < e → cn' c < w c) ∧ ∀ c, e ≤ c → cn' c = cn c
  | 0, _, _, _, h => by cases h
  | e + 1, cn, cn', hv, h => by
    unfold goW at h
    have h1 := hv e (by omega)
    split at h
    · rename_i hlt
      cases h
      refine ⟨?_, ?_, ?_⟩
      · unfold vq
        rw [va_up_s, vq_cong (b := cn) (fun c hc => va_up_n (by omega))]
        omega
      · intro c hc
        by_cases hce : c = e
        · rw [hce, va_up_s]
          exact hlt
        · rw [va_up_n hce]
          exact hv c hc
      · intro c hc
        exact va_up_n (by omega)
    · rename_i hlt
      obtain ⟨i1, i2, i3⟩ := goW_some (fun c hc => by rw [va_up_n (by omega)]; exact hv c (by omega)) h
      have e0 : cn' e = 0 := by rw [i3 e (by omega), va_up_s]
      have e1 : vq w cn' e = vq w cn e + 1 := by rw [i1, vq_cong (b := cn) (fun c hc => va_up_n (by omega))]
      refine ⟨?_, ?_, ?_⟩
      · unfold vq
        rw [e0, e1, Nat.add_mul, Nat.one_mul]
        omega
      · intro c hc
        by_cases hce : c = e
        · rw [hce, e0]
          omega
        · exact i2 c (by omega)
      · intro c hc
        rw [i3 c (by omega), va_up_n (by omega)]
theorem goW_none {w : Nat → Nat} : ∀ {e : Nat} {cn : Nat → Nat}, (∀ c, c < e → cn c < w c) → goW w e cn = none → vq w cn e + 1 = pq w e
  | 0, _, _, _ => rfl
  | e + 1, cn, hv, h => by
    unfold goW at h
    have h1 := hv e (by omega)
    split at h
    · cases h
    · have ih := goW_none (fun c hc => by rw [va_up_n (by omega)]; exact hv c (by omega)) h
      rw [vq_cong (b := cn) (fun c hc => va_up_n (by omega))] at ih
      unfold vq pq
      rw [← ih, Nat.add_mul, Nat.one_mul]
      omega
theorem goW_skip {w cn : Nat → Nat} {e : Nat} (h1 : w e = 1) (h : cn e < w e) : goW w (e + 1) cn = goW w e cn := by
  rw [goW, if_neg (by omega), va_up_id (by omega)]
theorem goW_t {w cn : Nat → Nat} {e : Nat} (h : cn e + 1 < w e) : goW w (e + 1) cn = some (va_up cn e (cn e + 1)) := by rw [goW, if_pos h]
theorem goW_f {w cn : Nat → Nat} {e : Nat} (h : ¬ cn e + 1 < w e) : goW w (e + 1) cn = goW w e (va_up cn e 0) := by rw [goW, if_neg h]
/-- the least choice, or that there is none -/
def isMt (w : Nat → Nat) (g : (Nat → Nat) → Prop) (rd : Prop) : Option (Nat → Nat) → Prop
  | some cn => rd ∧ (∀ c, c < 8 → cn c < w c) ∧ g cn ∧ ∀ cn', (∀ c, c < 8 → cn' c < w c) → vq w cn' 8 < vq w cn 8 → ¬ g cn'
  | none => rd → ∀ cn', (∀ c, c < 8 → cn' c < w c) → ¬ g cn'
def wR (F : xFm) (q : Nat → Nat) (r : Nat) : Nat → Nat := fun c => if usP (F 34 0 0 r) (nI c) then q c else 1
theorem wR_le {F : xFm} {q : Nat → Nat} {r c : Nat} (h : q c ≤ 8) : wR F q r c ≤ 8 := by
  unfold wR
  split <;> omega
theorem wR_t {F : xFm} {q : Nat → Nat} {r c : Nat} (h : usP (F 34 0 0 r) (nI c)) : wR F q r c = q c := if_pos h
theorem wR_f {F : xFm} {q : Nat → Nat} {r c : Nat} (h : ¬ usP (F 34 0 0 r) (nI c)) : wR F q r c = 1 := if_neg h
theorem rdy_of {p : Int32} {q : Nat → Nat} (h : p &&& wtM q = p) {c : Nat} (hc : c < 8) (hu : usP p (nI c)) : 0 < q c := by
  have h1 := (bitU (by omega)).mp hu
  have h2 := congrArg (fun z : Int32 => z.toBitVec.getLsbD c) h
  simp only [Int32.toBitVec_and, BitVec.getLsbD_and, h1, Bool.true_and] at h2
  rw [bmk_bit (by omega) (by omega)] at h2
  simp [hc] at h2
  exact h2
set_option maxRecDepth 100000 in
set_option maxHeartbeats 4000000 in
theorem k_X6_operand {l : Launch} {D : va_G} {aC : Nat → ClassId} {ad : xAd} {h0 h : mH} {F : xFm} {W : xWm} {pm : Nat → Nat} (hR : xR yV ad h0 F W pm h) {a : Nat} (ha : a < 18) {cn : Nat → Nat} (hch : ∀ c, c < 8 → F 66 0 0 c = nI (cn c) ∧ cn c < 8) : mCon l D aC mX6_operand [.ref (ad 30 0 0), .int (nI a)] h (mRl (vlM F a (cn a)).toInt64 (fun h' => h' = h)) := by
  refine mCon.of [some (.ref (ad 30 0 0)), some (.int (nI a))] (by decide +kernel) rfl (Nat.le_of_ble_eq_true rfl) ?_
  intro K el eD eC hK hZ
  subst el eD eC
  refine mJ_iload_n hK dX6_operand_0 rfl ?_
  refine mJ_bipush (v := nI 8) hK dX6_operand_1 (by decide) ?_
  refine mJ_nge (tgt := 26) hK dX6_operand_3 (by decide) (by omega) (by omega) (fun c_3 => ?_) (fun c_3 => ?_)
  · refine mJ_iload_n hK dX6_operand_26 rfl ?_
    refine mJ_bipush (v := nI 8) hK dX6_operand_27 (by decide) ?_
    refine mJ_isubN hK dX6_operand_29 (by omega) ?_
    refine mJ_i2l hK dX6_operand_30 ?_
    refine mJ_lret hK dX6_operand_31 rfl hZ (by decide) (by decide) ?_
    first | (rw [vlM, if_pos (by omega)]; exact ⟨rfl, rfl⟩) | (rw [vlM, if_neg (by omega)]; exact ⟨rfl, rfl⟩)
  · have hcn9 := (hch a (by omega)).2
    refine mJ_aload_n hK dX6_operand_6 rfl ?_
    refine xJ_getr hR hK dX6_operand_7 fX6_44 (by unfold yV; omega) (fun _ _ => rfl) (by decide) (fun _ _ => rfl) ?_
    refine mJ_bipush (v := nI 8) hK dX6_operand_10 (by decide) ?_
    refine mJ_iload_n hK dX6_operand_12 rfl ?_
    refine mJ_imulN hK dX6_operand_13 ?_
    refine mJ_aload_n hK dX6_operand_14 rfl ?_
    refine xJ_getr hR hK dX6_operand_15 fX6_81 (by unfold yV; omega) (fun _ _ => rfl) (by decide) (fun _ _ => rfl) ?_
    refine mJ_iload_n hK dX6_operand_18 rfl ?_
    refine xJ_ialdx a (nI (cn a)) hR hK dX6_operand_19 (by unfold yV; omega) (fun _ _ => rfl) rfl (by omega) (by decide) ((hch a (by omega)).1) ?_
    refine mJ_iaddN hK dX6_operand_20 ?_
    refine xJ_iald ((8 * a) + (cn a)) hR hK dX6_operand_21 (by unfold yV; omega) (fun _ _ => rfl) rfl (by omega) (by decide) ?_
    refine mJ_i2l hK dX6_operand_22 ?_
    refine mJ_goto (tgt := 31) hK dX6_operand_23 (by decide) ?_
    refine mJ_lret hK dX6_operand_31 rfl hZ (by decide) (by decide) ?_
    first | (rw [vlM, if_pos (by omega)]; exact ⟨rfl, rfl⟩) | (rw [vlM, if_neg (by omega)]; exact ⟨rfl, rfl⟩)

set_option maxRecDepth 100000 in
set_option maxHeartbeats 4000000 in
theorem k_X6_isGuarded {l : Launch} {D : va_G} {aC : Nat → ClassId} {ad : xAd} {h0 h : mH} {F : xFm} {W : xWm} {pm : Nat → Nat} (hR : xR yV ad h0 F W pm h) {r : Nat} (hr : r < 8) {a b : Nat} (hgd : ¬ F 35 0 0 (3 * r + 1) = 0 → F 35 0 0 (3 * r) = nI a ∧ a < 18 ∧ F 35 0 0 (3 * r + 2) = nI b ∧ b < 18) {cn : Nat → Nat} (hch : ∀ c, c < 8 → F 66 0 0 c = nI (cn c) ∧ cn c < 8) : mCon l D aC mX6_isGuarded [.ref (ad 30 0 0), .int (nI r)] h (mRi (bI (gdM F r a b cn)) (fun h' => h' = h)) := by
  refine mCon.of [some (.ref (ad 30 0 0)), some (.int (nI r)), none, none, none, none, none] (by decide +kernel) rfl (Nat.le_of_ble_eq_true rfl) ?_
  intro K el eD eC hK hZ
  subst el eD eC
  refine mJ_aload_n hK dX6_isGuarded_0 rfl ?_
  refine xJ_getr hR hK dX6_isGuarded_1 fX6_16 (by unfold yV; omega) (fun _ _ => rfl) (by decide) (fun _ _ => rfl) ?_
  refine mJ_iconst (v := nI 3) hK dX6_isGuarded_4 (by decide) ?_
  refine mJ_iload_n hK dX6_isGuarded_5 rfl ?_
  refine mJ_imulN hK dX6_isGuarded_6 ?_
  refine mJ_iconst (v := nI 1) hK dX6_isGuarded_7 (by decide) ?_
  refine mJ_iaddN hK dX6_isGuarded_8 ?_
  refine xJ_iald ((3 * r) + 1) hR hK dX6_isGuarded_9 (by unfold yV; omega) (fun _ _ => rfl) rfl (by omega) (by decide) ?_
  refine mJ_istore_n hK dX6_isGuarded_10 (by decide) rfl ?_
  refine mJ_iload_n hK dX6_isGuarded_11 rfl ?_
  refine mJ_if_ne (tgt := 17) hK dX6_isGuarded_12 (by decide) (fun c_12 => ?_) (fun c_12 => ?_)
  · refine mJ_aload_n hK dX6_isGuarded_17 rfl ?_
    refine mJ_aload_n hK dX6_isGuarded_18 rfl ?_
    refine xJ_getr hR hK dX6_isGuarded_19 fX6_16 (by unfold yV; omega) (fun _ _ => rfl) (by decide) (fun _ _ => rfl) ?_
    refine mJ_iconst (v := nI 3) hK dX6_isGuarded_22 (by decide) ?_
    refine mJ_iload_n hK dX6_isGuarded_23 rfl ?_
    refine mJ_imulN hK dX6_isGuarded_24 ?_
    refine xJ_ialdx (3 * r) (nI a) hR hK dX6_isGuarded_25 (by unfold yV; omega) (fun _ _ => rfl) rfl (by omega) (by decide) ((hgd c_12).1) ?_
    refine mJ_cVl hK dX6_isGuarded_26 lX6_223 (by unfold mFit; decide) (by decide) (k_X6_operand hR (a := a) (hgd c_12).2.1 hch) rfl rfl (Nat.le_of_ble_eq_true rfl) (hR.1 _ _ _ (by unfold yV; omega)) ⟨_, _, rfl⟩ (fun h e9 => ?_)
    subst e9
    refine mJ_lstore_n hK dX6_isGuarded_29 (by decide) rfl ?_
    refine mJ_aload_n hK dX6_isGuarded_30 rfl ?_
    refine mJ_aload_n hK dX6_isGuarded_31 rfl ?_
    refine xJ_getr hR hK dX6_isGuarded_32 fX6_16 (by unfold yV; omega) (fun _ _ => rfl) (by decide) (fun _ _ => rfl) ?_
    refine mJ_iconst (v := nI 3) hK dX6_isGuarded_35 (by decide) ?_
    refine mJ_iload_n hK dX6_isGuarded_36 rfl ?_
    refine mJ_imulN hK dX6_isGuarded_37 ?_
    refine mJ_iconst (v := nI 2) hK dX6_isGuarded_38 (by decide) ?_
    refine mJ_iaddN hK dX6_isGuarded_39 ?_
    refine xJ_ialdx ((3 * r) + 2) (nI b) hR hK dX6_isGuarded_40 (by unfold yV; omega) (fun _ _ => rfl) rfl (by omega) (by decide) ((hgd c_12).2.2.1) ?_
    refine mJ_cVl hK dX6_isGuarded_41 lX6_223 (by unfold mFit; decide) (by decide) (k_X6_operand hR (a := b) (hgd c_12).2.2.2 hch) rfl rfl (Nat.le_of_ble_eq_true rfl) (hR.1 _ _ _ (by unfold yV; omega)) ⟨_, _, rfl⟩ (fun h e9 => ?_)
    subst e9
    refine mJ_lstore hK dX6_isGuarded_44 (by decide) rfl ?_
    refine mJ_iload_n hK dX6_isGuarded_46 rfl ?_
    refine mJ_bipush (v := nI 60) hK dX6_isGuarded_47 (by decide) ?_
    refine mJ_icmp_ne (tgt := 67) hK dX6_isGuarded_49 (by decide) (fun c_49 => ?_) (fun c_49 => ?_)
    · refine mJ_iload_n hK dX6_isGuarded_67 rfl ?_
      refine mJ_bipush (v := nI 61) hK dX6_isGuarded_68 (by decide) ?_
      refine mJ_icmp_ne (tgt := 88) hK dX6_isGuarded_70 (by decide) (fun c_70 => ?_) (fun c_70 => ?_)
      · refine mJ_lload_n hK dX6_isGuarded_88 rfl ?_
        refine mJ_lload hK dX6_isGuarded_89 rfl ?_
        refine mJ_lcmp hK dX6_isGuarded_91 ?_
        refine mJ_if_le (tgt := 99) hK dX6_isGuarded_92 (by decide) (fun c_92 => ?_) (fun c_92 => ?_)
        · refine mJ_iconst (v := nI 0) hK dX6_isGuarded_99 (by decide) ?_
          refine mJ_zret hK dX6_isGuarded_100 rfl (by decide) hZ (by decide) (by decide) ?_
          refine ⟨congrArg (fun z => some (Value.int z)) ?_, rfl⟩
          first | exact b1 (Or.inl c_12) | exact b1 (Or.inr (Or.inl ⟨c_49, Decidable.not_not.mp (fun z => c_56 (lgc_ge.mpr z))⟩)) | exact b0 (gdN c_12 (ghN1 c_49 (lgc_ge.mp c_56))) | exact b1 (Or.inr (Or.inr (Or.inl ⟨c_49, c_70, lgc_eq.mp c_77⟩))) | exact b0 (gdN c_12 (ghN2 c_49 c_70 (fun z => c_77 (lgc_eq.mpr z)))) | exact b1 (Or.inr (Or.inr (Or.inr ⟨c_49, c_70, Decidable.not_not.mp (fun z => c_92 (lgc_le.mpr z))⟩))) | exact b0 (gdN c_12 (ghN3 c_49 c_70 (lgc_le.mp c_92)))
        · refine mJ_iconst (v := nI 1) hK dX6_isGuarded_95 (by decide) ?_
          refine mJ_goto (tgt := 100) hK dX6_isGuarded_96 (by decide) ?_
          refine mJ_zret hK dX6_isGuarded_100 rfl (by decide) hZ (by decide) (by decide) ?_
          refine ⟨congrArg (fun z => some (Value.int z)) ?_, rfl⟩
          first | exact b1 (Or.inl c_12) | exact b1 (Or.inr (Or.inl ⟨c_49, Decidable.not_not.mp (fun z => c_56 (lgc_ge.mpr z))⟩)) | exact b0 (gdN c_12 (ghN1 c_49 (lgc_ge.mp c_56))) | exact b1 (Or.inr (Or.inr (Or.inl ⟨c_49, c_70, lgc_eq.mp c_77⟩))) | exact b0 (gdN c_12 (ghN2 c_49 c_70 (fun z => c_77 (lgc_eq.mpr z)))) | exact b1 (Or.inr (Or.inr (Or.inr ⟨c_49, c_70, Decidable.not_not.mp (fun z => c_92 (lgc_le.mpr z))⟩))) | exact b0 (gdN c_12 (ghN3 c_49 c_70 (lgc_le.mp c_92)))
      · refine mJ_lload_n hK dX6_isGuarded_73 rfl ?_
        refine mJ_lload hK dX6_isGuarded_74 rfl ?_
        refine mJ_lcmp hK dX6_isGuarded_76 ?_
        refine mJ_if_ne (tgt := 84) hK dX6_isGuarded_77 (by decide) (fun c_77 => ?_) (fun c_77 => ?_)
        · refine mJ_iconst (v := nI 0) hK dX6_isGuarded_84 (by decide) ?_
          refine mJ_goto (tgt := 100) hK dX6_isGuarded_85 (by decide) ?_
          refine mJ_zret hK dX6_isGuarded_100 rfl (by decide) hZ (by decide) (by decide) ?_
          refine ⟨congrArg (fun z => some (Value.int z)) ?_, rfl⟩
          first | exact b1 (Or.inl c_12) | exact b1 (Or.inr (Or.inl ⟨c_49, Decidable.not_not.mp (fun z => c_56 (lgc_ge.mpr z))⟩)) | exact b0 (gdN c_12 (ghN1 c_49 (lgc_ge.mp c_56))) | exact b1 (Or.inr (Or.inr (Or.inl ⟨c_49, c_70, lgc_eq.mp c_77⟩))) | exact b0 (gdN c_12 (ghN2 c_49 c_70 (fun z => c_77 (lgc_eq.mpr z)))) | exact b1 (Or.inr (Or.inr (Or.inr ⟨c_49, c_70, Decidable.not_not.mp (fun z => c_92 (lgc_le.mpr z))⟩))) | exact b0 (gdN c_12 (ghN3 c_49 c_70 (lgc_le.mp c_92)))
        · refine mJ_iconst (v := nI 1) hK dX6_isGuarded_80 (by decide) ?_
          refine mJ_goto (tgt := 100) hK dX6_isGuarded_81 (by decide) ?_
          refine mJ_zret hK dX6_isGuarded_100 rfl (by decide) hZ (by decide) (by decide) ?_
          refine ⟨congrArg (fun z => some (Value.int z)) ?_, rfl⟩
          first | exact b1 (Or.inl c_12) | exact b1 (Or.inr (Or.inl ⟨c_49, Decidable.not_not.mp (fun z => c_56 (lgc_ge.mpr z))⟩)) | exact b0 (gdN c_12 (ghN1 c_49 (lgc_ge.mp c_56))) | exact b1 (Or.inr (Or.inr (Or.inl ⟨c_49, c_70, lgc_eq.mp c_77⟩))) | exact b0 (gdN c_12 (ghN2 c_49 c_70 (fun z => c_77 (lgc_eq.mpr z)))) | exact b1 (Or.inr (Or.inr (Or.inr ⟨c_49, c_70, Decidable.not_not.mp (fun z => c_92 (lgc_le.mpr z))⟩))) | exact b0 (gdN c_12 (ghN3 c_49 c_70 (lgc_le.mp c_92)))
    · refine mJ_lload_n hK dX6_isGuarded_52 rfl ?_
      refine mJ_lload hK dX6_isGuarded_53 rfl ?_
      refine mJ_lcmp hK dX6_isGuarded_55 ?_
      refine mJ_if_ge (tgt := 63) hK dX6_isGuarded_56 (by decide) (fun c_56 => ?_) (fun c_56 => ?_)
      · refine mJ_iconst (v := nI 0) hK dX6_isGuarded_63 (by decide) ?_
        refine mJ_goto (tgt := 100) hK dX6_isGuarded_64 (by decide) ?_
        refine mJ_zret hK dX6_isGuarded_100 rfl (by decide) hZ (by decide) (by decide) ?_
        refine ⟨congrArg (fun z => some (Value.int z)) ?_, rfl⟩
        first | exact b1 (Or.inl c_12) | exact b1 (Or.inr (Or.inl ⟨c_49, Decidable.not_not.mp (fun z => c_56 (lgc_ge.mpr z))⟩)) | exact b0 (gdN c_12 (ghN1 c_49 (lgc_ge.mp c_56))) | exact b1 (Or.inr (Or.inr (Or.inl ⟨c_49, c_70, lgc_eq.mp c_77⟩))) | exact b0 (gdN c_12 (ghN2 c_49 c_70 (fun z => c_77 (lgc_eq.mpr z)))) | exact b1 (Or.inr (Or.inr (Or.inr ⟨c_49, c_70, Decidable.not_not.mp (fun z => c_92 (lgc_le.mpr z))⟩))) | exact b0 (gdN c_12 (ghN3 c_49 c_70 (lgc_le.mp c_92)))
      · refine mJ_iconst (v := nI 1) hK dX6_isGuarded_59 (by decide) ?_
        refine mJ_goto (tgt := 100) hK dX6_isGuarded_60 (by decide) ?_
        refine mJ_zret hK dX6_isGuarded_100 rfl (by decide) hZ (by decide) (by decide) ?_
        refine ⟨congrArg (fun z => some (Value.int z)) ?_, rfl⟩
        first | exact b1 (Or.inl c_12) | exact b1 (Or.inr (Or.inl ⟨c_49, Decidable.not_not.mp (fun z => c_56 (lgc_ge.mpr z))⟩)) | exact b0 (gdN c_12 (ghN1 c_49 (lgc_ge.mp c_56))) | exact b1 (Or.inr (Or.inr (Or.inl ⟨c_49, c_70, lgc_eq.mp c_77⟩))) | exact b0 (gdN c_12 (ghN2 c_49 c_70 (fun z => c_77 (lgc_eq.mpr z)))) | exact b1 (Or.inr (Or.inr (Or.inr ⟨c_49, c_70, Decidable.not_not.mp (fun z => c_92 (lgc_le.mpr z))⟩))) | exact b0 (gdN c_12 (ghN3 c_49 c_70 (lgc_le.mp c_92)))
  · refine mJ_iconst (v := nI 1) hK dX6_isGuarded_15 (by decide) ?_
    refine mJ_zret hK dX6_isGuarded_16 rfl (by decide) hZ (by decide) (by decide) ?_
    refine ⟨congrArg (fun z => some (Value.int z)) ?_, rfl⟩
    first | exact b1 (Or.inl c_12) | exact b1 (Or.inr (Or.inl ⟨c_49, Decidable.not_not.mp (fun z => c_56 (lgc_ge.mpr z))⟩)) | exact b0 (gdN c_12 (ghN1 c_49 (lgc_ge.mp c_56))) | exact b1 (Or.inr (Or.inr (Or.inl ⟨c_49, c_70, lgc_eq.mp c_77⟩))) | exact b0 (gdN c_12 (ghN2 c_49 c_70 (fun z => c_77 (lgc_eq.mpr z)))) | exact b1 (Or.inr (Or.inr (Or.inr ⟨c_49, c_70, Decidable.not_not.mp (fun z => c_92 (lgc_le.mpr z))⟩))) | exact b0 (gdN c_12 (ghN3 c_49 c_70 (lgc_le.mp c_92)))

set_option maxRecDepth 100000 in
set_option maxHeartbeats 4000000 in
theorem lp_X6_goOn {K : mK} (hK : mCx K mX6_goOn) {ad : xAd} {h0 : mH} {F : xFm} {W : xWm} {pm : Nat → Nat} {r : Nat} (hr : r < 8) {q : Nat → Nat} (hq : ∀ c, c < 8 → F 44 0 0 c = nI (q c) ∧ q c ≤ 8) {gres : Option (Nat → Nat)} (hZ : mRt K mX6_goOn (mRi (bI (gres.isSome = true)) (fun h' => ∃ ch : Nat → Int32, xR yV ad h0 (fr F 66 0 0 ch) W pm h' ∧ ∀ cn, gres = some cn → ∀ c, c < 8 → ch c = nI (cn c)))) : ∀ (fu : Nat) (e : Nat) (ch : Nat → Int32) (cn : Nat → Nat) (h : mH), e < fu → (e ≤ 8) → (∀ c, c < 8 → ch c = nI (cn c)) → (∀ c, c < 8 → cn c < wR F q r c) → (gres = goW (wR F q r) e cn) → (xR yV ad h0 (fr F 66 0 0 ch) W pm h) → mJ K 0 0 3 [some (.ref (ad 30 0 0)), some (.int (nI r)), some (.int (nI e + -1))] [] h := by
  intro fu
  induction fu with
  | zero =>
    intro e ch cn h hm0
    exact absurd hm0 (by omega)
  | succ fu ih =>
    intro e ch cn h hm0 he hch hv hres hR
    rcases e with _ | k
    · refine mJ_iload_n hK dX6_goOn_3 rfl ?_
      refine mJ_if_lt (tgt := 61) hK dX6_goOn_4 (by decide) (fun c_4 => ?_) (fun c_4 => ?_)
      · refine mJ_iconst (v := nI 0) hK dX6_goOn_61 (by decide) ?_
        refine mJ_zret hK dX6_goOn_62 rfl (by decide) hZ (by decide) (by decide) ?_
        exact ⟨congrArg (fun z => some (Value.int z)) (b0 (by rw [hres]; exact fun z => by cases z)), ch, hR, fun cn9 h9 => by rw [hres] at h9; cases h9⟩
      · exact absurd (by decide) c_4
    · refine mJ_L (L' := [some (.ref (ad 30 0 0)), some (.int (nI r)), some (.int (nI k))]) (by rw [pk_m1]) ?_
      have hqk := (hq k (by omega)).2
      have hck := hv k (by omega)
      have hwk := wR_le (F := F) (r := r) hqk
      refine mJ_iload_n hK dX6_goOn_3 rfl ?_
      refine mJ_nif_lt (tgt := 61) hK dX6_goOn_4 (by decide) (by first | omega) ?_
      refine mJ_aload_n hK dX6_goOn_7 rfl ?_
      refine xJ_getr hR hK dX6_goOn_8 fX6_13 (by unfold yV; omega) (fun _ _ => rfl) (by decide) (fun _ _ => rfl) ?_
      refine mJ_iload_n hK dX6_goOn_11 rfl ?_
      refine xJ_iald r hR hK dX6_goOn_12 (by unfold yV; omega) (fun _ _ => rfl) rfl (by omega) (by decide) ?_
      refine mJ_iload_n hK dX6_goOn_13 rfl ?_
      refine mJ_ishr hK dX6_goOn_14 ?_
      refine mJ_iconst (v := nI 1) hK dX6_goOn_15 (by decide) ?_
      refine mJ_iand hK dX6_goOn_16 ?_
      refine mJ_iconst (v := nI 1) hK dX6_goOn_17 (by decide) ?_
      refine mJ_icmp_ne (tgt := 55) hK dX6_goOn_18 (by decide) (fun c_18 => ?_) (fun c_18 => ?_)
      · refine mJ_iinc hK dX6_goOn_55 rfl rfl (by decide) rfl ?_
        refine mJ_goto (tgt := 3) hK dX6_goOn_58 (by decide) ?_
        exact ih k _ _ _ (by omega) (by omega) hch hv (by rw [hres, goW_skip (wR_f (F := F) (fun z => c_18 (us1.mpr z))) (hv k (by omega))]) hR
      · refine mJ_aload_n hK dX6_goOn_21 rfl ?_
        refine xJ_getr hR hK dX6_goOn_22 fX6_81 (by unfold yV; omega) (fun _ _ => rfl) (by decide) (fun _ _ => rfl) ?_
        refine mJ_iload_n hK dX6_goOn_25 rfl ?_
        refine mJ_dup2 hK dX6_goOn_26 rfl rfl ?_
        refine xJ_ialdx k (nI (cn k)) hR hK dX6_goOn_27 (by unfold yV; omega) (fun _ _ => rfl) rfl (by omega) (by decide) (by rw [fr_s]; exact hch k (by omega)) ?_
        refine mJ_iconst (v := nI 1) hK dX6_goOn_28 (by decide) ?_
        refine mJ_iaddN hK dX6_goOn_29 ?_
        refine xJ_iast k hR hK dX6_goOn_30 (by unfold yV; omega) (fun _ _ => rfl) rfl (by omega) (by decide) (fun h hR => ?_)
        refine mJ_aload_n hK dX6_goOn_31 rfl ?_
        refine xJ_getr hR hK dX6_goOn_32 fX6_81 (by unfold yV; omega) (fun _ _ => rfl) (by decide) (fun _ _ => rfl) ?_
        refine mJ_iload_n hK dX6_goOn_35 rfl ?_
        refine xJ_ialdx k (nI (cn k + 1)) hR hK dX6_goOn_36 (by unfold yV; omega) (fun _ _ => rfl) rfl (by omega) (by decide) (by simp [fr, upd]) ?_
        refine mJ_aload_n hK dX6_goOn_37 rfl ?_
        refine xJ_getr hR hK dX6_goOn_38 fX6_41 (by unfold yV; omega) (fun _ _ => rfl) (by decide) (fun _ _ => rfl) ?_
        refine mJ_iload_n hK dX6_goOn_41 rfl ?_
        refine xJ_ialdx k (nI (q k)) hR hK dX6_goOn_42 (by unfold yV; omega) (fun _ _ => rfl) rfl (by omega) (by decide) ((hq k (by omega)).1) ?_
        refine mJ_nge (tgt := 48) hK dX6_goOn_43 (by decide) (by first | omega) (by first | omega) (fun c_43 => ?_) (fun c_43 => ?_)
        · refine mJ_aload_n hK dX6_goOn_48 rfl ?_
          refine xJ_getr hR hK dX6_goOn_49 fX6_81 (by unfold yV; omega) (fun _ _ => rfl) (by decide) (fun _ _ => rfl) ?_
          refine mJ_iload_n hK dX6_goOn_52 rfl ?_
          refine mJ_iconst (v := nI 0) hK dX6_goOn_53 (by decide) ?_
          refine xJ_iast k hR hK dX6_goOn_54 (by unfold yV; omega) (fun _ _ => rfl) rfl (by omega) (by decide) (fun h hR => ?_)
          refine mJ_iinc hK dX6_goOn_55 rfl rfl (by decide) rfl ?_
          refine mJ_goto (tgt := 3) hK dX6_goOn_58 (by decide) ?_
          have hu : usP (F 34 0 0 r) (nI k) := us1.mp c_18
          refine ih k (upd (upd ch k (nI (cn k + 1))) k (nI 0)) (va_up cn k 0) _ (by omega) (by omega) ?_ ?_ (by rw [hres, goW_f (by rw [wR_t hu]; omega)]) (xR_ext hR (by simp only [fr_s, fr_fr]))
          · intro c hc
            by_cases hce : c = k
            · rw [hce, va_up_s]; simp [upd]
            · rw [va_up_n hce]; simp [upd, hce]; exact hch c hc
          · intro c hc
            by_cases hce : c = k
            · rw [hce, va_up_s]; have := hv k (by omega); omega
            · rw [va_up_n hce]; exact hv c hc
        · refine mJ_iconst (v := nI 1) hK dX6_goOn_46 (by decide) ?_
          refine mJ_zret hK dX6_goOn_47 rfl (by decide) hZ (by decide) (by decide) ?_
          have hu : usP (F 34 0 0 r) (nI k) := us1.mp c_18
          have hgt := goW_t (w := wR F q r) (cn := cn) (e := k) (by rw [wR_t hu]; omega)
          refine ⟨congrArg (fun z => some (Value.int z)) (b1 (by rw [hres, hgt]; rfl)), upd ch k (nI (cn k + 1)), xR_ext hR (by simp only [fr_s, fr_fr]), ?_⟩
          intro cn9 h9 c hc
          rw [hres, hgt] at h9
          cases h9
          by_cases hce : c = k
          · rw [hce, va_up_s]; simp [upd]
          · rw [va_up_n hce]; simp [upd, hce]; exact hch c hc

set_option maxRecDepth 100000 in
set_option maxHeartbeats 4000000 in
theorem k_X6_goOn {l : Launch} {D : va_G} {aC : Nat → ClassId} {ad : xAd} {h0 h : mH} {F : xFm} {W : xWm} {pm : Nat → Nat} (hR : xR yV ad h0 F W pm h) {r : Nat} (hr : r < 8) {q : Nat → Nat} (hq : ∀ c, c < 8 → F 44 0 0 c = nI (q c) ∧ q c ≤ 8) {cn : Nat → Nat} (hch : ∀ c, c < 8 → F 66 0 0 c = nI (cn c) ∧ cn c < 8) (hv : ∀ c, c < 8 → cn c < wR F q r c) {gres : Option (Nat → Nat)} (hres : gres = goW (wR F q r) 8 cn) : mCon l D aC mX6_goOn [.ref (ad 30 0 0), .int (nI r)] h (mRi (bI (gres.isSome = true)) (fun h' => ∃ ch : Nat → Int32, xR yV ad h0 (fr F 66 0 0 ch) W pm h' ∧ ∀ cn, gres = some cn → ∀ c, c < 8 → ch c = nI (cn c))) := by
  refine mCon.of [some (.ref (ad 30 0 0)), some (.int (nI r)), none] (by decide +kernel) rfl (Nat.le_of_ble_eq_true rfl) ?_
  intro K el eD eC hK hZ
  subst el eD eC
  refine mJ_bipush (v := nI 7) hK dX6_goOn_0 (by decide) ?_
  refine mJ_istore_n hK dX6_goOn_2 (by decide) rfl ?_
  exact lp_X6_goOn hK hr hq hZ 9 8 (F 66 0 0) cn _ (by omega) (by omega) (fun c hc => (hch c hc).1) hv hres (by rw [fr_self]; exact hR)
