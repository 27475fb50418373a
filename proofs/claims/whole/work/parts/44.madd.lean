def cpO (a d : Nat → Int32) (b e : Nat) : Nat → Int32 := fun j => if b ≤ j ∧ j < b + e then a (j - b) else d j
theorem cpO_0 {a d : Nat → Int32} {b : Nat} : cpO a d b 0 = d := by
  funext j
  unfold cpO
  rw [if_neg (by omega)]
theorem cpO_s {a d : Nat → Int32} {b e : Nat} : upd (cpO a d b e) (b + e) (a e) = cpO a d b (e + 1) := by
  funext j
  unfold upd cpO
  by_cases h : j = b + e
  · subst h
    rw [if_pos rfl, if_pos (by omega), Nat.add_sub_cancel_left]
  · rw [if_neg h]
    by_cases h2 : b ≤ j ∧ j < b + e
    · rw [if_pos h2, if_pos (by omega)]
    · rw [if_neg h2, if_neg (by omega)]
def cpT (d : Nat → Int32) (t f e : Nat) : Nat → Int32 := fun j => if t ≤ j ∧ j < t + e then d (j - t + f) else d j
theorem cpT_0 {d : Nat → Int32} {t f : Nat} : cpT d t f 0 = d := by
  funext j
  unfold cpT
  rw [if_neg (by omega)]
theorem cpT_s {d : Nat → Int32} {t f e : Nat} (h : t ≤ f) : upd (cpT d t f e) (t + e) (cpT d t f e (f + e)) = cpT d t f (e + 1) := by
  funext j
  unfold upd cpT
  by_cases h1 : j = t + e
  · subst h1
    rw [if_pos rfl, if_neg (by omega), if_pos (by omega)]
    congr 1
    omega
  · rw [if_neg h1]
    by_cases h2 : t ≤ j ∧ j < t + e
    · rw [if_pos h2, if_pos (by omega)]
    · rw [if_neg h2, if_neg (by omega)]
theorem fr_22 {α : Type} {F : Nat → Nat → Nat → α} {k1 k2 : Nat} {a b a' b' : α} (h : k1 ≠ k2) : fr (fr (fr (fr F k1 0 0 a) k2 0 0 b) k1 0 0 a') k2 0 0 b' = fr (fr F k1 0 0 a') k2 0 0 b' := by
  funext k i j
  by_cases h2 : k = k2 ∧ i = 0 ∧ j = 0
  · obtain ⟨rfl, rfl, rfl⟩ := h2
    rw [fr_s, fr_s]
  · by_cases h1 : k = k1 ∧ i = 0 ∧ j = 0
    · obtain ⟨rfl, rfl, rfl⟩ := h1
      rw [fr_k h, fr_s, fr_k h, fr_s]
    · rw [fr_n h2, fr_n h1, fr_n h2, fr_n h1, fr_n h2, fr_n h1]
set_option maxRecDepth 100000 in
set_option maxHeartbeats 4000000 in
theorem lp_X6_addRule_1 {K : mK} (hK : mCx K mX6_addRule) {ad : xAd} {h0 : mH} {F : xFm} {W : xWm} {pm : Nat → Nat} {r : Nat} (hr : r < 8) {x : Int32} (hkk : ∀ h' : mH, xR yV ad h0 (fr F 35 0 0 (cpO (F 58 0 0) (F 35 0 0) (3 * r) 3)) W pm h' → mJ K 0 0 99 [some (.ref (ad 30 0 0)), some (.int x), some (.int (nI r)), some (.int (nI 3))] [] h') : ∀ (fu : Nat) (e : Nat) (h : mH), 3 - e < fu → (e ≤ 3) → (xR yV ad h0 (fr F 35 0 0 (cpO (F 58 0 0) (F 35 0 0) (3 * r) e)) W pm h) → mJ K 0 0 72 [some (.ref (ad 30 0 0)), some (.int x), some (.int (nI r)), some (.int (nI e))] [] h := by
  intro fu
  induction fu with
  | zero =>
    intro e h hm0
    exact absurd hm0 (by omega)
  | succ fu ih =>
    intro e h hm0 he hR
    refine mJ_iload_n hK dX6_addRule_72 rfl ?_
    refine mJ_iconst (v := nI 3) hK dX6_addRule_73 (by decide) ?_
    refine mJ_nge (tgt := 99) hK dX6_addRule_74 (by decide) (by omega) (by omega) (fun c_74 => ?_) (fun c_74 => ?_)
    · have : e = 3 := by omega
      subst this
      exact hkk _ hR
    · refine mJ_aload_n hK dX6_addRule_77 rfl ?_
      refine xJ_getr hR hK dX6_addRule_78 fX6_16 (by unfold yV; omega) (fun _ _ => rfl) (by decide) (fun _ _ => rfl) ?_
      refine mJ_iconst (v := nI 3) hK dX6_addRule_81 (by decide) ?_
      refine mJ_iload_n hK dX6_addRule_82 rfl ?_
      refine mJ_imulN hK dX6_addRule_83 ?_
      refine mJ_iload_n hK dX6_addRule_84 rfl ?_
      refine mJ_iaddN hK dX6_addRule_85 ?_
      refine mJ_aload_n hK dX6_addRule_86 rfl ?_
      refine xJ_getr hR hK dX6_addRule_87 fX6_66 (by unfold yV; omega) (fun _ _ => rfl) (by decide) (fun _ _ => rfl) ?_
      refine mJ_iload_n hK dX6_addRule_90 rfl ?_
      refine xJ_iald e hR hK dX6_addRule_91 (by unfold yV; omega) (fun _ _ => rfl) rfl (by omega) (by decide) ?_
      refine xJ_iast ((3 * r) + e) hR hK dX6_addRule_92 (by unfold yV; omega) (fun _ _ => rfl) rfl (by omega) (by decide) (fun h hR => ?_)
      refine mJ_iincN hK dX6_addRule_93 rfl rfl (by decide) rfl ?_
      refine mJ_goto (tgt := 72) hK dX6_addRule_96 (by decide) ?_
      exact ih (e + 1) _ (by omega) (by omega) (xR_ext hR (by rw [fr_s, fr_fr]; exact congrArg (fr F 35 0 0) cpO_s))

set_option maxRecDepth 100000 in
set_option maxHeartbeats 4000000 in
theorem lp_X6_addRule_2 {K : mK} (hK : mCx K mX6_addRule) {ad : xAd} {h0 : mH} {F : xFm} {W : xWm} {pm : Nat → Nat} {r : Nat} (hr : r < 8) {x : Int32} (hkk : ∀ h' : mH, xR yV ad h0 (fr (fr F 37 0 0 (cpO (F 62 0 0) (F 37 0 0) (4 * r) 4)) 38 0 0 (cpO (F 63 0 0) (F 38 0 0) (4 * r) 4)) W pm h' → mJ K 0 0 144 [some (.ref (ad 30 0 0)), some (.int x), some (.int (nI r)), some (.int (nI 4))] [] h') : ∀ (fu : Nat) (e : Nat) (h : mH), 4 - e < fu → (e ≤ 4) → (xR yV ad h0 (fr (fr F 37 0 0 (cpO (F 62 0 0) (F 37 0 0) (4 * r) e)) 38 0 0 (cpO (F 63 0 0) (F 38 0 0) (4 * r) e)) W pm h) → mJ K 0 0 101 [some (.ref (ad 30 0 0)), some (.int x), some (.int (nI r)), some (.int (nI e))] [] h := by
  intro fu
  induction fu with
  | zero =>
    intro e h hm0
    exact absurd hm0 (by omega)
  | succ fu ih =>
    intro e h hm0 he hR
    refine mJ_iload_n hK dX6_addRule_101 rfl ?_
    refine mJ_iconst (v := nI 4) hK dX6_addRule_102 (by decide) ?_
    refine mJ_nge (tgt := 144) hK dX6_addRule_103 (by decide) (by omega) (by omega) (fun c_103 => ?_) (fun c_103 => ?_)
    · have : e = 4 := by omega
      subst this
      exact hkk _ hR
    · refine mJ_aload_n hK dX6_addRule_106 rfl ?_
      refine xJ_getr hR hK dX6_addRule_107 fX6_22 (by unfold yV; omega) (fun _ _ => rfl) (by decide) (fun _ _ => rfl) ?_
      refine mJ_iconst (v := nI 4) hK dX6_addRule_110 (by decide) ?_
      refine mJ_iload_n hK dX6_addRule_111 rfl ?_
      refine mJ_imulN hK dX6_addRule_112 ?_
      refine mJ_iload_n hK dX6_addRule_113 rfl ?_
      refine mJ_iaddN hK dX6_addRule_114 ?_
      refine mJ_aload_n hK dX6_addRule_115 rfl ?_
      refine xJ_getr hR hK dX6_addRule_116 fX6_69 (by unfold yV; omega) (fun _ _ => rfl) (by decide) (fun _ _ => rfl) ?_
      refine mJ_iload_n hK dX6_addRule_119 rfl ?_
      refine xJ_iald e hR hK dX6_addRule_120 (by unfold yV; omega) (fun _ _ => rfl) rfl (by omega) (by decide) ?_
      refine xJ_iast ((4 * r) + e) hR hK dX6_addRule_121 (by unfold yV; omega) (fun _ _ => rfl) rfl (by omega) (by decide) (fun h hR => ?_)
      refine mJ_aload_n hK dX6_addRule_122 rfl ?_
      refine xJ_getr hR hK dX6_addRule_123 fX6_25 (by unfold yV; omega) (fun _ _ => rfl) (by decide) (fun _ _ => rfl) ?_
      refine mJ_iconst (v := nI 4) hK dX6_addRule_126 (by decide) ?_
      refine mJ_iload_n hK dX6_addRule_127 rfl ?_
      refine mJ_imulN hK dX6_addRule_128 ?_
      refine mJ_iload_n hK dX6_addRule_129 rfl ?_
      refine mJ_iaddN hK dX6_addRule_130 ?_
      refine mJ_aload_n hK dX6_addRule_131 rfl ?_
      refine xJ_getr hR hK dX6_addRule_132 fX6_72 (by unfold yV; omega) (fun _ _ => rfl) (by decide) (fun _ _ => rfl) ?_
      refine mJ_iload_n hK dX6_addRule_135 rfl ?_
      refine xJ_iald e hR hK dX6_addRule_136 (by unfold yV; omega) (fun _ _ => rfl) rfl (by omega) (by decide) ?_
      refine xJ_iast ((4 * r) + e) hR hK dX6_addRule_137 (by unfold yV; omega) (fun _ _ => rfl) rfl (by omega) (by decide) (fun h hR => ?_)
      refine mJ_iincN hK dX6_addRule_138 rfl rfl (by decide) rfl ?_
      refine mJ_goto (tgt := 101) hK dX6_addRule_141 (by decide) ?_
      refine ih (e + 1) _ (by omega) (by omega) (xR_ext hR ((fr_22 (by omega)).trans ?_))
      exact congr (congrArg (fun a b => fr (fr F 37 0 0 a) 38 0 0 b) cpO_s) cpO_s

set_option maxRecDepth 100000 in
set_option maxHeartbeats 4000000 in
theorem lp_X6_addRule_3 {K : mK} (hK : mCx K mX6_addRule) {ad : xAd} {h0 : mH} {F : xFm} {W : xWm} {pm : Nat → Nat} {r : Nat} (hr : r < 8) {x : Int32} (hkk : ∀ h' : mH, xR yV ad h0 (fr (fr F 39 0 0 (cpO (F 64 0 0) (F 39 0 0) (12 * r) 12)) 40 0 0 (cpO (F 65 0 0) (F 40 0 0) (12 * r) 12)) W pm h' → mJ K 0 0 192 [some (.ref (ad 30 0 0)), some (.int x), some (.int (nI r)), some (.int (nI 12))] [] h') : ∀ (fu : Nat) (e : Nat) (h : mH), 12 - e < fu → (e ≤ 12) → (xR yV ad h0 (fr (fr F 39 0 0 (cpO (F 64 0 0) (F 39 0 0) (12 * r) e)) 40 0 0 (cpO (F 65 0 0) (F 40 0 0) (12 * r) e)) W pm h) → mJ K 0 0 146 [some (.ref (ad 30 0 0)), some (.int x), some (.int (nI r)), some (.int (nI e))] [] h := by
  intro fu
  induction fu with
  | zero =>
    intro e h hm0
    exact absurd hm0 (by omega)
  | succ fu ih =>
    intro e h hm0 he hR
    refine mJ_iload_n hK dX6_addRule_146 rfl ?_
    refine mJ_bipush (v := nI 12) hK dX6_addRule_147 (by decide) ?_
    refine mJ_nge (tgt := 192) hK dX6_addRule_149 (by decide) (by omega) (by omega) (fun c_149 => ?_) (fun c_149 => ?_)
    · have : e = 12 := by omega
      subst this
      exact hkk _ hR
    · refine mJ_aload_n hK dX6_addRule_152 rfl ?_
      refine xJ_getr hR hK dX6_addRule_153 fX6_28 (by unfold yV; omega) (fun _ _ => rfl) (by decide) (fun _ _ => rfl) ?_
      refine mJ_bipush (v := nI 12) hK dX6_addRule_156 (by decide) ?_
      refine mJ_iload_n hK dX6_addRule_158 rfl ?_
      refine mJ_imulN hK dX6_addRule_159 ?_
      refine mJ_iload_n hK dX6_addRule_160 rfl ?_
      refine mJ_iaddN hK dX6_addRule_161 ?_
      refine mJ_aload_n hK dX6_addRule_162 rfl ?_
      refine xJ_getr hR hK dX6_addRule_163 fX6_75 (by unfold yV; omega) (fun _ _ => rfl) (by decide) (fun _ _ => rfl) ?_
      refine mJ_iload_n hK dX6_addRule_166 rfl ?_
      refine xJ_iald e hR hK dX6_addRule_167 (by unfold yV; omega) (fun _ _ => rfl) rfl (by omega) (by decide) ?_
      refine xJ_iast ((12 * r) + e) hR hK dX6_addRule_168 (by unfold yV; omega) (fun _ _ => rfl) rfl (by omega) (by decide) (fun h hR => ?_)
      refine mJ_aload_n hK dX6_addRule_169 rfl ?_
      refine xJ_getr hR hK dX6_addRule_170 fX6_31 (by unfold yV; omega) (fun _ _ => rfl) (by decide) (fun _ _ => rfl) ?_
      refine mJ_bipush (v := nI 12) hK dX6_addRule_173 (by decide) ?_
      refine mJ_iload_n hK dX6_addRule_175 rfl ?_
      refine mJ_imulN hK dX6_addRule_176 ?_
      refine mJ_iload_n hK dX6_addRule_177 rfl ?_
      refine mJ_iaddN hK dX6_addRule_178 ?_
      refine mJ_aload_n hK dX6_addRule_179 rfl ?_
      refine xJ_getr hR hK dX6_addRule_180 fX6_78 (by unfold yV; omega) (fun _ _ => rfl) (by decide) (fun _ _ => rfl) ?_
      refine mJ_iload_n hK dX6_addRule_183 rfl ?_
      refine xJ_iald e hR hK dX6_addRule_184 (by unfold yV; omega) (fun _ _ => rfl) rfl (by omega) (by decide) ?_
      refine xJ_iast ((12 * r) + e) hR hK dX6_addRule_185 (by unfold yV; omega) (fun _ _ => rfl) rfl (by omega) (by decide) (fun h hR => ?_)
      refine mJ_iincN hK dX6_addRule_186 rfl rfl (by decide) rfl ?_
      refine mJ_goto (tgt := 146) hK dX6_addRule_189 (by decide) ?_
      refine ih (e + 1) _ (by omega) (by omega) (xR_ext hR ((fr_22 (by omega)).trans ?_))
      exact congr (congrArg (fun a b => fr (fr F 39 0 0 a) 40 0 0 b) cpO_s) cpO_s

def maS (G : xFm) (rn m : Nat) : xFm := fr (fr (fr (tS G (nI 0)) 34 0 0 (upd (G 34 0 0) rn (G 30 0 0 25))) 36 0 0 (upd (G 36 0 0) rn (nI m))) 41 0 0 (upd (G 41 0 0) rn (nI 0))
def maT (G : xFm) (rn m : Nat) : xFm := fr (maS G rn m) 35 0 0 (cpO (G 58 0 0) (G 35 0 0) (3 * rn) 3)
def maU (G : xFm) (rn m : Nat) : xFm := fr (fr (maT G rn m) 37 0 0 (cpO (G 62 0 0) (G 37 0 0) (4 * rn) 4)) 38 0 0 (cpO (G 63 0 0) (G 38 0 0) (4 * rn) 4)
def maV (G : xFm) (rn m : Nat) : xFm := fr (fr (maU G rn m) 39 0 0 (cpO (G 64 0 0) (G 39 0 0) (12 * rn) 12)) 40 0 0 (cpO (G 65 0 0) (G 40 0 0) (12 * rn) 12)
def maR (G : xFm) (rn m : Nat) : xFm := fr (maV G rn m) 30 0 0 (upd (upd (upd (upd (G 30 0 0) 0 (nI 0)) 3 (nI (rn + 1))) 1 (nI 0)) 39 (nI 0))
theorem woM_b {rd : Nat × xFm} {bl m : Nat} (h : woM rd bl = some m) : rd.1 = bl := by
  unfold woM at h
  split at h
  · assumption
  · cases h
set_option maxRecDepth 100000 in
set_option maxHeartbeats 4000000 in
theorem k_X6_addRule {l : Launch} {D : va_G} {aC : Nat → ClassId} {ad : xAd} {h0 h : mH} {F : xFm} {W : xWm} {pm : Nat → Nat} (hR : xR yV ad h0 F W pm h) {bl : Nat} (hbl : F 30 0 0 1 = nI bl) (hbl40 : bl ≤ 40) {cs : Nat → Nat} (hcs : ∀ i, i < bl → F 32 0 0 i = nI (cs i) ∧ cs i < 1000) {rd : Nat × xFm} (hrd : rd = rdM cs bl 0 (m0 F)) {rn : Nat} (hrn : F 30 0 0 3 = nI rn) (hrn7 : rn < 8) {m : Nat} (hm4 : m ≤ 4) (hwo : woM rd bl = some m) : mCon l D aC mX6_addRule [.ref (ad 30 0 0)] h (mRi (nI rn) (fun h' => xR yV ad h0 (maR rd.2 rn m) W pm h')) := by
  refine mCon.of [some (.ref (ad 30 0 0)), none, none, none] (by decide +kernel) rfl (Nat.le_of_ble_eq_true rfl) ?_
  intro K el eD eC hK hZ
  subst el eD eC
  refine mJ_aload_n hK dX6_addRule_0 rfl ?_
  refine mJ_cVi hK dX6_addRule_1 lX6_185 (by unfold mFit; decide) (by decide) (k_X6_wholeOutputs hR (bl := bl) hbl hbl40 (cs := cs) hcs hrd) rfl rfl (Nat.le_of_ble_eq_true rfl) (hR.1 _ _ _ (by unfold yV; omega)) ⟨_, _, rfl⟩ (fun h hE => ?_)
  obtain ⟨G, hR, hp, hg9⟩ := hE
  rw [hwo]
  have hG := hg9 (woM_b hwo)
  subst hG
  have hrG : rd.2 30 0 0 3 = nI rn := by rw [hp.2 3 (by omega)]; exact hrn
  refine mJ_istore_n hK dX6_addRule_4 (by decide) rfl ?_
  refine mJ_aload_n hK dX6_addRule_5 rfl ?_
  refine mJ_iload_n hK dX6_addRule_6 rfl ?_
  refine mJ_iconst (v := -1) hK dX6_addRule_7 (by decide) ?_
  refine mJ_icmp_ne (tgt := 15) hK dX6_addRule_8 (by decide) (fun c_8 => ?_) (fun c_8 => ?_)
  · refine mJ_aload_n hK dX6_addRule_15 rfl ?_
    refine xJ_getx (nI rn) hR hK dX6_addRule_16 fX6_188 (by unfold yV; omega) (fun _ _ => rfl) (by decide) rfl (by first | exact hrG | (simp [fr, upd]; exact hrG) | (show upd (rd.2 30 0 0) 0 (nI 0) 3 = nI rn; simp [upd]; exact hrG)) ?_
    refine mJ_bipush (v := nI 8) hK dX6_addRule_19 (by decide) ?_
    refine mJ_nne (tgt := 28) hK dX6_addRule_21 (by decide) (by omega) (by omega) (fun c_21 => ?_) (fun c_21 => ?_)
    · refine mJ_iconst (v := nI 0) hK dX6_addRule_28 (by decide) ?_
      refine xJ_puti hR hK dX6_addRule_29 fX6_117 sX6_0 rfl rfl (by unfold yV; omega) (fun _ _ => rfl) (by decide) rfl (fun h hR => ?_)
      refine mJ_aload_n hK dX6_addRule_32 rfl ?_
      refine xJ_getx (nI 0) hR hK dX6_addRule_33 fX6_117 (by unfold yV; omega) (fun _ _ => rfl) (by decide) rfl (by simp [fr, upd]) ?_
      refine mJ_nif_le (tgt := 41) hK dX6_addRule_36 (by decide) (by omega) (fun c_36 => ?_) (fun c_36 => ?_)
      · refine mJ_aload_n hK dX6_addRule_41 rfl ?_
        refine xJ_getx (nI rn) hR hK dX6_addRule_42 fX6_188 (by unfold yV; omega) (fun _ _ => rfl) (by decide) rfl (by first | exact hrG | (simp [fr, upd]; exact hrG) | (show upd (rd.2 30 0 0) 0 (nI 0) 3 = nI rn; simp [upd]; exact hrG)) ?_
        refine mJ_istore_n hK dX6_addRule_45 (by decide) rfl ?_
        refine mJ_aload_n hK dX6_addRule_46 rfl ?_
        refine xJ_getr hR hK dX6_addRule_47 fX6_13 (by unfold yV; omega) (fun _ _ => rfl) (by decide) (fun _ _ => rfl) ?_
        refine mJ_iload_n hK dX6_addRule_50 rfl ?_
        refine mJ_aload_n hK dX6_addRule_51 rfl ?_
        refine xJ_geti hR hK dX6_addRule_52 fX6_127 (by unfold yV; omega) (fun _ _ => rfl) (by decide) rfl ?_
        refine xJ_iast rn hR hK dX6_addRule_55 (by unfold yV; omega) (fun _ _ => rfl) rfl (by omega) (by decide) (fun h hR => ?_)
        refine mJ_aload_n hK dX6_addRule_56 rfl ?_
        refine xJ_getr hR hK dX6_addRule_57 fX6_19 (by unfold yV; omega) (fun _ _ => rfl) (by decide) (fun _ _ => rfl) ?_
        refine mJ_iload_n hK dX6_addRule_60 rfl ?_
        refine mJ_iload_n hK dX6_addRule_61 rfl ?_
        refine xJ_iast rn hR hK dX6_addRule_62 (by unfold yV; omega) (fun _ _ => rfl) rfl (by omega) (by decide) (fun h hR => ?_)
        refine mJ_aload_n hK dX6_addRule_63 rfl ?_
        refine xJ_getr hR hK dX6_addRule_64 fX6_34 (by unfold yV; omega) (fun _ _ => rfl) (by decide) (fun _ _ => rfl) ?_
        refine mJ_iload_n hK dX6_addRule_67 rfl ?_
        refine mJ_iconst (v := nI 0) hK dX6_addRule_68 (by decide) ?_
        refine xJ_iast rn hR hK dX6_addRule_69 (by unfold yV; omega) (fun _ _ => rfl) rfl (by omega) (by decide) (fun h hR => ?_)
        refine mJ_iconst (v := nI 0) hK dX6_addRule_70 (by decide) ?_
        refine mJ_istore_n hK dX6_addRule_71 (by decide) rfl ?_
        have hR : xR yV ad h0 (maS rd.2 rn m) W pm h := hR
        refine lp_X6_addRule_1 hK (r := rn) hrn7 ?_ 4 0 _ (by omega) (by omega) (xR_ext hR (by rw [cpO_0, fr_self]))
        intro h hR
        have hR : xR yV ad h0 (maT rd.2 rn m) W pm h := hR
        refine mJ_iconst (v := nI 0) hK dX6_addRule_99 (by decide) ?_
        refine mJ_istore_n hK dX6_addRule_100 (by decide) rfl ?_
        refine lp_X6_addRule_2 hK (r := rn) hrn7 ?_ 5 0 _ (by omega) (by omega) (xR_ext hR (by rw [cpO_0, fr_self, cpO_0, fr_self]))
        intro h hR
        have hR : xR yV ad h0 (maU rd.2 rn m) W pm h := hR
        refine mJ_iconst (v := nI 0) hK dX6_addRule_144 (by decide) ?_
        refine mJ_istore_n hK dX6_addRule_145 (by decide) rfl ?_
        refine lp_X6_addRule_3 hK (r := rn) hrn7 ?_ 13 0 _ (by omega) (by omega) (xR_ext hR (by rw [cpO_0, fr_self, cpO_0, fr_self]))
        intro h hR
        have hR : xR yV ad h0 (maV rd.2 rn m) W pm h := hR
        refine mJ_aload_n hK dX6_addRule_192 rfl ?_
        refine mJ_dup hK dX6_addRule_193 rfl ?_
        refine xJ_getx (nI rn) hR hK dX6_addRule_194 fX6_188 (by unfold yV; omega) (fun _ _ => rfl) (by decide) rfl (by first | exact hrG | (simp [fr, upd]; exact hrG) | (show upd (rd.2 30 0 0) 0 (nI 0) 3 = nI rn; simp [upd]; exact hrG)) ?_
        refine mJ_iconst (v := nI 1) hK dX6_addRule_197 (by decide) ?_
        refine mJ_iaddN hK dX6_addRule_198 ?_
        refine xJ_puti hR hK dX6_addRule_199 fX6_188 sX6_3 rfl rfl (by unfold yV; omega) (fun _ _ => rfl) (by decide) rfl (fun h hR => ?_)
        refine mJ_aload_n hK dX6_addRule_202 rfl ?_
        refine mJ_iconst (v := nI 0) hK dX6_addRule_203 (by decide) ?_
        refine xJ_puti hR hK dX6_addRule_204 fX6_124 sX6_1 rfl rfl (by unfold yV; omega) (fun _ _ => rfl) (by decide) rfl (fun h hR => ?_)
        refine mJ_aload_n hK dX6_addRule_207 rfl ?_
        refine mJ_iconst (v := nI 0) hK dX6_addRule_208 (by decide) ?_
        refine xJ_puti hR hK dX6_addRule_209 fX6_191 sX6_39 (by decide) (by decide) (by unfold yV; omega) (fun _ _ => rfl) (by decide) rfl (fun h hR => ?_)
        refine mJ_iload_n hK dX6_addRule_212 rfl ?_
        refine mJ_iret hK dX6_addRule_213 rfl hZ (by decide) (by decide) ?_
        exact ⟨rfl, xR_ext hR (by simp only [fr_fr]; rfl)⟩
      · exact absurd c_36 (by omega)
    · exact absurd c_21 (by omega)
  · exact absurd c_8 (nI_m1 (by omega))

set_option maxRecDepth 100000 in
set_option maxHeartbeats 4000000 in
theorem k_X6_addRule_x1 {l : Launch} {D : va_G} {aC : Nat → ClassId} {ad : xAd} {h0 h : mH} {F : xFm} {W : xWm} {pm : Nat → Nat} (hR : xR yV ad h0 F W pm h) {bl : Nat} (hbl : F 30 0 0 1 = nI bl) (hbl40 : bl ≤ 40) {cs : Nat → Nat} (hcs : ∀ i, i < bl → F 32 0 0 i = nI (cs i) ∧ cs i < 1000) {rd : Nat × xFm} (hrd : rd = rdM cs bl 0 (m0 F)) (hwo : woM rd bl = none) : mCon l D aC mX6_addRule [.ref (ad 30 0 0)] h (mRi (nI 0) (fun h' => ∃ G : xFm, xR yV ad h0 (tS G (nI 1)) W pm h' ∧ pO F G)) := by
  refine mCon.of [some (.ref (ad 30 0 0)), none, none, none] (by decide +kernel) rfl (Nat.le_of_ble_eq_true rfl) ?_
  intro K el eD eC hK hZ
  subst el eD eC
  refine mJ_aload_n hK dX6_addRule_0 rfl ?_
  refine mJ_cVi hK dX6_addRule_1 lX6_185 (by unfold mFit; decide) (by decide) (k_X6_wholeOutputs hR (bl := bl) hbl hbl40 (cs := cs) hcs hrd) rfl rfl (Nat.le_of_ble_eq_true rfl) (hR.1 _ _ _ (by unfold yV; omega)) ⟨_, _, rfl⟩ (fun h hE => ?_)
  obtain ⟨G, hR, hp, hg9⟩ := hE
  rw [hwo]
  refine mJ_istore_n hK dX6_addRule_4 (by decide) rfl ?_
  refine mJ_aload_n hK dX6_addRule_5 rfl ?_
  refine mJ_iload_n hK dX6_addRule_6 rfl ?_
  refine mJ_iconst (v := -1) hK dX6_addRule_7 (by decide) ?_
  refine mJ_icmp_ne (tgt := 15) hK dX6_addRule_8 (by decide) (fun c_8 => ?_) (fun c_8 => ?_)
  · exact absurd rfl c_8
  · refine mJ_iconst (v := nI 1) hK dX6_addRule_11 (by decide) ?_
    refine mJ_goto (tgt := 29) hK dX6_addRule_12 (by decide) ?_
    refine xJ_puti hR hK dX6_addRule_29 fX6_117 sX6_0 rfl rfl (by unfold yV; omega) (fun _ _ => rfl) (by decide) rfl (fun h hR => ?_)
    refine mJ_aload_n hK dX6_addRule_32 rfl ?_
    refine xJ_getx (nI 1) hR hK dX6_addRule_33 fX6_117 (by unfold yV; omega) (fun _ _ => rfl) (by decide) rfl (by simp [fr, upd]) ?_
    refine mJ_nif_le (tgt := 41) hK dX6_addRule_36 (by decide) (by omega) (fun c_36 => ?_) (fun c_36 => ?_)
    · exact absurd c_36 (by omega)
    · refine mJ_iconst (v := nI 0) hK dX6_addRule_39 (by decide) ?_
      refine mJ_iret hK dX6_addRule_40 rfl hZ (by decide) (by decide) ?_
      exact ⟨rfl, G, hR, hp⟩

set_option maxRecDepth 100000 in
set_option maxHeartbeats 4000000 in
theorem k_X6_addRule_x2 {l : Launch} {D : va_G} {aC : Nat → ClassId} {ad : xAd} {h0 h : mH} {F : xFm} {W : xWm} {pm : Nat → Nat} (hR : xR yV ad h0 F W pm h) {bl : Nat} (hbl : F 30 0 0 1 = nI bl) (hbl40 : bl ≤ 40) {cs : Nat → Nat} (hcs : ∀ i, i < bl → F 32 0 0 i = nI (cs i) ∧ cs i < 1000) {rd : Nat × xFm} (hrd : rd = rdM cs bl 0 (m0 F)) (hrn : F 30 0 0 3 = nI 8) {m : Nat} (hm4 : m ≤ 4) (hwo : woM rd bl = some m) : mCon l D aC mX6_addRule [.ref (ad 30 0 0)] h (mRi (nI 0) (fun h' => ∃ G : xFm, xR yV ad h0 (tS G (nI 2)) W pm h' ∧ pO F G)) := by
  refine mCon.of [some (.ref (ad 30 0 0)), none, none, none] (by decide +kernel) rfl (Nat.le_of_ble_eq_true rfl) ?_
  intro K el eD eC hK hZ
  subst el eD eC
  refine mJ_aload_n hK dX6_addRule_0 rfl ?_
  refine mJ_cVi hK dX6_addRule_1 lX6_185 (by unfold mFit; decide) (by decide) (k_X6_wholeOutputs hR (bl := bl) hbl hbl40 (cs := cs) hcs hrd) rfl rfl (Nat.le_of_ble_eq_true rfl) (hR.1 _ _ _ (by unfold yV; omega)) ⟨_, _, rfl⟩ (fun h hE => ?_)
  obtain ⟨G, hR, hp, hg9⟩ := hE
  rw [hwo]
  refine mJ_istore_n hK dX6_addRule_4 (by decide) rfl ?_
  refine mJ_aload_n hK dX6_addRule_5 rfl ?_
  refine mJ_iload_n hK dX6_addRule_6 rfl ?_
  refine mJ_iconst (v := -1) hK dX6_addRule_7 (by decide) ?_
  refine mJ_icmp_ne (tgt := 15) hK dX6_addRule_8 (by decide) (fun c_8 => ?_) (fun c_8 => ?_)
  · refine mJ_aload_n hK dX6_addRule_15 rfl ?_
    refine xJ_getx (nI 8) hR hK dX6_addRule_16 fX6_188 (by unfold yV; omega) (fun _ _ => rfl) (by decide) rfl (by rw [hp.2 3 (by omega)]; exact hrn) ?_
    refine mJ_bipush (v := nI 8) hK dX6_addRule_19 (by decide) ?_
    refine mJ_nne (tgt := 28) hK dX6_addRule_21 (by decide) (by omega) (by omega) (fun c_21 => ?_) (fun c_21 => ?_)
    · exact absurd c_21 (by omega)
    · refine mJ_iconst (v := nI 2) hK dX6_addRule_24 (by decide) ?_
      refine mJ_goto (tgt := 29) hK dX6_addRule_25 (by decide) ?_
      refine xJ_puti hR hK dX6_addRule_29 fX6_117 sX6_0 rfl rfl (by unfold yV; omega) (fun _ _ => rfl) (by decide) rfl (fun h hR => ?_)
      refine mJ_aload_n hK dX6_addRule_32 rfl ?_
      refine xJ_getx (nI 2) hR hK dX6_addRule_33 fX6_117 (by unfold yV; omega) (fun _ _ => rfl) (by decide) rfl (by simp [fr, upd]) ?_
      refine mJ_nif_le (tgt := 41) hK dX6_addRule_36 (by decide) (by omega) (fun c_36 => ?_) (fun c_36 => ?_)
      · exact absurd c_36 (by omega)
      · refine mJ_iconst (v := nI 0) hK dX6_addRule_39 (by decide) ?_
        refine mJ_iret hK dX6_addRule_40 rfl hZ (by decide) (by decide) ?_
        exact ⟨rfl, G, hR, hp⟩
  · exact absurd c_8 (nI_m1 (by omega))
