section
variable {K : mK} {μ : mM} {cells slots pc : Nat} {L : List (Option Value)} {S : List Value} {h : mH}
theorem mJ_widen {k n : Nat} (h1 : cells ≤ k) (h2 : slots ≤ n) (kk : mJ K k n pc L S h) : mJ K cells slots pc L S h := fun H locs ls hH hS hL => W.widen h1 h2 (kk H locs ls hH hS hL)
theorem mJ_less {L' : List (Option Value)} (hle : ∀ (i : Nat) (v : Value), L'[i]? = some (some v) → L[i]? = some (some v)) (kk : mJ K cells slots pc L' S h) : mJ K cells slots pc L S h := fun H locs ls hH hS hL => kk H locs ls hH hS (mLR.of hL (fun i v hi => (mLv_mem L 0 i v).mpr ⟨i, by omega, hle i v hi⟩))
theorem less9 {a b c d e f x y z : Option Value} : ∀ (i : Nat) (v : Value), [a, b, c, d, e, f, none, none, none][i]? = some (some v) → [a, b, c, d, e, f, x, y, z][i]? = some (some v) := by
  intro i v hi
  match i, hi with
  | 0, hi => exact hi
  | 1, hi => exact hi
  | 2, hi => exact hi
  | 3, hi => exact hi
  | 4, hi => exact hi
  | 5, hi => exact hi
  | 6, hi => simp at hi
  | 7, hi => simp at hi
  | 8, hi => simp at hi
  | n + 9, hi => simp at hi
theorem mJ_sld {b L9 : Nat} {xs : Nat → Int32} {i : Int32} (j : Nat) (hX : va_X b L9 xs (ks K) (ks K).heap) (hbl : b < (ks K).heap.size) (hbA : ¬ kA K b) (hK : mCx K μ) (hd : decode μ.2.1 pc = .ok (.iaload, 1)) (hi : i = nI j) (hj : j < L9) (hL9 : L9 < 2 ^ 31) (kk : mJ K cells slots (pc + 1) L (.int (xs j) :: S) h) : mJ K cells slots pc L (.int i :: .ref b :: S) h := by
  intro H locs ls hH hS hL
  subst hi
  refine va_sld hK.1 hK.2.1 hX hbl hbA hS (nI_in hj hL9) hd ?_
  rw [nI_clamp (by omega)]
  exact kk H locs ls hH hS hL
theorem mJ_slen {b L9 : Nat} {xs : Nat → Int32} (hX : va_X b L9 xs (ks K) (ks K).heap) (hbl : b < (ks K).heap.size) (hbA : ¬ kA K b) (hK : mCx K μ) (hd : decode μ.2.1 pc = .ok (.arraylength, 1)) (kk : mJ K cells slots (pc + 1) L (.int (nI L9) :: S) h) : mJ K cells slots pc L (.ref b :: S) h := fun H locs ls hH hS hL => va_slen hK.1 hK.2.1 hX hbl hbA hS hd (kk H locs ls hH hS hL)
theorem lgc_s {x : Int64} : lg_cmp x x = 0 := by
  unfold lg_cmp
  rw [if_neg (fun z : x > x => absurd z Int64.lt_irrefl), if_pos rfl]
end
section
set_option maxRecDepth 100000 in
set_option maxHeartbeats 4000000 in
theorem lw_c0 {K : mK} (hK : mCx K mL_law) (hNo : mNo (kD K) (kC K) (ks K)) {b Ls : Nat} {xs : Nat → Int32} (hX : va_X b Ls xs (ks K) (ks K).heap) (hbl : b < (ks K).heap.size) (hbA : ¬ kA K b) (hLs : Ls ≤ 1536) {ax ay : xAd} {o od N i : Nat} (A : LwA ax ay o od) {h : mH} (I : LwI ax ay o od N h) (hN : N < 100000) (hi : i + 3 ≤ Ls) {cells slots : Nat} (hc : cells + 2 ≤ 607087) (hs : slots + 12 ≤ 7274842) (kk : ∀ h', LwI ax ay o od (N + 1) h' → mJ K (cells + 2) (slots + 12) 1400 [some (.ref b), some (.ref (ax 0 0 0)), some (.ref (ay 30 0 0)), some (.ref o), some (.ref od), some (.int (nI i)), none, none, none] [] h') : mJ K cells slots 180 [some (.ref b), some (.ref (ax 0 0 0)), some (.ref (ay 30 0 0)), some (.ref o), some (.ref od), some (.int (nI i)), none, none, none] [] h := by
  obtain ⟨k, P, hk, hC, hP⟩ := bk_append (l := kl K) (D := kD K) (aC := kC K) A I hN (xs (i + 1))
  refine mJ_aload_n hK dL_law_180 rfl ?_
  refine mJ_aload_n hK dL_law_181 rfl ?_
  refine mJ_iload hK dL_law_182 rfl ?_
  refine mJ_iconst (v := nI 1) hK dL_law_184 (by decide) ?_
  refine mJ_iaddN hK dL_law_185 ?_
  refine mJ_sld (i + 1) hX hbl hbA hK dL_law_186 rfl (by omega) (by omega) ?_
  refine mJ_aload_n hK dL_law_187 rfl ?_
  refine mJ_callH hNo hK dL_law_188 lL_78 (by unfold mFit; decide) ⟨by show cells + 1 ≤ 607087; omega, by show slots + 6 ≤ 7274842; omega⟩ rfl rfl (Nat.le_of_ble_eq_true rfl) hC (fun r u1 hq => ?_)
  obtain ⟨rfl, hp⟩ := hq
  obtain ⟨⟨fs, hfs⟩, bv, Q, hM, hQ⟩ := hP u1 hp
  refine mJ_istore hK dL_law_191 (by decide) rfl ?_
  refine mJ_aload_n hK dL_law_193 rfl ?_
  refine mJ_aload_n hK dL_law_194 rfl ?_
  refine mJ_iload hK dL_law_195 rfl ?_
  refine mJ_iconst (v := nI 1) hK dL_law_197 (by decide) ?_
  refine mJ_iaddN hK dL_law_198 ?_
  refine mJ_sld (i + 1) hX hbl hbA hK dL_law_199 rfl (by omega) (by omega) ?_
  refine mJ_callV hK dL_law_200 lL_83 (by unfold mFit; decide) ⟨by show cells + 1 + 0 ≤ 607087; omega, by show slots + 6 + 0 ≤ 7274842; omega⟩ rfl rfl (Nat.le_of_ble_eq_true rfl) hfs ⟨_, _, rfl⟩ hM (fun r u2 hq => ?_)
  obtain ⟨rfl, hq⟩ := hq
  obtain ⟨⟨fs2, hfs2⟩, hT, ⟨w, hw, hwk⟩, hI9⟩ := hQ u2 hq
  refine mJ_istore hK dL_law_203 (by decide) rfl ?_
  refine mJ_aload_n hK dL_law_205 rfl ?_
  refine mJ_cVi hK dL_law_206 lL_84 (by unfold mFit; decide) ⟨by show cells + 1 + 0 + 0 ≤ 607087; omega, by show slots + 6 + 0 + 0 ≤ 7274842; omega⟩ hT rfl rfl (Nat.le_of_ble_eq_true rfl) hfs2 ⟨_, _, rfl⟩ (fun u3 e9 => ?_)
  subst e9
  refine mJ_iload hK dL_law_209 rfl ?_
  refine mJ_icmp_eq (tgt := 216) hK dL_law_211 (by decide) (fun _ => ?_) (fun z => absurd rfl z)
  refine mJ_iload hK dL_law_216 rfl ?_
  refine mJ_nif_ne (tgt := 233) hK dL_law_218 (by decide) (by omega) (fun _ => ?_) (fun k0 => ?_)
  · refine mJ_goto (tgt := 1400) hK dL_law_233 (by decide) ?_
    refine mJ_widen (k := cells + 2) (n := slots + 12) (by show cells + 1 + 0 + 0 ≤ _; omega) (by show slots + 6 + 0 + 0 ≤ _; omega) (mJ_less less9 (kk _ hI9))
  · refine mJ_aload_n hK dL_law_221 rfl ?_
    refine mJ_iconst (v := nI 0) hK dL_law_222 (by decide) ?_
    refine mJ_laldN 0 hK dL_law_223 hw rfl (by omega) (by decide) ?_
    refine mJ_iload hK dL_law_224 rfl ?_
    refine mJ_i2l hK dL_law_226 ?_
    refine mJ_lcmp hK dL_law_227 ?_
    refine mJ_if_eq (tgt := 233) hK dL_law_228 (by decide) (fun _ => ?_) (fun z => absurd (by rw [hwk k0]; exact lgc_s) z)
    refine mJ_goto (tgt := 1400) hK dL_law_233 (by decide) ?_
    refine mJ_widen (k := cells + 2) (n := slots + 12) (by show cells + 1 + 0 + 0 ≤ _; omega) (by show slots + 6 + 0 + 0 ≤ _; omega) (mJ_less less9 (kk _ hI9))

set_option maxRecDepth 100000 in
set_option maxHeartbeats 4000000 in
theorem lw_c1 {K : mK} (hK : mCx K mL_law) (hNo : mNo (kD K) (kC K) (ks K)) {b Ls : Nat} {xs : Nat → Int32} (hX : va_X b Ls xs (ks K) (ks K).heap) (hbl : b < (ks K).heap.size) (hbA : ¬ kA K b) (hLs : Ls ≤ 1536) {ax ay : xAd} {o od N i : Nat} (A : LwA ax ay o od) {h : mH} (I : LwI ax ay o od N h) (hN : N < 100000) (hi : i + 3 ≤ Ls) {cells slots : Nat} (hc : cells + 2 ≤ 607087) (hs : slots + 12 ≤ 7274842) (kk : ∀ h', LwI ax ay o od (N + 1) h' → mJ K (cells + 2) (slots + 12) 1400 [some (.ref b), some (.ref (ax 0 0 0)), some (.ref (ay 30 0 0)), some (.ref o), some (.ref od), some (.int (nI i)), none, none, none] [] h') : mJ K cells slots 236 [some (.ref b), some (.ref (ax 0 0 0)), some (.ref (ay 30 0 0)), some (.ref o), some (.ref od), some (.int (nI i)), none, none, none] [] h := by
  obtain ⟨v, ⟨fs, hfs⟩, P, hC, hP⟩ := bk_clearBuffer (l := kl K) (D := kD K) (aC := kC K) A I hN
  refine mJ_aload_n hK dL_law_236 rfl ?_
  refine mJ_callV hK dL_law_237 lL_87 (by unfold mFit; decide) ⟨by show cells + 0 ≤ 607087; omega, by show slots + 0 ≤ 7274842; omega⟩ rfl rfl (Nat.le_of_ble_eq_true rfl) hfs ⟨_, _, rfl⟩ hC (fun r u1 hq => ?_)
  obtain ⟨rfl, hp⟩ := hq
  obtain ⟨⟨fs2, hfs2⟩, Q, hM, hQ⟩ := hP u1 hp
  refine mJ_aload_n hK dL_law_240 rfl ?_
  refine mJ_callV hK dL_law_241 lL_90 (by unfold mFit; decide) ⟨by show cells + 0 + 0 ≤ 607087; omega, by show slots + 0 + 0 ≤ 7274842; omega⟩ rfl rfl (Nat.le_of_ble_eq_true rfl) hfs2 ⟨_, _, rfl⟩ hM (fun r u2 hq => ?_)
  obtain ⟨rfl, hq⟩ := hq
  have hI9 := hQ u2 hq
  refine mJ_icmp_eq (tgt := 1400) hK dL_law_244 (by decide) (fun _ => ?_) (fun z => absurd rfl z)
  refine mJ_widen (k := cells + 2) (n := slots + 12) (by show cells + 0 + 0 ≤ _; omega) (by show slots + 0 + 0 ≤ _; omega) (mJ_less less9 (kk _ hI9))

set_option maxRecDepth 100000 in
set_option maxHeartbeats 4000000 in
theorem lw_c2 {K : mK} (hK : mCx K mL_law) (hNo : mNo (kD K) (kC K) (ks K)) {b Ls : Nat} {xs : Nat → Int32} (hX : va_X b Ls xs (ks K) (ks K).heap) (hbl : b < (ks K).heap.size) (hbA : ¬ kA K b) (hLs : Ls ≤ 1536) {ax ay : xAd} {o od N i : Nat} (A : LwA ax ay o od) {h : mH} (I : LwI ax ay o od N h) (hN : N < 100000) (hi : i + 3 ≤ Ls) {cells slots : Nat} (hc : cells + 2 ≤ 607087) (hs : slots + 12 ≤ 7274842) (kk : ∀ h', LwI ax ay o od (N + 1) h' → mJ K (cells + 2) (slots + 12) 1400 [some (.ref b), some (.ref (ax 0 0 0)), some (.ref (ay 30 0 0)), some (.ref o), some (.ref od), some (.int (nI i)), none, none, none] [] h') : mJ K cells slots 249 [some (.ref b), some (.ref (ax 0 0 0)), some (.ref (ay 30 0 0)), some (.ref o), some (.ref od), some (.int (nI i)), none, none, none] [] h := by
  obtain ⟨v, ⟨fs, hfs⟩, P, hC, hP⟩ := bk_firstError (l := kl K) (D := kD K) (aC := kC K) A I hN
  refine mJ_aload_n hK dL_law_249 rfl ?_
  refine mJ_callV hK dL_law_250 lL_91 (by unfold mFit; decide) ⟨by show cells + 0 ≤ 607087; omega, by show slots + 0 ≤ 7274842; omega⟩ rfl rfl (Nat.le_of_ble_eq_true rfl) hfs ⟨_, _, rfl⟩ hC (fun r u1 hq => ?_)
  obtain ⟨rfl, hp⟩ := hq
  obtain ⟨⟨fs2, hfs2⟩, Q, hM, hQ⟩ := hP u1 hp
  refine mJ_aload_n hK dL_law_253 rfl ?_
  refine mJ_callV hK dL_law_254 lL_94 (by unfold mFit; decide) ⟨by show cells + 0 + 0 ≤ 607087; omega, by show slots + 0 + 0 ≤ 7274842; omega⟩ rfl rfl (Nat.le_of_ble_eq_true rfl) hfs2 ⟨_, _, rfl⟩ hM (fun r u2 hq => ?_)
  obtain ⟨rfl, hq⟩ := hq
  have hI9 := hQ u2 hq
  refine mJ_icmp_eq (tgt := 1400) hK dL_law_257 (by decide) (fun _ => ?_) (fun z => absurd rfl z)
  refine mJ_widen (k := cells + 2) (n := slots + 12) (by show cells + 0 + 0 ≤ _; omega) (by show slots + 0 + 0 ≤ _; omega) (mJ_less less9 (kk _ hI9))

set_option maxRecDepth 100000 in
set_option maxHeartbeats 4000000 in
theorem lw_c3 {K : mK} (hK : mCx K mL_law) (hNo : mNo (kD K) (kC K) (ks K)) {b Ls : Nat} {xs : Nat → Int32} (hX : va_X b Ls xs (ks K) (ks K).heap) (hbl : b < (ks K).heap.size) (hbA : ¬ kA K b) (hLs : Ls ≤ 1536) {ax ay : xAd} {o od N i : Nat} (A : LwA ax ay o od) {h : mH} (I : LwI ax ay o od N h) (hN : N < 100000) (hi : i + 3 ≤ Ls) {cells slots : Nat} (hc : cells + 2 ≤ 607087) (hs : slots + 12 ≤ 7274842) (kk : ∀ h', LwI ax ay o od (N + 1) h' → mJ K (cells + 2) (slots + 12) 1400 [some (.ref b), some (.ref (ax 0 0 0)), some (.ref (ay 30 0 0)), some (.ref o), some (.ref od), some (.int (nI i)), none, none, none] [] h') : mJ K cells slots 262 [some (.ref b), some (.ref (ax 0 0 0)), some (.ref (ay 30 0 0)), some (.ref o), some (.ref od), some (.int (nI i)), none, none, none] [] h := by
  obtain ⟨k, P, hk, hC, hP⟩ := bk_addRule (l := kl K) (D := kD K) (aC := kC K) A I hN 
  refine mJ_aload_n hK dL_law_262 rfl ?_
  refine mJ_aload_n hK dL_law_263 rfl ?_
  refine mJ_callH hNo hK dL_law_264 lL_95 (by unfold mFit; decide) ⟨by show cells + 1 ≤ 607087; omega, by show slots + 6 ≤ 7274842; omega⟩ rfl rfl (Nat.le_of_ble_eq_true rfl) hC (fun r u1 hq => ?_)
  obtain ⟨rfl, hp⟩ := hq
  obtain ⟨⟨fs, hfs⟩, bv, Q, hM, hQ⟩ := hP u1 hp
  refine mJ_istore hK dL_law_267 (by decide) rfl ?_
  refine mJ_aload_n hK dL_law_269 rfl ?_
  refine mJ_callV hK dL_law_270 lL_98 (by unfold mFit; decide) ⟨by show cells + 1 + 0 ≤ 607087; omega, by show slots + 6 + 0 ≤ 7274842; omega⟩ rfl rfl (Nat.le_of_ble_eq_true rfl) hfs ⟨_, _, rfl⟩ hM (fun r u2 hq => ?_)
  obtain ⟨rfl, hq⟩ := hq
  obtain ⟨⟨fs2, hfs2⟩, hT, ⟨w, hw, hwk⟩, hI9⟩ := hQ u2 hq
  refine mJ_istore hK dL_law_273 (by decide) rfl ?_
  refine mJ_aload_n hK dL_law_275 rfl ?_
  refine mJ_cVi hK dL_law_276 lL_84 (by unfold mFit; decide) ⟨by show cells + 1 + 0 + 0 ≤ 607087; omega, by show slots + 6 + 0 + 0 ≤ 7274842; omega⟩ hT rfl rfl (Nat.le_of_ble_eq_true rfl) hfs2 ⟨_, _, rfl⟩ (fun u3 e9 => ?_)
  subst e9
  refine mJ_iload hK dL_law_279 rfl ?_
  refine mJ_icmp_eq (tgt := 286) hK dL_law_281 (by decide) (fun _ => ?_) (fun z => absurd rfl z)
  refine mJ_iload hK dL_law_286 rfl ?_
  refine mJ_nif_ne (tgt := 303) hK dL_law_288 (by decide) (by omega) (fun _ => ?_) (fun k0 => ?_)
  · refine mJ_goto (tgt := 1400) hK dL_law_303 (by decide) ?_
    refine mJ_widen (k := cells + 2) (n := slots + 12) (by show cells + 1 + 0 + 0 ≤ _; omega) (by show slots + 6 + 0 + 0 ≤ _; omega) (mJ_less less9 (kk _ hI9))
  · refine mJ_aload_n hK dL_law_291 rfl ?_
    refine mJ_iconst (v := nI 0) hK dL_law_292 (by decide) ?_
    refine mJ_laldN 0 hK dL_law_293 hw rfl (by omega) (by decide) ?_
    refine mJ_iload hK dL_law_294 rfl ?_
    refine mJ_i2l hK dL_law_296 ?_
    refine mJ_lcmp hK dL_law_297 ?_
    refine mJ_if_eq (tgt := 303) hK dL_law_298 (by decide) (fun _ => ?_) (fun z => absurd (by rw [hwk k0]; exact lgc_s) z)
    refine mJ_goto (tgt := 1400) hK dL_law_303 (by decide) ?_
    refine mJ_widen (k := cells + 2) (n := slots + 12) (by show cells + 1 + 0 + 0 ≤ _; omega) (by show slots + 6 + 0 + 0 ≤ _; omega) (mJ_less less9 (kk _ hI9))

set_option maxRecDepth 100000 in
set_option maxHeartbeats 4000000 in
theorem lw_c4 {K : mK} (hK : mCx K mL_law) (hNo : mNo (kD K) (kC K) (ks K)) {b Ls : Nat} {xs : Nat → Int32} (hX : va_X b Ls xs (ks K) (ks K).heap) (hbl : b < (ks K).heap.size) (hbA : ¬ kA K b) (hLs : Ls ≤ 1536) {ax ay : xAd} {o od N i : Nat} (A : LwA ax ay o od) {h : mH} (I : LwI ax ay o od N h) (hN : N < 100000) (hi : i + 3 ≤ Ls) {cells slots : Nat} (hc : cells + 2 ≤ 607087) (hs : slots + 12 ≤ 7274842) (kk : ∀ h', LwI ax ay o od (N + 1) h' → mJ K (cells + 2) (slots + 12) 1400 [some (.ref b), some (.ref (ax 0 0 0)), some (.ref (ay 30 0 0)), some (.ref o), some (.ref od), some (.int (nI i)), none, none, none] [] h') : mJ K cells slots 306 [some (.ref b), some (.ref (ax 0 0 0)), some (.ref (ay 30 0 0)), some (.ref o), some (.ref od), some (.int (nI i)), none, none, none] [] h := by
  obtain ⟨k, P, hk, hC, hP⟩ := bk_removeRule (l := kl K) (D := kD K) (aC := kC K) A I hN (xs (i + 1))
  refine mJ_aload_n hK dL_law_306 rfl ?_
  refine mJ_aload_n hK dL_law_307 rfl ?_
  refine mJ_iload hK dL_law_308 rfl ?_
  refine mJ_iconst (v := nI 1) hK dL_law_310 (by decide) ?_
  refine mJ_iaddN hK dL_law_311 ?_
  refine mJ_sld (i + 1) hX hbl hbA hK dL_law_312 rfl (by omega) (by omega) ?_
  refine mJ_aload_n hK dL_law_313 rfl ?_
  refine mJ_callH hNo hK dL_law_314 lL_99 (by unfold mFit; decide) ⟨by show cells + 1 ≤ 607087; omega, by show slots + 6 ≤ 7274842; omega⟩ rfl rfl (Nat.le_of_ble_eq_true rfl) hC (fun r u1 hq => ?_)
  obtain ⟨rfl, hp⟩ := hq
  obtain ⟨⟨fs, hfs⟩, bv, Q, hM, hQ⟩ := hP u1 hp
  refine mJ_istore hK dL_law_317 (by decide) rfl ?_
  refine mJ_aload_n hK dL_law_319 rfl ?_
  refine mJ_aload_n hK dL_law_320 rfl ?_
  refine mJ_iload hK dL_law_321 rfl ?_
  refine mJ_iconst (v := nI 1) hK dL_law_323 (by decide) ?_
  refine mJ_iaddN hK dL_law_324 ?_
  refine mJ_sld (i + 1) hX hbl hbA hK dL_law_325 rfl (by omega) (by omega) ?_
  refine mJ_callV hK dL_law_326 lL_101 (by unfold mFit; decide) ⟨by show cells + 1 + 0 ≤ 607087; omega, by show slots + 6 + 0 ≤ 7274842; omega⟩ rfl rfl (Nat.le_of_ble_eq_true rfl) hfs ⟨_, _, rfl⟩ hM (fun r u2 hq => ?_)
  obtain ⟨rfl, hq⟩ := hq
  obtain ⟨⟨fs2, hfs2⟩, hT, ⟨w, hw, hwk⟩, hI9⟩ := hQ u2 hq
  refine mJ_istore hK dL_law_329 (by decide) rfl ?_
  refine mJ_aload_n hK dL_law_331 rfl ?_
  refine mJ_cVi hK dL_law_332 lL_84 (by unfold mFit; decide) ⟨by show cells + 1 + 0 + 0 ≤ 607087; omega, by show slots + 6 + 0 + 0 ≤ 7274842; omega⟩ hT rfl rfl (Nat.le_of_ble_eq_true rfl) hfs2 ⟨_, _, rfl⟩ (fun u3 e9 => ?_)
  subst e9
  refine mJ_iload hK dL_law_335 rfl ?_
  refine mJ_icmp_eq (tgt := 342) hK dL_law_337 (by decide) (fun _ => ?_) (fun z => absurd rfl z)
  refine mJ_iload hK dL_law_342 rfl ?_
  refine mJ_nif_ne (tgt := 359) hK dL_law_344 (by decide) (by omega) (fun _ => ?_) (fun k0 => ?_)
  · refine mJ_goto (tgt := 1400) hK dL_law_359 (by decide) ?_
    refine mJ_widen (k := cells + 2) (n := slots + 12) (by show cells + 1 + 0 + 0 ≤ _; omega) (by show slots + 6 + 0 + 0 ≤ _; omega) (mJ_less less9 (kk _ hI9))
  · refine mJ_aload_n hK dL_law_347 rfl ?_
    refine mJ_iconst (v := nI 0) hK dL_law_348 (by decide) ?_
    refine mJ_laldN 0 hK dL_law_349 hw rfl (by omega) (by decide) ?_
    refine mJ_iload hK dL_law_350 rfl ?_
    refine mJ_i2l hK dL_law_352 ?_
    refine mJ_lcmp hK dL_law_353 ?_
    refine mJ_if_eq (tgt := 359) hK dL_law_354 (by decide) (fun _ => ?_) (fun z => absurd (by rw [hwk k0]; exact lgc_s) z)
    refine mJ_goto (tgt := 1400) hK dL_law_359 (by decide) ?_
    refine mJ_widen (k := cells + 2) (n := slots + 12) (by show cells + 1 + 0 + 0 ≤ _; omega) (by show slots + 6 + 0 + 0 ≤ _; omega) (mJ_less less9 (kk _ hI9))

set_option maxRecDepth 100000 in
set_option maxHeartbeats 4000000 in
theorem lw_c5 {K : mK} (hK : mCx K mL_law) (hNo : mNo (kD K) (kC K) (ks K)) {b Ls : Nat} {xs : Nat → Int32} (hX : va_X b Ls xs (ks K) (ks K).heap) (hbl : b < (ks K).heap.size) (hbA : ¬ kA K b) (hLs : Ls ≤ 1536) {ax ay : xAd} {o od N i : Nat} (A : LwA ax ay o od) {h : mH} (I : LwI ax ay o od N h) (hN : N < 100000) (hi : i + 3 ≤ Ls) {cells slots : Nat} (hc : cells + 2 ≤ 607087) (hs : slots + 12 ≤ 7274842) (kk : ∀ h', LwI ax ay o od (N + 1) h' → mJ K (cells + 2) (slots + 12) 1400 [some (.ref b), some (.ref (ax 0 0 0)), some (.ref (ay 30 0 0)), some (.ref o), some (.ref od), some (.int (nI i)), none, none, none] [] h') : mJ K cells slots 362 [some (.ref b), some (.ref (ax 0 0 0)), some (.ref (ay 30 0 0)), some (.ref o), some (.ref od), some (.int (nI i)), none, none, none] [] h := by
  obtain ⟨v, ⟨fs, hfs⟩, P, hC, hP⟩ := bk_ruleCount (l := kl K) (D := kD K) (aC := kC K) A I hN
  refine mJ_aload_n hK dL_law_362 rfl ?_
  refine mJ_callV hK dL_law_363 lL_102 (by unfold mFit; decide) ⟨by show cells + 0 ≤ 607087; omega, by show slots + 0 ≤ 7274842; omega⟩ rfl rfl (Nat.le_of_ble_eq_true rfl) hfs ⟨_, _, rfl⟩ hC (fun r u1 hq => ?_)
  obtain ⟨rfl, hp⟩ := hq
  obtain ⟨⟨fs2, hfs2⟩, Q, hM, hQ⟩ := hP u1 hp
  refine mJ_aload_n hK dL_law_366 rfl ?_
  refine mJ_callV hK dL_law_367 lL_105 (by unfold mFit; decide) ⟨by show cells + 0 + 0 ≤ 607087; omega, by show slots + 0 + 0 ≤ 7274842; omega⟩ rfl rfl (Nat.le_of_ble_eq_true rfl) hfs2 ⟨_, _, rfl⟩ hM (fun r u2 hq => ?_)
  obtain ⟨rfl, hq⟩ := hq
  have hI9 := hQ u2 hq
  refine mJ_icmp_eq (tgt := 1400) hK dL_law_370 (by decide) (fun _ => ?_) (fun z => absurd rfl z)
  refine mJ_widen (k := cells + 2) (n := slots + 12) (by show cells + 0 + 0 ≤ _; omega) (by show slots + 0 + 0 ≤ _; omega) (mJ_less less9 (kk _ hI9))

set_option maxRecDepth 100000 in
set_option maxHeartbeats 4000000 in
theorem lw_c6 {K : mK} (hK : mCx K mL_law) (hNo : mNo (kD K) (kC K) (ks K)) {b Ls : Nat} {xs : Nat → Int32} (hX : va_X b Ls xs (ks K) (ks K).heap) (hbl : b < (ks K).heap.size) (hbA : ¬ kA K b) (hLs : Ls ≤ 1536) {ax ay : xAd} {o od N i : Nat} (A : LwA ax ay o od) {h : mH} (I : LwI ax ay o od N h) (hN : N < 100000) (hi : i + 3 ≤ Ls) {cells slots : Nat} (hc : cells + 2 ≤ 607087) (hs : slots + 12 ≤ 7274842) (kk : ∀ h', LwI ax ay o od (N + 1) h' → mJ K (cells + 2) (slots + 12) 1400 [some (.ref b), some (.ref (ax 0 0 0)), some (.ref (ay 30 0 0)), some (.ref o), some (.ref od), some (.int (nI i)), none, none, none] [] h') : mJ K cells slots 375 [some (.ref b), some (.ref (ax 0 0 0)), some (.ref (ay 30 0 0)), some (.ref o), some (.ref od), some (.int (nI i)), none, none, none] [] h := by
  obtain ⟨k, P, hk, hC, hP⟩ := bk_patternOf (l := kl K) (D := kD K) (aC := kC K) A I hN (xs (i + 1))
  refine mJ_aload_n hK dL_law_375 rfl ?_
  refine mJ_aload_n hK dL_law_376 rfl ?_
  refine mJ_iload hK dL_law_377 rfl ?_
  refine mJ_iconst (v := nI 1) hK dL_law_379 (by decide) ?_
  refine mJ_iaddN hK dL_law_380 ?_
  refine mJ_sld (i + 1) hX hbl hbA hK dL_law_381 rfl (by omega) (by omega) ?_
  refine mJ_aload_n hK dL_law_382 rfl ?_
  refine mJ_callH hNo hK dL_law_383 lL_106 (by unfold mFit; decide) ⟨by show cells + 1 ≤ 607087; omega, by show slots + 6 ≤ 7274842; omega⟩ rfl rfl (Nat.le_of_ble_eq_true rfl) hC (fun r u1 hq => ?_)
  obtain ⟨rfl, hp⟩ := hq
  obtain ⟨⟨fs, hfs⟩, bv, Q, hM, hQ⟩ := hP u1 hp
  refine mJ_istore hK dL_law_386 (by decide) rfl ?_
  refine mJ_aload_n hK dL_law_388 rfl ?_
  refine mJ_aload_n hK dL_law_389 rfl ?_
  refine mJ_iload hK dL_law_390 rfl ?_
  refine mJ_iconst (v := nI 1) hK dL_law_392 (by decide) ?_
  refine mJ_iaddN hK dL_law_393 ?_
  refine mJ_sld (i + 1) hX hbl hbA hK dL_law_394 rfl (by omega) (by omega) ?_
  refine mJ_callV hK dL_law_395 lL_108 (by unfold mFit; decide) ⟨by show cells + 1 + 0 ≤ 607087; omega, by show slots + 6 + 0 ≤ 7274842; omega⟩ rfl rfl (Nat.le_of_ble_eq_true rfl) hfs ⟨_, _, rfl⟩ hM (fun r u2 hq => ?_)
  obtain ⟨rfl, hq⟩ := hq
  obtain ⟨⟨fs2, hfs2⟩, hT, ⟨w, hw, hwk⟩, hI9⟩ := hQ u2 hq
  refine mJ_istore hK dL_law_398 (by decide) rfl ?_
  refine mJ_aload_n hK dL_law_400 rfl ?_
  refine mJ_cVi hK dL_law_401 lL_84 (by unfold mFit; decide) ⟨by show cells + 1 + 0 + 0 ≤ 607087; omega, by show slots + 6 + 0 + 0 ≤ 7274842; omega⟩ hT rfl rfl (Nat.le_of_ble_eq_true rfl) hfs2 ⟨_, _, rfl⟩ (fun u3 e9 => ?_)
  subst e9
  refine mJ_iload hK dL_law_404 rfl ?_
  refine mJ_icmp_eq (tgt := 411) hK dL_law_406 (by decide) (fun _ => ?_) (fun z => absurd rfl z)
  refine mJ_iload hK dL_law_411 rfl ?_
  refine mJ_nif_ne (tgt := 428) hK dL_law_413 (by decide) (by omega) (fun _ => ?_) (fun k0 => ?_)
  · refine mJ_goto (tgt := 1400) hK dL_law_428 (by decide) ?_
    refine mJ_widen (k := cells + 2) (n := slots + 12) (by show cells + 1 + 0 + 0 ≤ _; omega) (by show slots + 6 + 0 + 0 ≤ _; omega) (mJ_less less9 (kk _ hI9))
  · refine mJ_aload_n hK dL_law_416 rfl ?_
    refine mJ_iconst (v := nI 0) hK dL_law_417 (by decide) ?_
    refine mJ_laldN 0 hK dL_law_418 hw rfl (by omega) (by decide) ?_
    refine mJ_iload hK dL_law_419 rfl ?_
    refine mJ_i2l hK dL_law_421 ?_
    refine mJ_lcmp hK dL_law_422 ?_
    refine mJ_if_eq (tgt := 428) hK dL_law_423 (by decide) (fun _ => ?_) (fun z => absurd (by rw [hwk k0]; exact lgc_s) z)
    refine mJ_goto (tgt := 1400) hK dL_law_428 (by decide) ?_
    refine mJ_widen (k := cells + 2) (n := slots + 12) (by show cells + 1 + 0 + 0 ≤ _; omega) (by show slots + 6 + 0 + 0 ≤ _; omega) (mJ_less less9 (kk _ hI9))

set_option maxRecDepth 100000 in
set_option maxHeartbeats 4000000 in
theorem lw_c7 {K : mK} (hK : mCx K mL_law) (hNo : mNo (kD K) (kC K) (ks K)) {b Ls : Nat} {xs : Nat → Int32} (hX : va_X b Ls xs (ks K) (ks K).heap) (hbl : b < (ks K).heap.size) (hbA : ¬ kA K b) (hLs : Ls ≤ 1536) {ax ay : xAd} {o od N i : Nat} (A : LwA ax ay o od) {h : mH} (I : LwI ax ay o od N h) (hN : N < 100000) (hi : i + 3 ≤ Ls) {cells slots : Nat} (hc : cells + 2 ≤ 607087) (hs : slots + 12 ≤ 7274842) (kk : ∀ h', LwI ax ay o od (N + 1) h' → mJ K (cells + 2) (slots + 12) 1400 [some (.ref b), some (.ref (ax 0 0 0)), some (.ref (ay 30 0 0)), some (.ref o), some (.ref od), some (.int (nI i)), none, none, none] [] h') : mJ K cells slots 431 [some (.ref b), some (.ref (ax 0 0 0)), some (.ref (ay 30 0 0)), some (.ref o), some (.ref od), some (.int (nI i)), none, none, none] [] h := by
  obtain ⟨k, P, hk, hC, hP⟩ := bk_setPolicy (l := kl K) (D := kD K) (aC := kC K) A I hN (xs (i + 1))
  refine mJ_aload_n hK dL_law_431 rfl ?_
  refine mJ_aload_n hK dL_law_432 rfl ?_
  refine mJ_iload hK dL_law_433 rfl ?_
  refine mJ_iconst (v := nI 1) hK dL_law_435 (by decide) ?_
  refine mJ_iaddN hK dL_law_436 ?_
  refine mJ_sld (i + 1) hX hbl hbA hK dL_law_437 rfl (by omega) (by omega) ?_
  refine mJ_aload_n hK dL_law_438 rfl ?_
  refine mJ_callH hNo hK dL_law_439 lL_109 (by unfold mFit; decide) ⟨by show cells + 1 ≤ 607087; omega, by show slots + 6 ≤ 7274842; omega⟩ rfl rfl (Nat.le_of_ble_eq_true rfl) hC (fun r u1 hq => ?_)
  obtain ⟨rfl, hp⟩ := hq
  obtain ⟨⟨fs, hfs⟩, bv, Q, hM, hQ⟩ := hP u1 hp
  refine mJ_istore hK dL_law_442 (by decide) rfl ?_
  refine mJ_aload_n hK dL_law_444 rfl ?_
  refine mJ_aload_n hK dL_law_445 rfl ?_
  refine mJ_iload hK dL_law_446 rfl ?_
  refine mJ_iconst (v := nI 1) hK dL_law_448 (by decide) ?_
  refine mJ_iaddN hK dL_law_449 ?_
  refine mJ_sld (i + 1) hX hbl hbA hK dL_law_450 rfl (by omega) (by omega) ?_
  refine mJ_callV hK dL_law_451 lL_111 (by unfold mFit; decide) ⟨by show cells + 1 + 0 ≤ 607087; omega, by show slots + 6 + 0 ≤ 7274842; omega⟩ rfl rfl (Nat.le_of_ble_eq_true rfl) hfs ⟨_, _, rfl⟩ hM (fun r u2 hq => ?_)
  obtain ⟨rfl, hq⟩ := hq
  obtain ⟨⟨fs2, hfs2⟩, hT, ⟨w, hw, hwk⟩, hI9⟩ := hQ u2 hq
  refine mJ_istore hK dL_law_454 (by decide) rfl ?_
  refine mJ_aload_n hK dL_law_456 rfl ?_
  refine mJ_cVi hK dL_law_457 lL_84 (by unfold mFit; decide) ⟨by show cells + 1 + 0 + 0 ≤ 607087; omega, by show slots + 6 + 0 + 0 ≤ 7274842; omega⟩ hT rfl rfl (Nat.le_of_ble_eq_true rfl) hfs2 ⟨_, _, rfl⟩ (fun u3 e9 => ?_)
  subst e9
  refine mJ_iload hK dL_law_460 rfl ?_
  refine mJ_icmp_eq (tgt := 467) hK dL_law_462 (by decide) (fun _ => ?_) (fun z => absurd rfl z)
  refine mJ_iload hK dL_law_467 rfl ?_
  refine mJ_nif_ne (tgt := 484) hK dL_law_469 (by decide) (by omega) (fun _ => ?_) (fun k0 => ?_)
  · refine mJ_goto (tgt := 1400) hK dL_law_484 (by decide) ?_
    refine mJ_widen (k := cells + 2) (n := slots + 12) (by show cells + 1 + 0 + 0 ≤ _; omega) (by show slots + 6 + 0 + 0 ≤ _; omega) (mJ_less less9 (kk _ hI9))
  · refine mJ_aload_n hK dL_law_472 rfl ?_
    refine mJ_iconst (v := nI 0) hK dL_law_473 (by decide) ?_
    refine mJ_laldN 0 hK dL_law_474 hw rfl (by omega) (by decide) ?_
    refine mJ_iload hK dL_law_475 rfl ?_
    refine mJ_i2l hK dL_law_477 ?_
    refine mJ_lcmp hK dL_law_478 ?_
    refine mJ_if_eq (tgt := 484) hK dL_law_479 (by decide) (fun _ => ?_) (fun z => absurd (by rw [hwk k0]; exact lgc_s) z)
    refine mJ_goto (tgt := 1400) hK dL_law_484 (by decide) ?_
    refine mJ_widen (k := cells + 2) (n := slots + 12) (by show cells + 1 + 0 + 0 ≤ _; omega) (by show slots + 6 + 0 + 0 ≤ _; omega) (mJ_less less9 (kk _ hI9))

set_option maxRecDepth 100000 in
set_option maxHeartbeats 4000000 in
theorem lw_c8 {K : mK} (hK : mCx K mL_law) (hNo : mNo (kD K) (kC K) (ks K)) {b Ls : Nat} {xs : Nat → Int32} (hX : va_X b Ls xs (ks K) (ks K).heap) (hbl : b < (ks K).heap.size) (hbA : ¬ kA K b) (hLs : Ls ≤ 1536) {ax ay : xAd} {o od N i : Nat} (A : LwA ax ay o od) {h : mH} (I : LwI ax ay o od N h) (hN : N < 100000) (hi : i + 3 ≤ Ls) {cells slots : Nat} (hc : cells + 2 ≤ 607087) (hs : slots + 12 ≤ 7274842) (kk : ∀ h', LwI ax ay o od (N + 1) h' → mJ K (cells + 2) (slots + 12) 1400 [some (.ref b), some (.ref (ax 0 0 0)), some (.ref (ay 30 0 0)), some (.ref o), some (.ref od), some (.int (nI i)), none, none, none] [] h') : mJ K cells slots 487 [some (.ref b), some (.ref (ax 0 0 0)), some (.ref (ay 30 0 0)), some (.ref o), some (.ref od), some (.int (nI i)), none, none, none] [] h := by
  obtain ⟨k, P, hk, hC, hP⟩ := bk_send (l := kl K) (D := kD K) (aC := kC K) A I hN (xs (i + 1)) (xs (i + 2))
  refine mJ_aload_n hK dL_law_487 rfl ?_
  refine mJ_aload_n hK dL_law_488 rfl ?_
  refine mJ_iload hK dL_law_489 rfl ?_
  refine mJ_iconst (v := nI 1) hK dL_law_491 (by decide) ?_
  refine mJ_iaddN hK dL_law_492 ?_
  refine mJ_sld (i + 1) hX hbl hbA hK dL_law_493 rfl (by omega) (by omega) ?_
  refine mJ_aload_n hK dL_law_494 rfl ?_
  refine mJ_iload hK dL_law_495 rfl ?_
  refine mJ_iconst (v := nI 2) hK dL_law_497 (by decide) ?_
  refine mJ_iaddN hK dL_law_498 ?_
  refine mJ_sld (i + 2) hX hbl hbA hK dL_law_499 rfl (by omega) (by omega) ?_
  refine mJ_aload_n hK dL_law_500 rfl ?_
  refine mJ_callH hNo hK dL_law_501 lL_112 (by unfold mFit; decide) ⟨by show cells + 2 ≤ 607087; omega, by show slots + 12 ≤ 7274842; omega⟩ rfl rfl (Nat.le_of_ble_eq_true rfl) hC (fun r u1 hq => ?_)
  obtain ⟨rfl, hp⟩ := hq
  obtain ⟨⟨fs, hfs⟩, bv, Q, hM, hQ⟩ := hP u1 hp
  refine mJ_istore hK dL_law_504 (by decide) rfl ?_
  refine mJ_aload_n hK dL_law_506 rfl ?_
  refine mJ_aload_n hK dL_law_507 rfl ?_
  refine mJ_iload hK dL_law_508 rfl ?_
  refine mJ_iconst (v := nI 1) hK dL_law_510 (by decide) ?_
  refine mJ_iaddN hK dL_law_511 ?_
  refine mJ_sld (i + 1) hX hbl hbA hK dL_law_512 rfl (by omega) (by omega) ?_
  refine mJ_aload_n hK dL_law_513 rfl ?_
  refine mJ_iload hK dL_law_514 rfl ?_
  refine mJ_iconst (v := nI 2) hK dL_law_516 (by decide) ?_
  refine mJ_iaddN hK dL_law_517 ?_
  refine mJ_sld (i + 2) hX hbl hbA hK dL_law_518 rfl (by omega) (by omega) ?_
  refine mJ_callV hK dL_law_519 lL_115 (by unfold mFit; decide) ⟨by show cells + 2 + 0 ≤ 607087; omega, by show slots + 12 + 0 ≤ 7274842; omega⟩ rfl rfl (Nat.le_of_ble_eq_true rfl) hfs ⟨_, _, rfl⟩ hM (fun r u2 hq => ?_)
  obtain ⟨rfl, hq⟩ := hq
  obtain ⟨⟨fs2, hfs2⟩, hT, ⟨w, hw, hwk⟩, hI9⟩ := hQ u2 hq
  refine mJ_istore hK dL_law_522 (by decide) rfl ?_
  refine mJ_aload_n hK dL_law_524 rfl ?_
  refine mJ_cVi hK dL_law_525 lL_84 (by unfold mFit; decide) ⟨by show cells + 2 + 0 + 0 ≤ 607087; omega, by show slots + 12 + 0 + 0 ≤ 7274842; omega⟩ hT rfl rfl (Nat.le_of_ble_eq_true rfl) hfs2 ⟨_, _, rfl⟩ (fun u3 e9 => ?_)
  subst e9
  refine mJ_iload hK dL_law_528 rfl ?_
  refine mJ_icmp_eq (tgt := 535) hK dL_law_530 (by decide) (fun _ => ?_) (fun z => absurd rfl z)
  refine mJ_iload hK dL_law_535 rfl ?_
  refine mJ_nif_ne (tgt := 552) hK dL_law_537 (by decide) (by omega) (fun _ => ?_) (fun k0 => ?_)
  · refine mJ_goto (tgt := 1400) hK dL_law_552 (by decide) ?_
    refine mJ_widen (k := cells + 2) (n := slots + 12) (by show cells + 2 + 0 + 0 ≤ _; omega) (by show slots + 12 + 0 + 0 ≤ _; omega) (mJ_less less9 (kk _ hI9))
  · refine mJ_aload_n hK dL_law_540 rfl ?_
    refine mJ_iconst (v := nI 0) hK dL_law_541 (by decide) ?_
    refine mJ_laldN 0 hK dL_law_542 hw rfl (by omega) (by decide) ?_
    refine mJ_iload hK dL_law_543 rfl ?_
    refine mJ_i2l hK dL_law_545 ?_
    refine mJ_lcmp hK dL_law_546 ?_
    refine mJ_if_eq (tgt := 552) hK dL_law_547 (by decide) (fun _ => ?_) (fun z => absurd (by rw [hwk k0]; exact lgc_s) z)
    refine mJ_goto (tgt := 1400) hK dL_law_552 (by decide) ?_
    refine mJ_widen (k := cells + 2) (n := slots + 12) (by show cells + 2 + 0 + 0 ≤ _; omega) (by show slots + 12 + 0 + 0 ≤ _; omega) (mJ_less less9 (kk _ hI9))

set_option maxRecDepth 100000 in
set_option maxHeartbeats 4000000 in
theorem lw_c9 {K : mK} (hK : mCx K mL_law) (hNo : mNo (kD K) (kC K) (ks K)) {b Ls : Nat} {xs : Nat → Int32} (hX : va_X b Ls xs (ks K) (ks K).heap) (hbl : b < (ks K).heap.size) (hbA : ¬ kA K b) (hLs : Ls ≤ 1536) {ax ay : xAd} {o od N i : Nat} (A : LwA ax ay o od) {h : mH} (I : LwI ax ay o od N h) (hN : N < 100000) (hi : i + 3 ≤ Ls) {cells slots : Nat} (hc : cells + 2 ≤ 607087) (hs : slots + 12 ≤ 7274842) (kk : ∀ h', LwI ax ay o od (N + 1) h' → mJ K (cells + 2) (slots + 12) 1400 [some (.ref b), some (.ref (ax 0 0 0)), some (.ref (ay 30 0 0)), some (.ref o), some (.ref od), some (.int (nI i)), none, none, none] [] h') : mJ K cells slots 555 [some (.ref b), some (.ref (ax 0 0 0)), some (.ref (ay 30 0 0)), some (.ref o), some (.ref od), some (.int (nI i)), none, none, none] [] h := by
  obtain ⟨k, P, hk, hC, hP⟩ := bk_queueLength (l := kl K) (D := kD K) (aC := kC K) A I hN (xs (i + 1))
  refine mJ_aload_n hK dL_law_555 rfl ?_
  refine mJ_aload_n hK dL_law_556 rfl ?_
  refine mJ_iload hK dL_law_557 rfl ?_
  refine mJ_iconst (v := nI 1) hK dL_law_559 (by decide) ?_
  refine mJ_iaddN hK dL_law_560 ?_
  refine mJ_sld (i + 1) hX hbl hbA hK dL_law_561 rfl (by omega) (by omega) ?_
  refine mJ_aload_n hK dL_law_562 rfl ?_
  refine mJ_callH hNo hK dL_law_563 lL_116 (by unfold mFit; decide) ⟨by show cells + 1 ≤ 607087; omega, by show slots + 6 ≤ 7274842; omega⟩ rfl rfl (Nat.le_of_ble_eq_true rfl) hC (fun r u1 hq => ?_)
  obtain ⟨rfl, hp⟩ := hq
  obtain ⟨⟨fs, hfs⟩, bv, Q, hM, hQ⟩ := hP u1 hp
  refine mJ_istore hK dL_law_566 (by decide) rfl ?_
  refine mJ_aload_n hK dL_law_568 rfl ?_
  refine mJ_aload_n hK dL_law_569 rfl ?_
  refine mJ_iload hK dL_law_570 rfl ?_
  refine mJ_iconst (v := nI 1) hK dL_law_572 (by decide) ?_
  refine mJ_iaddN hK dL_law_573 ?_
  refine mJ_sld (i + 1) hX hbl hbA hK dL_law_574 rfl (by omega) (by omega) ?_
  refine mJ_callV hK dL_law_575 lL_118 (by unfold mFit; decide) ⟨by show cells + 1 + 0 ≤ 607087; omega, by show slots + 6 + 0 ≤ 7274842; omega⟩ rfl rfl (Nat.le_of_ble_eq_true rfl) hfs ⟨_, _, rfl⟩ hM (fun r u2 hq => ?_)
  obtain ⟨rfl, hq⟩ := hq
  obtain ⟨⟨fs2, hfs2⟩, hT, ⟨w, hw, hwk⟩, hI9⟩ := hQ u2 hq
  refine mJ_istore hK dL_law_578 (by decide) rfl ?_
  refine mJ_aload_n hK dL_law_580 rfl ?_
  refine mJ_cVi hK dL_law_581 lL_84 (by unfold mFit; decide) ⟨by show cells + 1 + 0 + 0 ≤ 607087; omega, by show slots + 6 + 0 + 0 ≤ 7274842; omega⟩ hT rfl rfl (Nat.le_of_ble_eq_true rfl) hfs2 ⟨_, _, rfl⟩ (fun u3 e9 => ?_)
  subst e9
  refine mJ_iload hK dL_law_584 rfl ?_
  refine mJ_icmp_eq (tgt := 591) hK dL_law_586 (by decide) (fun _ => ?_) (fun z => absurd rfl z)
  refine mJ_iload hK dL_law_591 rfl ?_
  refine mJ_nif_ne (tgt := 608) hK dL_law_593 (by decide) (by omega) (fun _ => ?_) (fun k0 => ?_)
  · refine mJ_goto (tgt := 1400) hK dL_law_608 (by decide) ?_
    refine mJ_widen (k := cells + 2) (n := slots + 12) (by show cells + 1 + 0 + 0 ≤ _; omega) (by show slots + 6 + 0 + 0 ≤ _; omega) (mJ_less less9 (kk _ hI9))
  · refine mJ_aload_n hK dL_law_596 rfl ?_
    refine mJ_iconst (v := nI 0) hK dL_law_597 (by decide) ?_
    refine mJ_laldN 0 hK dL_law_598 hw rfl (by omega) (by decide) ?_
    refine mJ_iload hK dL_law_599 rfl ?_
    refine mJ_i2l hK dL_law_601 ?_
    refine mJ_lcmp hK dL_law_602 ?_
    refine mJ_if_eq (tgt := 608) hK dL_law_603 (by decide) (fun _ => ?_) (fun z => absurd (by rw [hwk k0]; exact lgc_s) z)
    refine mJ_goto (tgt := 1400) hK dL_law_608 (by decide) ?_
    refine mJ_widen (k := cells + 2) (n := slots + 12) (by show cells + 1 + 0 + 0 ≤ _; omega) (by show slots + 6 + 0 + 0 ≤ _; omega) (mJ_less less9 (kk _ hI9))

set_option maxRecDepth 100000 in
set_option maxHeartbeats 4000000 in
theorem lw_c10 {K : mK} (hK : mCx K mL_law) (hNo : mNo (kD K) (kC K) (ks K)) {b Ls : Nat} {xs : Nat → Int32} (hX : va_X b Ls xs (ks K) (ks K).heap) (hbl : b < (ks K).heap.size) (hbA : ¬ kA K b) (hLs : Ls ≤ 1536) {ax ay : xAd} {o od N i : Nat} (A : LwA ax ay o od) {h : mH} (I : LwI ax ay o od N h) (hN : N < 100000) (hi : i + 3 ≤ Ls) {cells slots : Nat} (hc : cells + 2 ≤ 607087) (hs : slots + 12 ≤ 7274842) (kk : ∀ h', LwI ax ay o od (N + 1) h' → mJ K (cells + 2) (slots + 12) 1400 [some (.ref b), some (.ref (ax 0 0 0)), some (.ref (ay 30 0 0)), some (.ref o), some (.ref od), some (.int (nI i)), none, none, none] [] h') : mJ K cells slots 611 [some (.ref b), some (.ref (ax 0 0 0)), some (.ref (ay 30 0 0)), some (.ref o), some (.ref od), some (.int (nI i)), none, none, none] [] h := by
  obtain ⟨k, P, hk, hC, hP⟩ := bk_messageAt (l := kl K) (D := kD K) (aC := kC K) A I hN (xs (i + 1)) (xs (i + 2))
  refine mJ_aload_n hK dL_law_611 rfl ?_
  refine mJ_aload_n hK dL_law_612 rfl ?_
  refine mJ_iload hK dL_law_613 rfl ?_
  refine mJ_iconst (v := nI 1) hK dL_law_615 (by decide) ?_
  refine mJ_iaddN hK dL_law_616 ?_
  refine mJ_sld (i + 1) hX hbl hbA hK dL_law_617 rfl (by omega) (by omega) ?_
  refine mJ_aload_n hK dL_law_618 rfl ?_
  refine mJ_iload hK dL_law_619 rfl ?_
  refine mJ_iconst (v := nI 2) hK dL_law_621 (by decide) ?_
  refine mJ_iaddN hK dL_law_622 ?_
  refine mJ_sld (i + 2) hX hbl hbA hK dL_law_623 rfl (by omega) (by omega) ?_
  refine mJ_aload_n hK dL_law_624 rfl ?_
  refine mJ_callH hNo hK dL_law_625 lL_119 (by unfold mFit; decide) ⟨by show cells + 2 ≤ 607087; omega, by show slots + 12 ≤ 7274842; omega⟩ rfl rfl (Nat.le_of_ble_eq_true rfl) hC (fun r u1 hq => ?_)
  obtain ⟨rfl, hp⟩ := hq
  obtain ⟨⟨fs, hfs⟩, bv, Q, hM, hQ⟩ := hP u1 hp
  refine mJ_istore hK dL_law_628 (by decide) rfl ?_
  refine mJ_aload_n hK dL_law_630 rfl ?_
  refine mJ_aload_n hK dL_law_631 rfl ?_
  refine mJ_iload hK dL_law_632 rfl ?_
  refine mJ_iconst (v := nI 1) hK dL_law_634 (by decide) ?_
  refine mJ_iaddN hK dL_law_635 ?_
  refine mJ_sld (i + 1) hX hbl hbA hK dL_law_636 rfl (by omega) (by omega) ?_
  refine mJ_aload_n hK dL_law_637 rfl ?_
  refine mJ_iload hK dL_law_638 rfl ?_
  refine mJ_iconst (v := nI 2) hK dL_law_640 (by decide) ?_
  refine mJ_iaddN hK dL_law_641 ?_
  refine mJ_sld (i + 2) hX hbl hbA hK dL_law_642 rfl (by omega) (by omega) ?_
  refine mJ_callV hK dL_law_643 lL_121 (by unfold mFit; decide) ⟨by show cells + 2 + 0 ≤ 607087; omega, by show slots + 12 + 0 ≤ 7274842; omega⟩ rfl rfl (Nat.le_of_ble_eq_true rfl) hfs ⟨_, _, rfl⟩ hM (fun r u2 hq => ?_)
  obtain ⟨rfl, hq⟩ := hq
  obtain ⟨⟨fs2, hfs2⟩, hT, ⟨w, hw, hwk⟩, hI9⟩ := hQ u2 hq
  refine mJ_istore hK dL_law_646 (by decide) rfl ?_
  refine mJ_aload_n hK dL_law_648 rfl ?_
  refine mJ_cVi hK dL_law_649 lL_84 (by unfold mFit; decide) ⟨by show cells + 2 + 0 + 0 ≤ 607087; omega, by show slots + 12 + 0 + 0 ≤ 7274842; omega⟩ hT rfl rfl (Nat.le_of_ble_eq_true rfl) hfs2 ⟨_, _, rfl⟩ (fun u3 e9 => ?_)
  subst e9
  refine mJ_iload hK dL_law_652 rfl ?_
  refine mJ_icmp_eq (tgt := 659) hK dL_law_654 (by decide) (fun _ => ?_) (fun z => absurd rfl z)
  refine mJ_iload hK dL_law_659 rfl ?_
  refine mJ_nif_ne (tgt := 676) hK dL_law_661 (by decide) (by omega) (fun _ => ?_) (fun k0 => ?_)
  · refine mJ_goto (tgt := 1400) hK dL_law_676 (by decide) ?_
    refine mJ_widen (k := cells + 2) (n := slots + 12) (by show cells + 2 + 0 + 0 ≤ _; omega) (by show slots + 12 + 0 + 0 ≤ _; omega) (mJ_less less9 (kk _ hI9))
  · refine mJ_aload_n hK dL_law_664 rfl ?_
    refine mJ_iconst (v := nI 0) hK dL_law_665 (by decide) ?_
    refine mJ_laldN 0 hK dL_law_666 hw rfl (by omega) (by decide) ?_
    refine mJ_iload hK dL_law_667 rfl ?_
    refine mJ_i2l hK dL_law_669 ?_
    refine mJ_lcmp hK dL_law_670 ?_
    refine mJ_if_eq (tgt := 676) hK dL_law_671 (by decide) (fun _ => ?_) (fun z => absurd (by rw [hwk k0]; exact lgc_s) z)
    refine mJ_goto (tgt := 1400) hK dL_law_676 (by decide) ?_
    refine mJ_widen (k := cells + 2) (n := slots + 12) (by show cells + 2 + 0 + 0 ≤ _; omega) (by show slots + 12 + 0 + 0 ≤ _; omega) (mJ_less less9 (kk _ hI9))

set_option maxRecDepth 100000 in
set_option maxHeartbeats 4000000 in
theorem lw_c11 {K : mK} (hK : mCx K mL_law) (hNo : mNo (kD K) (kC K) (ks K)) {b Ls : Nat} {xs : Nat → Int32} (hX : va_X b Ls xs (ks K) (ks K).heap) (hbl : b < (ks K).heap.size) (hbA : ¬ kA K b) (hLs : Ls ≤ 1536) {ax ay : xAd} {o od N i : Nat} (A : LwA ax ay o od) {h : mH} (I : LwI ax ay o od N h) (hN : N < 100000) (hi : i + 3 ≤ Ls) {cells slots : Nat} (hc : cells + 2 ≤ 607087) (hs : slots + 12 ≤ 7274842) (kk : ∀ h', LwI ax ay o od (N + 1) h' → mJ K (cells + 2) (slots + 12) 1400 [some (.ref b), some (.ref (ax 0 0 0)), some (.ref (ay 30 0 0)), some (.ref o), some (.ref od), some (.int (nI i)), none, none, none] [] h') : mJ K cells slots 679 [some (.ref b), some (.ref (ax 0 0 0)), some (.ref (ay 30 0 0)), some (.ref o), some (.ref od), some (.int (nI i)), none, none, none] [] h := by
  obtain ⟨v, ⟨fs, hfs⟩, P, hC, hP⟩ := bk_waitingChannels (l := kl K) (D := kD K) (aC := kC K) A I hN
  refine mJ_aload_n hK dL_law_679 rfl ?_
  refine mJ_callV hK dL_law_680 lL_122 (by unfold mFit; decide) ⟨by show cells + 0 ≤ 607087; omega, by show slots + 0 ≤ 7274842; omega⟩ rfl rfl (Nat.le_of_ble_eq_true rfl) hfs ⟨_, _, rfl⟩ hC (fun r u1 hq => ?_)
  obtain ⟨rfl, hp⟩ := hq
  obtain ⟨⟨fs2, hfs2⟩, Q, hM, hQ⟩ := hP u1 hp
  refine mJ_aload_n hK dL_law_683 rfl ?_
  refine mJ_callV hK dL_law_684 lL_125 (by unfold mFit; decide) ⟨by show cells + 0 + 0 ≤ 607087; omega, by show slots + 0 + 0 ≤ 7274842; omega⟩ rfl rfl (Nat.le_of_ble_eq_true rfl) hfs2 ⟨_, _, rfl⟩ hM (fun r u2 hq => ?_)
  obtain ⟨rfl, hq⟩ := hq
  have hI9 := hQ u2 hq
  refine mJ_icmp_eq (tgt := 1400) hK dL_law_687 (by decide) (fun _ => ?_) (fun z => absurd rfl z)
  refine mJ_widen (k := cells + 2) (n := slots + 12) (by show cells + 0 + 0 ≤ _; omega) (by show slots + 0 + 0 ≤ _; omega) (mJ_less less9 (kk _ hI9))

set_option maxRecDepth 100000 in
set_option maxHeartbeats 4000000 in
theorem lw_c12 {K : mK} (hK : mCx K mL_law) (hNo : mNo (kD K) (kC K) (ks K)) {b Ls : Nat} {xs : Nat → Int32} (hX : va_X b Ls xs (ks K) (ks K).heap) (hbl : b < (ks K).heap.size) (hbA : ¬ kA K b) (hLs : Ls ≤ 1536) {ax ay : xAd} {o od N i : Nat} (A : LwA ax ay o od) {h : mH} (I : LwI ax ay o od N h) (hN : N < 100000) (hi : i + 3 ≤ Ls) {cells slots : Nat} (hc : cells + 2 ≤ 607087) (hs : slots + 12 ≤ 7274842) (kk : ∀ h', LwI ax ay o od (N + 1) h' → mJ K (cells + 2) (slots + 12) 1400 [some (.ref b), some (.ref (ax 0 0 0)), some (.ref (ay 30 0 0)), some (.ref o), some (.ref od), some (.int (nI i)), none, none, none] [] h') : mJ K cells slots 692 [some (.ref b), some (.ref (ax 0 0 0)), some (.ref (ay 30 0 0)), some (.ref o), some (.ref od), some (.int (nI i)), none, none, none] [] h := by
  obtain ⟨v, ⟨fs, hfs⟩, P, hC, hP⟩ := bk_readyRules (l := kl K) (D := kD K) (aC := kC K) A I hN
  refine mJ_aload_n hK dL_law_692 rfl ?_
  refine mJ_callV hK dL_law_693 lL_126 (by unfold mFit; decide) ⟨by show cells + 0 ≤ 607087; omega, by show slots + 0 ≤ 7274842; omega⟩ rfl rfl (Nat.le_of_ble_eq_true rfl) hfs ⟨_, _, rfl⟩ hC (fun r u1 hq => ?_)
  obtain ⟨rfl, hp⟩ := hq
  obtain ⟨⟨fs2, hfs2⟩, Q, hM, hQ⟩ := hP u1 hp
  refine mJ_aload_n hK dL_law_696 rfl ?_
  refine mJ_callV hK dL_law_697 lL_129 (by unfold mFit; decide) ⟨by show cells + 0 + 0 ≤ 607087; omega, by show slots + 0 + 0 ≤ 7274842; omega⟩ rfl rfl (Nat.le_of_ble_eq_true rfl) hfs2 ⟨_, _, rfl⟩ hM (fun r u2 hq => ?_)
  obtain ⟨rfl, hq⟩ := hq
  have hI9 := hQ u2 hq
  refine mJ_icmp_eq (tgt := 1400) hK dL_law_700 (by decide) (fun _ => ?_) (fun z => absurd rfl z)
  refine mJ_widen (k := cells + 2) (n := slots + 12) (by show cells + 0 + 0 ≤ _; omega) (by show slots + 0 + 0 ≤ _; omega) (mJ_less less9 (kk _ hI9))

set_option maxRecDepth 100000 in
set_option maxHeartbeats 4000000 in
theorem lw_c13 {K : mK} (hK : mCx K mL_law) (hNo : mNo (kD K) (kC K) (ks K)) {b Ls : Nat} {xs : Nat → Int32} (hX : va_X b Ls xs (ks K) (ks K).heap) (hbl : b < (ks K).heap.size) (hbA : ¬ kA K b) (hLs : Ls ≤ 1536) {ax ay : xAd} {o od N i : Nat} (A : LwA ax ay o od) {h : mH} (I : LwI ax ay o od N h) (hN : N < 100000) (hi : i + 3 ≤ Ls) {cells slots : Nat} (hc : cells + 2 ≤ 607087) (hs : slots + 12 ≤ 7274842) (kk : ∀ h', LwI ax ay o od (N + 1) h' → mJ K (cells + 2) (slots + 12) 1400 [some (.ref b), some (.ref (ax 0 0 0)), some (.ref (ay 30 0 0)), some (.ref o), some (.ref od), some (.int (nI i)), none, none, none] [] h') : mJ K cells slots 705 [some (.ref b), some (.ref (ax 0 0 0)), some (.ref (ay 30 0 0)), some (.ref o), some (.ref od), some (.int (nI i)), none, none, none] [] h := by
  obtain ⟨v, ⟨fs, hfs⟩, P, hC, hP⟩ := bk_enabledRules (l := kl K) (D := kD K) (aC := kC K) A I hN
  refine mJ_aload_n hK dL_law_705 rfl ?_
  refine mJ_callV hK dL_law_706 lL_130 (by unfold mFit; decide) ⟨by show cells + 0 ≤ 607087; omega, by show slots + 0 ≤ 7274842; omega⟩ rfl rfl (Nat.le_of_ble_eq_true rfl) hfs ⟨_, _, rfl⟩ hC (fun r u1 hq => ?_)
  obtain ⟨rfl, hp⟩ := hq
  obtain ⟨⟨fs2, hfs2⟩, Q, hM, hQ⟩ := hP u1 hp
  refine mJ_aload_n hK dL_law_709 rfl ?_
  refine mJ_callV hK dL_law_710 lL_133 (by unfold mFit; decide) ⟨by show cells + 0 + 0 ≤ 607087; omega, by show slots + 0 + 0 ≤ 7274842; omega⟩ rfl rfl (Nat.le_of_ble_eq_true rfl) hfs2 ⟨_, _, rfl⟩ hM (fun r u2 hq => ?_)
  obtain ⟨rfl, hq⟩ := hq
  have hI9 := hQ u2 hq
  refine mJ_icmp_eq (tgt := 1400) hK dL_law_713 (by decide) (fun _ => ?_) (fun z => absurd rfl z)
  refine mJ_widen (k := cells + 2) (n := slots + 12) (by show cells + 0 + 0 ≤ _; omega) (by show slots + 0 + 0 ≤ _; omega) (mJ_less less9 (kk _ hI9))

set_option maxRecDepth 100000 in
set_option maxHeartbeats 4000000 in
theorem lw_c14 {K : mK} (hK : mCx K mL_law) (hNo : mNo (kD K) (kC K) (ks K)) {b Ls : Nat} {xs : Nat → Int32} (hX : va_X b Ls xs (ks K) (ks K).heap) (hbl : b < (ks K).heap.size) (hbA : ¬ kA K b) (hLs : Ls ≤ 1536) {ax ay : xAd} {o od N i : Nat} (A : LwA ax ay o od) {h : mH} (I : LwI ax ay o od N h) (hN : N < 100000) (hi : i + 3 ≤ Ls) {cells slots : Nat} (hc : cells + 2 ≤ 607087) (hs : slots + 12 ≤ 7274842) (kk : ∀ h', LwI ax ay o od (N + 1) h' → mJ K (cells + 2) (slots + 12) 1400 [some (.ref b), some (.ref (ax 0 0 0)), some (.ref (ay 30 0 0)), some (.ref o), some (.ref od), some (.int (nI i)), none, none, none] [] h') : mJ K cells slots 718 [some (.ref b), some (.ref (ax 0 0 0)), some (.ref (ay 30 0 0)), some (.ref o), some (.ref od), some (.int (nI i)), none, none, none] [] h := by
  obtain ⟨k, P, hk, hC, hP⟩ := bk_matchOf (l := kl K) (D := kD K) (aC := kC K) A I hN (xs (i + 1)) (xs (i + 2))
  refine mJ_aload_n hK dL_law_718 rfl ?_
  refine mJ_aload_n hK dL_law_719 rfl ?_
  refine mJ_iload hK dL_law_720 rfl ?_
  refine mJ_iconst (v := nI 1) hK dL_law_722 (by decide) ?_
  refine mJ_iaddN hK dL_law_723 ?_
  refine mJ_sld (i + 1) hX hbl hbA hK dL_law_724 rfl (by omega) (by omega) ?_
  refine mJ_aload_n hK dL_law_725 rfl ?_
  refine mJ_iload hK dL_law_726 rfl ?_
  refine mJ_iconst (v := nI 2) hK dL_law_728 (by decide) ?_
  refine mJ_iaddN hK dL_law_729 ?_
  refine mJ_sld (i + 2) hX hbl hbA hK dL_law_730 rfl (by omega) (by omega) ?_
  refine mJ_aload_n hK dL_law_731 rfl ?_
  refine mJ_callH hNo hK dL_law_732 lL_134 (by unfold mFit; decide) ⟨by show cells + 2 ≤ 607087; omega, by show slots + 12 ≤ 7274842; omega⟩ rfl rfl (Nat.le_of_ble_eq_true rfl) hC (fun r u1 hq => ?_)
  obtain ⟨rfl, hp⟩ := hq
  obtain ⟨⟨fs, hfs⟩, bv, Q, hM, hQ⟩ := hP u1 hp
  refine mJ_istore hK dL_law_735 (by decide) rfl ?_
  refine mJ_aload_n hK dL_law_737 rfl ?_
  refine mJ_aload_n hK dL_law_738 rfl ?_
  refine mJ_iload hK dL_law_739 rfl ?_
  refine mJ_iconst (v := nI 1) hK dL_law_741 (by decide) ?_
  refine mJ_iaddN hK dL_law_742 ?_
  refine mJ_sld (i + 1) hX hbl hbA hK dL_law_743 rfl (by omega) (by omega) ?_
  refine mJ_aload_n hK dL_law_744 rfl ?_
  refine mJ_iload hK dL_law_745 rfl ?_
  refine mJ_iconst (v := nI 2) hK dL_law_747 (by decide) ?_
  refine mJ_iaddN hK dL_law_748 ?_
  refine mJ_sld (i + 2) hX hbl hbA hK dL_law_749 rfl (by omega) (by omega) ?_
  refine mJ_callV hK dL_law_750 lL_136 (by unfold mFit; decide) ⟨by show cells + 2 + 0 ≤ 607087; omega, by show slots + 12 + 0 ≤ 7274842; omega⟩ rfl rfl (Nat.le_of_ble_eq_true rfl) hfs ⟨_, _, rfl⟩ hM (fun r u2 hq => ?_)
  obtain ⟨rfl, hq⟩ := hq
  obtain ⟨⟨fs2, hfs2⟩, hT, ⟨w, hw, hwk⟩, hI9⟩ := hQ u2 hq
  refine mJ_istore hK dL_law_753 (by decide) rfl ?_
  refine mJ_aload_n hK dL_law_755 rfl ?_
  refine mJ_cVi hK dL_law_756 lL_84 (by unfold mFit; decide) ⟨by show cells + 2 + 0 + 0 ≤ 607087; omega, by show slots + 12 + 0 + 0 ≤ 7274842; omega⟩ hT rfl rfl (Nat.le_of_ble_eq_true rfl) hfs2 ⟨_, _, rfl⟩ (fun u3 e9 => ?_)
  subst e9
  refine mJ_iload hK dL_law_759 rfl ?_
  refine mJ_icmp_eq (tgt := 766) hK dL_law_761 (by decide) (fun _ => ?_) (fun z => absurd rfl z)
  refine mJ_iload hK dL_law_766 rfl ?_
  refine mJ_nif_ne (tgt := 783) hK dL_law_768 (by decide) (by omega) (fun _ => ?_) (fun k0 => ?_)
  · refine mJ_goto (tgt := 1400) hK dL_law_783 (by decide) ?_
    refine mJ_widen (k := cells + 2) (n := slots + 12) (by show cells + 2 + 0 + 0 ≤ _; omega) (by show slots + 12 + 0 + 0 ≤ _; omega) (mJ_less less9 (kk _ hI9))
  · refine mJ_aload_n hK dL_law_771 rfl ?_
    refine mJ_iconst (v := nI 0) hK dL_law_772 (by decide) ?_
    refine mJ_laldN 0 hK dL_law_773 hw rfl (by omega) (by decide) ?_
    refine mJ_iload hK dL_law_774 rfl ?_
    refine mJ_i2l hK dL_law_776 ?_
    refine mJ_lcmp hK dL_law_777 ?_
    refine mJ_if_eq (tgt := 783) hK dL_law_778 (by decide) (fun _ => ?_) (fun z => absurd (by rw [hwk k0]; exact lgc_s) z)
    refine mJ_goto (tgt := 1400) hK dL_law_783 (by decide) ?_
    refine mJ_widen (k := cells + 2) (n := slots + 12) (by show cells + 2 + 0 + 0 ≤ _; omega) (by show slots + 12 + 0 + 0 ≤ _; omega) (mJ_less less9 (kk _ hI9))

set_option maxRecDepth 100000 in
set_option maxHeartbeats 4000000 in
theorem lw_c15 {K : mK} (hK : mCx K mL_law) (hNo : mNo (kD K) (kC K) (ks K)) {b Ls : Nat} {xs : Nat → Int32} (hX : va_X b Ls xs (ks K) (ks K).heap) (hbl : b < (ks K).heap.size) (hbA : ¬ kA K b) (hLs : Ls ≤ 1536) {ax ay : xAd} {o od N i : Nat} (A : LwA ax ay o od) {h : mH} (I : LwI ax ay o od N h) (hN : N < 100000) (hi : i + 3 ≤ Ls) {cells slots : Nat} (hc : cells + 2 ≤ 607087) (hs : slots + 12 ≤ 7274842) (kk : ∀ h', LwI ax ay o od (N + 1) h' → mJ K (cells + 2) (slots + 12) 1400 [some (.ref b), some (.ref (ax 0 0 0)), some (.ref (ay 30 0 0)), some (.ref o), some (.ref od), some (.int (nI i)), none, none, none] [] h') : mJ K cells slots 786 [some (.ref b), some (.ref (ax 0 0 0)), some (.ref (ay 30 0 0)), some (.ref o), some (.ref od), some (.int (nI i)), none, none, none] [] h := by
  obtain ⟨v, ⟨fs, hfs⟩, P, hC, hP⟩ := bk_nextRule (l := kl K) (D := kD K) (aC := kC K) A I hN
  refine mJ_aload_n hK dL_law_786 rfl ?_
  refine mJ_callV hK dL_law_787 lL_137 (by unfold mFit; decide) ⟨by show cells + 0 ≤ 607087; omega, by show slots + 0 ≤ 7274842; omega⟩ rfl rfl (Nat.le_of_ble_eq_true rfl) hfs ⟨_, _, rfl⟩ hC (fun r u1 hq => ?_)
  obtain ⟨rfl, hp⟩ := hq
  obtain ⟨⟨fs2, hfs2⟩, Q, hM, hQ⟩ := hP u1 hp
  refine mJ_aload_n hK dL_law_790 rfl ?_
  refine mJ_callV hK dL_law_791 lL_140 (by unfold mFit; decide) ⟨by show cells + 0 + 0 ≤ 607087; omega, by show slots + 0 + 0 ≤ 7274842; omega⟩ rfl rfl (Nat.le_of_ble_eq_true rfl) hfs2 ⟨_, _, rfl⟩ hM (fun r u2 hq => ?_)
  obtain ⟨rfl, hq⟩ := hq
  have hI9 := hQ u2 hq
  refine mJ_icmp_eq (tgt := 1400) hK dL_law_794 (by decide) (fun _ => ?_) (fun z => absurd rfl z)
  refine mJ_widen (k := cells + 2) (n := slots + 12) (by show cells + 0 + 0 ≤ _; omega) (by show slots + 0 + 0 ≤ _; omega) (mJ_less less9 (kk _ hI9))

set_option maxRecDepth 100000 in
set_option maxHeartbeats 4000000 in
theorem lw_c16 {K : mK} (hK : mCx K mL_law) (hNo : mNo (kD K) (kC K) (ks K)) {b Ls : Nat} {xs : Nat → Int32} (hX : va_X b Ls xs (ks K) (ks K).heap) (hbl : b < (ks K).heap.size) (hbA : ¬ kA K b) (hLs : Ls ≤ 1536) {ax ay : xAd} {o od N i : Nat} (A : LwA ax ay o od) {h : mH} (I : LwI ax ay o od N h) (hN : N < 100000) (hi : i + 3 ≤ Ls) {cells slots : Nat} (hc : cells + 2 ≤ 607087) (hs : slots + 12 ≤ 7274842) (kk : ∀ h', LwI ax ay o od (N + 1) h' → mJ K (cells + 2) (slots + 12) 1400 [some (.ref b), some (.ref (ax 0 0 0)), some (.ref (ay 30 0 0)), some (.ref o), some (.ref od), some (.int (nI i)), none, none, none] [] h') : mJ K cells slots 799 [some (.ref b), some (.ref (ax 0 0 0)), some (.ref (ay 30 0 0)), some (.ref o), some (.ref od), some (.int (nI i)), none, none, none] [] h := by
  obtain ⟨v, ⟨fs, hfs⟩, P, hC, hP⟩ := bk_fire (l := kl K) (D := kD K) (aC := kC K) A I hN
  refine mJ_aload_n hK dL_law_799 rfl ?_
  refine mJ_callV hK dL_law_800 lL_141 (by unfold mFit; decide) ⟨by show cells + 0 ≤ 607087; omega, by show slots + 0 ≤ 7274842; omega⟩ rfl rfl (Nat.le_of_ble_eq_true rfl) hfs ⟨_, _, rfl⟩ hC (fun r u1 hq => ?_)
  obtain ⟨rfl, hp⟩ := hq
  obtain ⟨⟨fs2, hfs2⟩, Q, hM, hQ⟩ := hP u1 hp
  refine mJ_aload_n hK dL_law_803 rfl ?_
  refine mJ_callV hK dL_law_804 lL_144 (by unfold mFit; decide) ⟨by show cells + 0 + 0 ≤ 607087; omega, by show slots + 0 + 0 ≤ 7274842; omega⟩ rfl rfl (Nat.le_of_ble_eq_true rfl) hfs2 ⟨_, _, rfl⟩ hM (fun r u2 hq => ?_)
  obtain ⟨rfl, hq⟩ := hq
  have hI9 := hQ u2 hq
  refine mJ_icmp_eq (tgt := 1400) hK dL_law_807 (by decide) (fun _ => ?_) (fun z => absurd rfl z)
  refine mJ_widen (k := cells + 2) (n := slots + 12) (by show cells + 0 + 0 ≤ _; omega) (by show slots + 0 + 0 ≤ _; omega) (mJ_less less9 (kk _ hI9))

set_option maxRecDepth 100000 in
set_option maxHeartbeats 4000000 in
theorem lw_c17 {K : mK} (hK : mCx K mL_law) (hNo : mNo (kD K) (kC K) (ks K)) {b Ls : Nat} {xs : Nat → Int32} (hX : va_X b Ls xs (ks K) (ks K).heap) (hbl : b < (ks K).heap.size) (hbA : ¬ kA K b) (hLs : Ls ≤ 1536) {ax ay : xAd} {o od N i : Nat} (A : LwA ax ay o od) {h : mH} (I : LwI ax ay o od N h) (hN : N < 100000) (hi : i + 3 ≤ Ls) {cells slots : Nat} (hc : cells + 2 ≤ 607087) (hs : slots + 12 ≤ 7274842) (kk : ∀ h', LwI ax ay o od (N + 1) h' → mJ K (cells + 2) (slots + 12) 1400 [some (.ref b), some (.ref (ax 0 0 0)), some (.ref (ay 30 0 0)), some (.ref o), some (.ref od), some (.int (nI i)), none, none, none] [] h') : mJ K cells slots 812 [some (.ref b), some (.ref (ax 0 0 0)), some (.ref (ay 30 0 0)), some (.ref o), some (.ref od), some (.int (nI i)), none, none, none] [] h := by
  obtain ⟨k, P, hk, hC, hP⟩ := bk_fireRule (l := kl K) (D := kD K) (aC := kC K) A I hN (xs (i + 1))
  refine mJ_aload_n hK dL_law_812 rfl ?_
  refine mJ_aload_n hK dL_law_813 rfl ?_
  refine mJ_iload hK dL_law_814 rfl ?_
  refine mJ_iconst (v := nI 1) hK dL_law_816 (by decide) ?_
  refine mJ_iaddN hK dL_law_817 ?_
  refine mJ_sld (i + 1) hX hbl hbA hK dL_law_818 rfl (by omega) (by omega) ?_
  refine mJ_aload_n hK dL_law_819 rfl ?_
  refine mJ_callH hNo hK dL_law_820 lL_145 (by unfold mFit; decide) ⟨by show cells + 2 ≤ 607087; omega, by show slots + 12 ≤ 7274842; omega⟩ rfl rfl (Nat.le_of_ble_eq_true rfl) hC (fun r u1 hq => ?_)
  obtain ⟨rfl, hp⟩ := hq
  obtain ⟨⟨fs, hfs⟩, bv, Q, hM, hQ⟩ := hP u1 hp
  refine mJ_istore hK dL_law_823 (by decide) rfl ?_
  refine mJ_aload_n hK dL_law_825 rfl ?_
  refine mJ_aload_n hK dL_law_826 rfl ?_
  refine mJ_iload hK dL_law_827 rfl ?_
  refine mJ_iconst (v := nI 1) hK dL_law_829 (by decide) ?_
  refine mJ_iaddN hK dL_law_830 ?_
  refine mJ_sld (i + 1) hX hbl hbA hK dL_law_831 rfl (by omega) (by omega) ?_
  refine mJ_callV hK dL_law_832 lL_147 (by unfold mFit; decide) ⟨by show cells + 2 + 0 ≤ 607087; omega, by show slots + 12 + 0 ≤ 7274842; omega⟩ rfl rfl (Nat.le_of_ble_eq_true rfl) hfs ⟨_, _, rfl⟩ hM (fun r u2 hq => ?_)
  obtain ⟨rfl, hq⟩ := hq
  obtain ⟨⟨fs2, hfs2⟩, hT, ⟨w, hw, hwk⟩, hI9⟩ := hQ u2 hq
  refine mJ_istore hK dL_law_835 (by decide) rfl ?_
  refine mJ_aload_n hK dL_law_837 rfl ?_
  refine mJ_cVi hK dL_law_838 lL_84 (by unfold mFit; decide) ⟨by show cells + 2 + 0 + 0 ≤ 607087; omega, by show slots + 12 + 0 + 0 ≤ 7274842; omega⟩ hT rfl rfl (Nat.le_of_ble_eq_true rfl) hfs2 ⟨_, _, rfl⟩ (fun u3 e9 => ?_)
  subst e9
  refine mJ_iload hK dL_law_841 rfl ?_
  refine mJ_icmp_eq (tgt := 848) hK dL_law_843 (by decide) (fun _ => ?_) (fun z => absurd rfl z)
  refine mJ_iload hK dL_law_848 rfl ?_
  refine mJ_nif_ne (tgt := 865) hK dL_law_850 (by decide) (by omega) (fun _ => ?_) (fun k0 => ?_)
  · refine mJ_goto (tgt := 1400) hK dL_law_865 (by decide) ?_
    refine mJ_widen (k := cells + 2) (n := slots + 12) (by show cells + 2 + 0 + 0 ≤ _; omega) (by show slots + 12 + 0 + 0 ≤ _; omega) (mJ_less less9 (kk _ hI9))
  · refine mJ_aload_n hK dL_law_853 rfl ?_
    refine mJ_iconst (v := nI 0) hK dL_law_854 (by decide) ?_
    refine mJ_laldN 0 hK dL_law_855 hw rfl (by omega) (by decide) ?_
    refine mJ_iload hK dL_law_856 rfl ?_
    refine mJ_i2l hK dL_law_858 ?_
    refine mJ_lcmp hK dL_law_859 ?_
    refine mJ_if_eq (tgt := 865) hK dL_law_860 (by decide) (fun _ => ?_) (fun z => absurd (by rw [hwk k0]; exact lgc_s) z)
    refine mJ_goto (tgt := 1400) hK dL_law_865 (by decide) ?_
    refine mJ_widen (k := cells + 2) (n := slots + 12) (by show cells + 2 + 0 + 0 ≤ _; omega) (by show slots + 12 + 0 + 0 ≤ _; omega) (mJ_less less9 (kk _ hI9))

set_option maxRecDepth 100000 in
set_option maxHeartbeats 4000000 in
theorem lw_c18 {K : mK} (hK : mCx K mL_law) (hNo : mNo (kD K) (kC K) (ks K)) {b Ls : Nat} {xs : Nat → Int32} (hX : va_X b Ls xs (ks K) (ks K).heap) (hbl : b < (ks K).heap.size) (hbA : ¬ kA K b) (hLs : Ls ≤ 1536) {ax ay : xAd} {o od N i : Nat} (A : LwA ax ay o od) {h : mH} (I : LwI ax ay o od N h) (hN : N < 100000) (hi : i + 3 ≤ Ls) {cells slots : Nat} (hc : cells + 2 ≤ 607087) (hs : slots + 12 ≤ 7274842) (kk : ∀ h', LwI ax ay o od (N + 1) h' → mJ K (cells + 2) (slots + 12) 1400 [some (.ref b), some (.ref (ax 0 0 0)), some (.ref (ay 30 0 0)), some (.ref o), some (.ref od), some (.int (nI i)), none, none, none] [] h') : mJ K cells slots 868 [some (.ref b), some (.ref (ax 0 0 0)), some (.ref (ay 30 0 0)), some (.ref o), some (.ref od), some (.int (nI i)), none, none, none] [] h := by
  obtain ⟨k, P, hk, hC, hP⟩ := bk_run (l := kl K) (D := kD K) (aC := kC K) A I hN (xs (i + 1))
  refine mJ_aload_n hK dL_law_868 rfl ?_
  refine mJ_aload_n hK dL_law_869 rfl ?_
  refine mJ_iload hK dL_law_870 rfl ?_
  refine mJ_iconst (v := nI 1) hK dL_law_872 (by decide) ?_
  refine mJ_iaddN hK dL_law_873 ?_
  refine mJ_sld (i + 1) hX hbl hbA hK dL_law_874 rfl (by omega) (by omega) ?_
  refine mJ_aload_n hK dL_law_875 rfl ?_
  refine mJ_callH hNo hK dL_law_876 lL_148 (by unfold mFit; decide) ⟨by show cells + 1 ≤ 607087; omega, by show slots + 6 ≤ 7274842; omega⟩ rfl rfl (Nat.le_of_ble_eq_true rfl) hC (fun r u1 hq => ?_)
  obtain ⟨rfl, hp⟩ := hq
  obtain ⟨⟨fs, hfs⟩, bv, Q, hM, hQ⟩ := hP u1 hp
  refine mJ_istore hK dL_law_879 (by decide) rfl ?_
  refine mJ_aload_n hK dL_law_881 rfl ?_
  refine mJ_aload_n hK dL_law_882 rfl ?_
  refine mJ_iload hK dL_law_883 rfl ?_
  refine mJ_iconst (v := nI 1) hK dL_law_885 (by decide) ?_
  refine mJ_iaddN hK dL_law_886 ?_
  refine mJ_sld (i + 1) hX hbl hbA hK dL_law_887 rfl (by omega) (by omega) ?_
  refine mJ_callV hK dL_law_888 lL_150 (by unfold mFit; decide) ⟨by show cells + 1 + 0 ≤ 607087; omega, by show slots + 6 + 0 ≤ 7274842; omega⟩ rfl rfl (Nat.le_of_ble_eq_true rfl) hfs ⟨_, _, rfl⟩ hM (fun r u2 hq => ?_)
  obtain ⟨rfl, hq⟩ := hq
  obtain ⟨⟨fs2, hfs2⟩, hT, ⟨w, hw, hwk⟩, hI9⟩ := hQ u2 hq
  refine mJ_istore hK dL_law_891 (by decide) rfl ?_
  refine mJ_aload_n hK dL_law_893 rfl ?_
  refine mJ_cVi hK dL_law_894 lL_84 (by unfold mFit; decide) ⟨by show cells + 1 + 0 + 0 ≤ 607087; omega, by show slots + 6 + 0 + 0 ≤ 7274842; omega⟩ hT rfl rfl (Nat.le_of_ble_eq_true rfl) hfs2 ⟨_, _, rfl⟩ (fun u3 e9 => ?_)
  subst e9
  refine mJ_iload hK dL_law_897 rfl ?_
  refine mJ_icmp_eq (tgt := 904) hK dL_law_899 (by decide) (fun _ => ?_) (fun z => absurd rfl z)
  refine mJ_iload hK dL_law_904 rfl ?_
  refine mJ_nif_ne (tgt := 921) hK dL_law_906 (by decide) (by omega) (fun _ => ?_) (fun k0 => ?_)
  · refine mJ_goto (tgt := 1400) hK dL_law_921 (by decide) ?_
    refine mJ_widen (k := cells + 2) (n := slots + 12) (by show cells + 1 + 0 + 0 ≤ _; omega) (by show slots + 6 + 0 + 0 ≤ _; omega) (mJ_less less9 (kk _ hI9))
  · refine mJ_aload_n hK dL_law_909 rfl ?_
    refine mJ_iconst (v := nI 0) hK dL_law_910 (by decide) ?_
    refine mJ_laldN 0 hK dL_law_911 hw rfl (by omega) (by decide) ?_
    refine mJ_iload hK dL_law_912 rfl ?_
    refine mJ_i2l hK dL_law_914 ?_
    refine mJ_lcmp hK dL_law_915 ?_
    refine mJ_if_eq (tgt := 921) hK dL_law_916 (by decide) (fun _ => ?_) (fun z => absurd (by rw [hwk k0]; exact lgc_s) z)
    refine mJ_goto (tgt := 1400) hK dL_law_921 (by decide) ?_
    refine mJ_widen (k := cells + 2) (n := slots + 12) (by show cells + 1 + 0 + 0 ≤ _; omega) (by show slots + 6 + 0 + 0 ≤ _; omega) (mJ_less less9 (kk _ hI9))

set_option maxRecDepth 100000 in
set_option maxHeartbeats 4000000 in
theorem lw_c19 {K : mK} (hK : mCx K mL_law) (hNo : mNo (kD K) (kC K) (ks K)) {b Ls : Nat} {xs : Nat → Int32} (hX : va_X b Ls xs (ks K) (ks K).heap) (hbl : b < (ks K).heap.size) (hbA : ¬ kA K b) (hLs : Ls ≤ 1536) {ax ay : xAd} {o od N i : Nat} (A : LwA ax ay o od) {h : mH} (I : LwI ax ay o od N h) (hN : N < 100000) (hi : i + 3 ≤ Ls) {cells slots : Nat} (hc : cells + 2 ≤ 607087) (hs : slots + 12 ≤ 7274842) (kk : ∀ h', LwI ax ay o od (N + 1) h' → mJ K (cells + 2) (slots + 12) 1400 [some (.ref b), some (.ref (ax 0 0 0)), some (.ref (ay 30 0 0)), some (.ref o), some (.ref od), some (.int (nI i)), none, none, none] [] h') : mJ K cells slots 924 [some (.ref b), some (.ref (ax 0 0 0)), some (.ref (ay 30 0 0)), some (.ref o), some (.ref od), some (.int (nI i)), none, none, none] [] h := by
  obtain ⟨v, ⟨fs, hfs⟩, P, hC, hP⟩ := bk_isStuck (l := kl K) (D := kD K) (aC := kC K) A I hN
  refine mJ_aload_n hK dL_law_924 rfl ?_
  refine mJ_callV hK dL_law_925 lL_151 (by unfold mFit; decide) ⟨by show cells + 0 ≤ 607087; omega, by show slots + 0 ≤ 7274842; omega⟩ rfl rfl (Nat.le_of_ble_eq_true rfl) hfs ⟨_, _, rfl⟩ hC (fun r u1 hq => ?_)
  obtain ⟨rfl, hp⟩ := hq
  obtain ⟨⟨fs2, hfs2⟩, Q, hM, hQ⟩ := hP u1 hp
  refine mJ_aload_n hK dL_law_928 rfl ?_
  refine mJ_callV hK dL_law_929 lL_155 (by unfold mFit; decide) ⟨by show cells + 0 + 0 ≤ 607087; omega, by show slots + 0 + 0 ≤ 7274842; omega⟩ rfl rfl (Nat.le_of_ble_eq_true rfl) hfs2 ⟨_, _, rfl⟩ hM (fun r u2 hq => ?_)
  obtain ⟨rfl, hq⟩ := hq
  have hI9 := hQ u2 hq
  refine mJ_icmp_eq (tgt := 1400) hK dL_law_932 (by decide) (fun _ => ?_) (fun z => absurd rfl z)
  refine mJ_widen (k := cells + 2) (n := slots + 12) (by show cells + 0 + 0 ≤ _; omega) (by show slots + 0 + 0 ≤ _; omega) (mJ_less less9 (kk _ hI9))

set_option maxRecDepth 100000 in
set_option maxHeartbeats 4000000 in
theorem lw_c20 {K : mK} (hK : mCx K mL_law) (hNo : mNo (kD K) (kC K) (ks K)) {b Ls : Nat} {xs : Nat → Int32} (hX : va_X b Ls xs (ks K) (ks K).heap) (hbl : b < (ks K).heap.size) (hbA : ¬ kA K b) (hLs : Ls ≤ 1536) {ax ay : xAd} {o od N i : Nat} (A : LwA ax ay o od) {h : mH} (I : LwI ax ay o od N h) (hN : N < 100000) (hi : i + 3 ≤ Ls) {cells slots : Nat} (hc : cells + 2 ≤ 607087) (hs : slots + 12 ≤ 7274842) (kk : ∀ h', LwI ax ay o od (N + 1) h' → mJ K (cells + 2) (slots + 12) 1400 [some (.ref b), some (.ref (ax 0 0 0)), some (.ref (ay 30 0 0)), some (.ref o), some (.ref od), some (.int (nI i)), none, none, none] [] h') : mJ K cells slots 937 [some (.ref b), some (.ref (ax 0 0 0)), some (.ref (ay 30 0 0)), some (.ref o), some (.ref od), some (.int (nI i)), none, none, none] [] h := by
  obtain ⟨k, P, hk, hC, hP⟩ := bk_ticketState (l := kl K) (D := kD K) (aC := kC K) A I hN (xs (i + 1))
  refine mJ_aload_n hK dL_law_937 rfl ?_
  refine mJ_aload_n hK dL_law_938 rfl ?_
  refine mJ_iload hK dL_law_939 rfl ?_
  refine mJ_iconst (v := nI 1) hK dL_law_941 (by decide) ?_
  refine mJ_iaddN hK dL_law_942 ?_
  refine mJ_sld (i + 1) hX hbl hbA hK dL_law_943 rfl (by omega) (by omega) ?_
  refine mJ_aload_n hK dL_law_944 rfl ?_
  refine mJ_callH hNo hK dL_law_945 lL_156 (by unfold mFit; decide) ⟨by show cells + 1 ≤ 607087; omega, by show slots + 6 ≤ 7274842; omega⟩ rfl rfl (Nat.le_of_ble_eq_true rfl) hC (fun r u1 hq => ?_)
  obtain ⟨rfl, hp⟩ := hq
  obtain ⟨⟨fs, hfs⟩, bv, Q, hM, hQ⟩ := hP u1 hp
  refine mJ_istore hK dL_law_948 (by decide) rfl ?_
  refine mJ_aload_n hK dL_law_950 rfl ?_
  refine mJ_aload_n hK dL_law_951 rfl ?_
  refine mJ_iload hK dL_law_952 rfl ?_
  refine mJ_iconst (v := nI 1) hK dL_law_954 (by decide) ?_
  refine mJ_iaddN hK dL_law_955 ?_
  refine mJ_sld (i + 1) hX hbl hbA hK dL_law_956 rfl (by omega) (by omega) ?_
  refine mJ_callV hK dL_law_957 lL_158 (by unfold mFit; decide) ⟨by show cells + 1 + 0 ≤ 607087; omega, by show slots + 6 + 0 ≤ 7274842; omega⟩ rfl rfl (Nat.le_of_ble_eq_true rfl) hfs ⟨_, _, rfl⟩ hM (fun r u2 hq => ?_)
  obtain ⟨rfl, hq⟩ := hq
  obtain ⟨⟨fs2, hfs2⟩, hT, ⟨w, hw, hwk⟩, hI9⟩ := hQ u2 hq
  refine mJ_istore hK dL_law_960 (by decide) rfl ?_
  refine mJ_aload_n hK dL_law_962 rfl ?_
  refine mJ_cVi hK dL_law_963 lL_84 (by unfold mFit; decide) ⟨by show cells + 1 + 0 + 0 ≤ 607087; omega, by show slots + 6 + 0 + 0 ≤ 7274842; omega⟩ hT rfl rfl (Nat.le_of_ble_eq_true rfl) hfs2 ⟨_, _, rfl⟩ (fun u3 e9 => ?_)
  subst e9
  refine mJ_iload hK dL_law_966 rfl ?_
  refine mJ_icmp_eq (tgt := 973) hK dL_law_968 (by decide) (fun _ => ?_) (fun z => absurd rfl z)
  refine mJ_iload hK dL_law_973 rfl ?_
  refine mJ_nif_ne (tgt := 990) hK dL_law_975 (by decide) (by omega) (fun _ => ?_) (fun k0 => ?_)
  · refine mJ_goto (tgt := 1400) hK dL_law_990 (by decide) ?_
    refine mJ_widen (k := cells + 2) (n := slots + 12) (by show cells + 1 + 0 + 0 ≤ _; omega) (by show slots + 6 + 0 + 0 ≤ _; omega) (mJ_less less9 (kk _ hI9))
  · refine mJ_aload_n hK dL_law_978 rfl ?_
    refine mJ_iconst (v := nI 0) hK dL_law_979 (by decide) ?_
    refine mJ_laldN 0 hK dL_law_980 hw rfl (by omega) (by decide) ?_
    refine mJ_iload hK dL_law_981 rfl ?_
    refine mJ_i2l hK dL_law_983 ?_
    refine mJ_lcmp hK dL_law_984 ?_
    refine mJ_if_eq (tgt := 990) hK dL_law_985 (by decide) (fun _ => ?_) (fun z => absurd (by rw [hwk k0]; exact lgc_s) z)
    refine mJ_goto (tgt := 1400) hK dL_law_990 (by decide) ?_
    refine mJ_widen (k := cells + 2) (n := slots + 12) (by show cells + 1 + 0 + 0 ≤ _; omega) (by show slots + 6 + 0 + 0 ≤ _; omega) (mJ_less less9 (kk _ hI9))

set_option maxRecDepth 100000 in
set_option maxHeartbeats 4000000 in
theorem lw_c21 {K : mK} (hK : mCx K mL_law) (hNo : mNo (kD K) (kC K) (ks K)) {b Ls : Nat} {xs : Nat → Int32} (hX : va_X b Ls xs (ks K) (ks K).heap) (hbl : b < (ks K).heap.size) (hbA : ¬ kA K b) (hLs : Ls ≤ 1536) {ax ay : xAd} {o od N i : Nat} (A : LwA ax ay o od) {h : mH} (I : LwI ax ay o od N h) (hN : N < 100000) (hi : i + 3 ≤ Ls) {cells slots : Nat} (hc : cells + 2 ≤ 607087) (hs : slots + 12 ≤ 7274842) (kk : ∀ h', LwI ax ay o od (N + 1) h' → mJ K (cells + 2) (slots + 12) 1400 [some (.ref b), some (.ref (ax 0 0 0)), some (.ref (ay 30 0 0)), some (.ref o), some (.ref od), some (.int (nI i)), none, none, none] [] h') : mJ K cells slots 993 [some (.ref b), some (.ref (ax 0 0 0)), some (.ref (ay 30 0 0)), some (.ref o), some (.ref od), some (.int (nI i)), none, none, none] [] h := by
  obtain ⟨k, P, hk, hC, hP⟩ := bk_replyOf (l := kl K) (D := kD K) (aC := kC K) A I hN (xs (i + 1))
  refine mJ_aload_n hK dL_law_993 rfl ?_
  refine mJ_aload_n hK dL_law_994 rfl ?_
  refine mJ_iload hK dL_law_995 rfl ?_
  refine mJ_iconst (v := nI 1) hK dL_law_997 (by decide) ?_
  refine mJ_iaddN hK dL_law_998 ?_
  refine mJ_sld (i + 1) hX hbl hbA hK dL_law_999 rfl (by omega) (by omega) ?_
  refine mJ_aload_n hK dL_law_1000 rfl ?_
  refine mJ_callH hNo hK dL_law_1001 lL_159 (by unfold mFit; decide) ⟨by show cells + 2 ≤ 607087; omega, by show slots + 12 ≤ 7274842; omega⟩ rfl rfl (Nat.le_of_ble_eq_true rfl) hC (fun r u1 hq => ?_)
  obtain ⟨rfl, hp⟩ := hq
  obtain ⟨⟨fs, hfs⟩, bv, Q, hM, hQ⟩ := hP u1 hp
  refine mJ_istore hK dL_law_1004 (by decide) rfl ?_
  refine mJ_aload_n hK dL_law_1006 rfl ?_
  refine mJ_aload_n hK dL_law_1007 rfl ?_
  refine mJ_iload hK dL_law_1008 rfl ?_
  refine mJ_iconst (v := nI 1) hK dL_law_1010 (by decide) ?_
  refine mJ_iaddN hK dL_law_1011 ?_
  refine mJ_sld (i + 1) hX hbl hbA hK dL_law_1012 rfl (by omega) (by omega) ?_
  refine mJ_callV hK dL_law_1013 lL_161 (by unfold mFit; decide) ⟨by show cells + 2 + 0 ≤ 607087; omega, by show slots + 12 + 0 ≤ 7274842; omega⟩ rfl rfl (Nat.le_of_ble_eq_true rfl) hfs ⟨_, _, rfl⟩ hM (fun r u2 hq => ?_)
  obtain ⟨rfl, hq⟩ := hq
  obtain ⟨⟨fs2, hfs2⟩, hT, ⟨w, hw, hwk⟩, hI9⟩ := hQ u2 hq
  refine mJ_istore hK dL_law_1016 (by decide) rfl ?_
  refine mJ_aload_n hK dL_law_1018 rfl ?_
  refine mJ_cVi hK dL_law_1019 lL_84 (by unfold mFit; decide) ⟨by show cells + 2 + 0 + 0 ≤ 607087; omega, by show slots + 12 + 0 + 0 ≤ 7274842; omega⟩ hT rfl rfl (Nat.le_of_ble_eq_true rfl) hfs2 ⟨_, _, rfl⟩ (fun u3 e9 => ?_)
  subst e9
  refine mJ_iload hK dL_law_1022 rfl ?_
  refine mJ_icmp_eq (tgt := 1029) hK dL_law_1024 (by decide) (fun _ => ?_) (fun z => absurd rfl z)
  refine mJ_iload hK dL_law_1029 rfl ?_
  refine mJ_nif_ne (tgt := 1046) hK dL_law_1031 (by decide) (by omega) (fun _ => ?_) (fun k0 => ?_)
  · refine mJ_goto (tgt := 1400) hK dL_law_1046 (by decide) ?_
    refine mJ_widen (k := cells + 2) (n := slots + 12) (by show cells + 2 + 0 + 0 ≤ _; omega) (by show slots + 12 + 0 + 0 ≤ _; omega) (mJ_less less9 (kk _ hI9))
  · refine mJ_aload_n hK dL_law_1034 rfl ?_
    refine mJ_iconst (v := nI 0) hK dL_law_1035 (by decide) ?_
    refine mJ_laldN 0 hK dL_law_1036 hw rfl (by omega) (by decide) ?_
    refine mJ_iload hK dL_law_1037 rfl ?_
    refine mJ_i2l hK dL_law_1039 ?_
    refine mJ_lcmp hK dL_law_1040 ?_
    refine mJ_if_eq (tgt := 1046) hK dL_law_1041 (by decide) (fun _ => ?_) (fun z => absurd (by rw [hwk k0]; exact lgc_s) z)
    refine mJ_goto (tgt := 1400) hK dL_law_1046 (by decide) ?_
    refine mJ_widen (k := cells + 2) (n := slots + 12) (by show cells + 2 + 0 + 0 ≤ _; omega) (by show slots + 12 + 0 + 0 ≤ _; omega) (mJ_less less9 (kk _ hI9))

set_option maxRecDepth 100000 in
set_option maxHeartbeats 4000000 in
theorem lw_c22 {K : mK} (hK : mCx K mL_law) (hNo : mNo (kD K) (kC K) (ks K)) {b Ls : Nat} {xs : Nat → Int32} (hX : va_X b Ls xs (ks K) (ks K).heap) (hbl : b < (ks K).heap.size) (hbA : ¬ kA K b) (hLs : Ls ≤ 1536) {ax ay : xAd} {o od N i : Nat} (A : LwA ax ay o od) {h : mH} (I : LwI ax ay o od N h) (hN : N < 100000) (hi : i + 3 ≤ Ls) {cells slots : Nat} (hc : cells + 2 ≤ 607087) (hs : slots + 12 ≤ 7274842) (kk : ∀ h', LwI ax ay o od (N + 1) h' → mJ K (cells + 2) (slots + 12) 1400 [some (.ref b), some (.ref (ax 0 0 0)), some (.ref (ay 30 0 0)), some (.ref o), some (.ref od), some (.int (nI i)), none, none, none] [] h') : mJ K cells slots 1049 [some (.ref b), some (.ref (ax 0 0 0)), some (.ref (ay 30 0 0)), some (.ref o), some (.ref od), some (.int (nI i)), none, none, none] [] h := by
  obtain ⟨k, P, hk, hC, hP⟩ := bk_firings (l := kl K) (D := kD K) (aC := kC K) A I hN (xs (i + 1))
  refine mJ_aload_n hK dL_law_1049 rfl ?_
  refine mJ_aload_n hK dL_law_1050 rfl ?_
  refine mJ_iload hK dL_law_1051 rfl ?_
  refine mJ_iconst (v := nI 1) hK dL_law_1053 (by decide) ?_
  refine mJ_iaddN hK dL_law_1054 ?_
  refine mJ_sld (i + 1) hX hbl hbA hK dL_law_1055 rfl (by omega) (by omega) ?_
  refine mJ_aload_n hK dL_law_1056 rfl ?_
  refine mJ_callH hNo hK dL_law_1057 lL_162 (by unfold mFit; decide) ⟨by show cells + 1 ≤ 607087; omega, by show slots + 6 ≤ 7274842; omega⟩ rfl rfl (Nat.le_of_ble_eq_true rfl) hC (fun r u1 hq => ?_)
  obtain ⟨rfl, hp⟩ := hq
  obtain ⟨⟨fs, hfs⟩, bv, Q, hM, hQ⟩ := hP u1 hp
  refine mJ_istore hK dL_law_1060 (by decide) rfl ?_
  refine mJ_aload_n hK dL_law_1062 rfl ?_
  refine mJ_aload_n hK dL_law_1063 rfl ?_
  refine mJ_iload hK dL_law_1064 rfl ?_
  refine mJ_iconst (v := nI 1) hK dL_law_1066 (by decide) ?_
  refine mJ_iaddN hK dL_law_1067 ?_
  refine mJ_sld (i + 1) hX hbl hbA hK dL_law_1068 rfl (by omega) (by omega) ?_
  refine mJ_callV hK dL_law_1069 lL_164 (by unfold mFit; decide) ⟨by show cells + 1 + 0 ≤ 607087; omega, by show slots + 6 + 0 ≤ 7274842; omega⟩ rfl rfl (Nat.le_of_ble_eq_true rfl) hfs ⟨_, _, rfl⟩ hM (fun r u2 hq => ?_)
  obtain ⟨rfl, hq⟩ := hq
  obtain ⟨⟨fs2, hfs2⟩, hT, ⟨w, hw, hwk⟩, hI9⟩ := hQ u2 hq
  refine mJ_istore hK dL_law_1072 (by decide) rfl ?_
  refine mJ_aload_n hK dL_law_1074 rfl ?_
  refine mJ_cVi hK dL_law_1075 lL_84 (by unfold mFit; decide) ⟨by show cells + 1 + 0 + 0 ≤ 607087; omega, by show slots + 6 + 0 + 0 ≤ 7274842; omega⟩ hT rfl rfl (Nat.le_of_ble_eq_true rfl) hfs2 ⟨_, _, rfl⟩ (fun u3 e9 => ?_)
  subst e9
  refine mJ_iload hK dL_law_1078 rfl ?_
  refine mJ_icmp_eq (tgt := 1085) hK dL_law_1080 (by decide) (fun _ => ?_) (fun z => absurd rfl z)
  refine mJ_iload hK dL_law_1085 rfl ?_
  refine mJ_nif_ne (tgt := 1102) hK dL_law_1087 (by decide) (by omega) (fun _ => ?_) (fun k0 => ?_)
  · refine mJ_goto (tgt := 1400) hK dL_law_1102 (by decide) ?_
    refine mJ_widen (k := cells + 2) (n := slots + 12) (by show cells + 1 + 0 + 0 ≤ _; omega) (by show slots + 6 + 0 + 0 ≤ _; omega) (mJ_less less9 (kk _ hI9))
  · refine mJ_aload_n hK dL_law_1090 rfl ?_
    refine mJ_iconst (v := nI 0) hK dL_law_1091 (by decide) ?_
    refine mJ_laldN 0 hK dL_law_1092 hw rfl (by omega) (by decide) ?_
    refine mJ_iload hK dL_law_1093 rfl ?_
    refine mJ_i2l hK dL_law_1095 ?_
    refine mJ_lcmp hK dL_law_1096 ?_
    refine mJ_if_eq (tgt := 1102) hK dL_law_1097 (by decide) (fun _ => ?_) (fun z => absurd (by rw [hwk k0]; exact lgc_s) z)
    refine mJ_goto (tgt := 1400) hK dL_law_1102 (by decide) ?_
    refine mJ_widen (k := cells + 2) (n := slots + 12) (by show cells + 1 + 0 + 0 ≤ _; omega) (by show slots + 6 + 0 + 0 ≤ _; omega) (mJ_less less9 (kk _ hI9))

set_option maxRecDepth 100000 in
set_option maxHeartbeats 4000000 in
theorem lw_c23 {K : mK} (hK : mCx K mL_law) (hNo : mNo (kD K) (kC K) (ks K)) {b Ls : Nat} {xs : Nat → Int32} (hX : va_X b Ls xs (ks K) (ks K).heap) (hbl : b < (ks K).heap.size) (hbA : ¬ kA K b) (hLs : Ls ≤ 1536) {ax ay : xAd} {o od N i : Nat} (A : LwA ax ay o od) {h : mH} (I : LwI ax ay o od N h) (hN : N < 100000) (hi : i + 3 ≤ Ls) {cells slots : Nat} (hc : cells + 2 ≤ 607087) (hs : slots + 12 ≤ 7274842) (kk : ∀ h', LwI ax ay o od (N + 1) h' → mJ K (cells + 2) (slots + 12) 1400 [some (.ref b), some (.ref (ax 0 0 0)), some (.ref (ay 30 0 0)), some (.ref o), some (.ref od), some (.int (nI i)), none, none, none] [] h') : mJ K cells slots 1105 [some (.ref b), some (.ref (ax 0 0 0)), some (.ref (ay 30 0 0)), some (.ref o), some (.ref od), some (.int (nI i)), none, none, none] [] h := by
  obtain ⟨k, P, hk, hC, hP⟩ := bk_consumed (l := kl K) (D := kD K) (aC := kC K) A I hN (xs (i + 1))
  refine mJ_aload_n hK dL_law_1105 rfl ?_
  refine mJ_aload_n hK dL_law_1106 rfl ?_
  refine mJ_iload hK dL_law_1107 rfl ?_
  refine mJ_iconst (v := nI 1) hK dL_law_1109 (by decide) ?_
  refine mJ_iaddN hK dL_law_1110 ?_
  refine mJ_sld (i + 1) hX hbl hbA hK dL_law_1111 rfl (by omega) (by omega) ?_
  refine mJ_aload_n hK dL_law_1112 rfl ?_
  refine mJ_callH hNo hK dL_law_1113 lL_165 (by unfold mFit; decide) ⟨by show cells + 1 ≤ 607087; omega, by show slots + 6 ≤ 7274842; omega⟩ rfl rfl (Nat.le_of_ble_eq_true rfl) hC (fun r u1 hq => ?_)
  obtain ⟨rfl, hp⟩ := hq
  obtain ⟨⟨fs, hfs⟩, bv, Q, hM, hQ⟩ := hP u1 hp
  refine mJ_istore hK dL_law_1116 (by decide) rfl ?_
  refine mJ_aload_n hK dL_law_1118 rfl ?_
  refine mJ_aload_n hK dL_law_1119 rfl ?_
  refine mJ_iload hK dL_law_1120 rfl ?_
  refine mJ_iconst (v := nI 1) hK dL_law_1122 (by decide) ?_
  refine mJ_iaddN hK dL_law_1123 ?_
  refine mJ_sld (i + 1) hX hbl hbA hK dL_law_1124 rfl (by omega) (by omega) ?_
  refine mJ_callV hK dL_law_1125 lL_167 (by unfold mFit; decide) ⟨by show cells + 1 + 0 ≤ 607087; omega, by show slots + 6 + 0 ≤ 7274842; omega⟩ rfl rfl (Nat.le_of_ble_eq_true rfl) hfs ⟨_, _, rfl⟩ hM (fun r u2 hq => ?_)
  obtain ⟨rfl, hq⟩ := hq
  obtain ⟨⟨fs2, hfs2⟩, hT, ⟨w, hw, hwk⟩, hI9⟩ := hQ u2 hq
  refine mJ_istore hK dL_law_1128 (by decide) rfl ?_
  refine mJ_aload_n hK dL_law_1130 rfl ?_
  refine mJ_cVi hK dL_law_1131 lL_84 (by unfold mFit; decide) ⟨by show cells + 1 + 0 + 0 ≤ 607087; omega, by show slots + 6 + 0 + 0 ≤ 7274842; omega⟩ hT rfl rfl (Nat.le_of_ble_eq_true rfl) hfs2 ⟨_, _, rfl⟩ (fun u3 e9 => ?_)
  subst e9
  refine mJ_iload hK dL_law_1134 rfl ?_
  refine mJ_icmp_eq (tgt := 1141) hK dL_law_1136 (by decide) (fun _ => ?_) (fun z => absurd rfl z)
  refine mJ_iload hK dL_law_1141 rfl ?_
  refine mJ_nif_ne (tgt := 1158) hK dL_law_1143 (by decide) (by omega) (fun _ => ?_) (fun k0 => ?_)
  · refine mJ_goto (tgt := 1400) hK dL_law_1158 (by decide) ?_
    refine mJ_widen (k := cells + 2) (n := slots + 12) (by show cells + 1 + 0 + 0 ≤ _; omega) (by show slots + 6 + 0 + 0 ≤ _; omega) (mJ_less less9 (kk _ hI9))
  · refine mJ_aload_n hK dL_law_1146 rfl ?_
    refine mJ_iconst (v := nI 0) hK dL_law_1147 (by decide) ?_
    refine mJ_laldN 0 hK dL_law_1148 hw rfl (by omega) (by decide) ?_
    refine mJ_iload hK dL_law_1149 rfl ?_
    refine mJ_i2l hK dL_law_1151 ?_
    refine mJ_lcmp hK dL_law_1152 ?_
    refine mJ_if_eq (tgt := 1158) hK dL_law_1153 (by decide) (fun _ => ?_) (fun z => absurd (by rw [hwk k0]; exact lgc_s) z)
    refine mJ_goto (tgt := 1400) hK dL_law_1158 (by decide) ?_
    refine mJ_widen (k := cells + 2) (n := slots + 12) (by show cells + 1 + 0 + 0 ≤ _; omega) (by show slots + 6 + 0 + 0 ≤ _; omega) (mJ_less less9 (kk _ hI9))

set_option maxRecDepth 100000 in
set_option maxHeartbeats 4000000 in
theorem lw_c24 {K : mK} (hK : mCx K mL_law) (hNo : mNo (kD K) (kC K) (ks K)) {b Ls : Nat} {xs : Nat → Int32} (hX : va_X b Ls xs (ks K) (ks K).heap) (hbl : b < (ks K).heap.size) (hbA : ¬ kA K b) (hLs : Ls ≤ 1536) {ax ay : xAd} {o od N i : Nat} (A : LwA ax ay o od) {h : mH} (I : LwI ax ay o od N h) (hN : N < 100000) (hi : i + 3 ≤ Ls) {cells slots : Nat} (hc : cells + 2 ≤ 607087) (hs : slots + 12 ≤ 7274842) (kk : ∀ h', LwI ax ay o od (N + 1) h' → mJ K (cells + 2) (slots + 12) 1400 [some (.ref b), some (.ref (ax 0 0 0)), some (.ref (ay 30 0 0)), some (.ref o), some (.ref od), some (.int (nI i)), none, none, none] [] h') : mJ K cells slots 1161 [some (.ref b), some (.ref (ax 0 0 0)), some (.ref (ay 30 0 0)), some (.ref o), some (.ref od), some (.int (nI i)), none, none, none] [] h := by
  obtain ⟨k, P, hk, hC, hP⟩ := bk_meanWait (l := kl K) (D := kD K) (aC := kC K) A I hN (xs (i + 1))
  refine mJ_aload_n hK dL_law_1161 rfl ?_
  refine mJ_aload_n hK dL_law_1162 rfl ?_
  refine mJ_iload hK dL_law_1163 rfl ?_
  refine mJ_iconst (v := nI 1) hK dL_law_1165 (by decide) ?_
  refine mJ_iaddN hK dL_law_1166 ?_
  refine mJ_sld (i + 1) hX hbl hbA hK dL_law_1167 rfl (by omega) (by omega) ?_
  refine mJ_aload hK dL_law_1168 rfl ?_
  refine mJ_callH hNo hK dL_law_1170 lL_168 (by unfold mFit; decide) ⟨by show cells + 1 ≤ 607087; omega, by show slots + 6 ≤ 7274842; omega⟩ rfl rfl (Nat.le_of_ble_eq_true rfl) hC (fun r u1 hq => ?_)
  obtain ⟨rfl, hp⟩ := hq
  obtain ⟨⟨fs, hfs⟩, bv, c9, Q, ht9, hn9, hM, hQ⟩ := hP u1 hp
  subst ht9
  refine mJ_istore hK dL_law_1173 (by decide) rfl ?_
  refine mJ_aload_n hK dL_law_1175 rfl ?_
  refine mJ_aload_n hK dL_law_1176 rfl ?_
  refine mJ_iload hK dL_law_1177 rfl ?_
  refine mJ_iconst (v := nI 1) hK dL_law_1179 (by decide) ?_
  refine mJ_iaddN hK dL_law_1180 ?_
  refine mJ_sld (i + 1) hX hbl hbA hK dL_law_1181 rfl (by omega) (by omega) ?_
  refine mJ_callV hK dL_law_1182 lL_171 (by unfold mFit; decide) ⟨by show cells + 1 + 0 ≤ 607087; omega, by show slots + 6 + 0 ≤ 7274842; omega⟩ rfl rfl (Nat.le_of_ble_eq_true rfl) hfs ⟨_, _, rfl⟩ hM (fun r u2 hq => ?_)
  obtain ⟨rfl, hq⟩ := hq
  obtain ⟨⟨fs2, hfs2⟩, hT, ⟨w, hw, hwk⟩, hI9⟩ := hQ u2 hq
  refine mJ_dstore hK dL_law_1185 (by decide) rfl ?_
  refine mJ_aload_n hK dL_law_1187 rfl ?_
  refine mJ_cVi hK dL_law_1188 lL_84 (by unfold mFit; decide) ⟨by show cells + 1 + 0 + 0 ≤ 607087; omega, by show slots + 6 + 0 + 0 ≤ 7274842; omega⟩ hT rfl rfl (Nat.le_of_ble_eq_true rfl) hfs2 ⟨_, _, rfl⟩ (fun u3 e9 => ?_)
  subst e9
  refine mJ_iload hK dL_law_1191 rfl ?_
  refine mJ_icmp_eq (tgt := 1198) hK dL_law_1193 (by decide) (fun _ => ?_) (fun z => absurd rfl z)
  refine mJ_iload hK dL_law_1198 rfl ?_
  refine mJ_nif_ne (tgt := 1235) hK dL_law_1200 (by decide) (by omega) (fun _ => ?_) (fun k0 => ?_)
  · refine mJ_goto (tgt := 1400) hK dL_law_1235 (by decide) ?_
    refine mJ_widen (k := cells + 2) (n := slots + 12) (by show cells + 1 + 0 + 0 ≤ _; omega) (by show slots + 6 + 0 + 0 ≤ _; omega) (mJ_less less9 (kk _ hI9))
  · refine mJ_aload hK dL_law_1203 rfl ?_
    refine mJ_iconst (v := nI 0) hK dL_law_1205 (by decide) ?_
    refine mJ_dald 0 hNo hK dL_law_1206 hw rfl (by omega) (by decide) ?_
    refine mJ_dload hK dL_law_1207 rfl ?_
    refine mJ_dcmp hK dL_law_1209 ?_
    refine mJ_if_eq (tgt := 1235) hK dL_law_1210 (by decide) (fun _ => ?_) (fun z => absurd (by rw [hwk k0]; exact dc_self hn9) z)
    refine mJ_goto (tgt := 1400) hK dL_law_1235 (by decide) ?_
    refine mJ_widen (k := cells + 2) (n := slots + 12) (by show cells + 1 + 0 + 0 ≤ _; omega) (by show slots + 6 + 0 + 0 ≤ _; omega) (mJ_less less9 (kk _ hI9))

set_option maxRecDepth 100000 in
set_option maxHeartbeats 4000000 in
theorem lw_c25 {K : mK} (hK : mCx K mL_law) (hNo : mNo (kD K) (kC K) (ks K)) {b Ls : Nat} {xs : Nat → Int32} (hX : va_X b Ls xs (ks K) (ks K).heap) (hbl : b < (ks K).heap.size) (hbA : ¬ kA K b) (hLs : Ls ≤ 1536) {ax ay : xAd} {o od N i : Nat} (A : LwA ax ay o od) {h : mH} (I : LwI ax ay o od N h) (hN : N < 100000) (hi : i + 3 ≤ Ls) {cells slots : Nat} (hc : cells + 2 ≤ 607087) (hs : slots + 12 ≤ 7274842) (kk : ∀ h', LwI ax ay o od (N + 1) h' → mJ K (cells + 2) (slots + 12) 1400 [some (.ref b), some (.ref (ax 0 0 0)), some (.ref (ay 30 0 0)), some (.ref o), some (.ref od), some (.int (nI i)), none, none, none] [] h') : mJ K cells slots 1238 [some (.ref b), some (.ref (ax 0 0 0)), some (.ref (ay 30 0 0)), some (.ref o), some (.ref od), some (.int (nI i)), none, none, none] [] h := by
  obtain ⟨k, P, hk, hC, hP⟩ := bk_shareOf (l := kl K) (D := kD K) (aC := kC K) A I hN (xs (i + 1))
  refine mJ_aload_n hK dL_law_1238 rfl ?_
  refine mJ_aload_n hK dL_law_1239 rfl ?_
  refine mJ_iload hK dL_law_1240 rfl ?_
  refine mJ_iconst (v := nI 1) hK dL_law_1242 (by decide) ?_
  refine mJ_iaddN hK dL_law_1243 ?_
  refine mJ_sld (i + 1) hX hbl hbA hK dL_law_1244 rfl (by omega) (by omega) ?_
  refine mJ_aload hK dL_law_1245 rfl ?_
  refine mJ_callH hNo hK dL_law_1247 lL_172 (by unfold mFit; decide) ⟨by show cells + 1 ≤ 607087; omega, by show slots + 6 ≤ 7274842; omega⟩ rfl rfl (Nat.le_of_ble_eq_true rfl) hC (fun r u1 hq => ?_)
  obtain ⟨rfl, hp⟩ := hq
  obtain ⟨⟨fs, hfs⟩, bv, c9, Q, ht9, hn9, hM, hQ⟩ := hP u1 hp
  obtain ⟨x9, rfl, rfl, hf9⟩ := ht9
  refine mJ_istore hK dL_law_1250 (by decide) rfl ?_
  refine mJ_aload_n hK dL_law_1252 rfl ?_
  refine mJ_aload_n hK dL_law_1253 rfl ?_
  refine mJ_iload hK dL_law_1254 rfl ?_
  refine mJ_iconst (v := nI 1) hK dL_law_1256 (by decide) ?_
  refine mJ_iaddN hK dL_law_1257 ?_
  refine mJ_sld (i + 1) hX hbl hbA hK dL_law_1258 rfl (by omega) (by omega) ?_
  refine mJ_callV hK dL_law_1259 lL_174 (by unfold mFit; decide) ⟨by show cells + 1 + 0 ≤ 607087; omega, by show slots + 6 + 0 ≤ 7274842; omega⟩ rfl rfl (Nat.le_of_ble_eq_true rfl) hfs ⟨_, _, rfl⟩ hM (fun r u2 hq => ?_)
  obtain ⟨rfl, hq⟩ := hq
  obtain ⟨⟨fs2, hfs2⟩, hT, ⟨w, hw, hwk⟩, hI9⟩ := hQ u2 hq
  refine mJ_fstore hK dL_law_1262 (by decide) rfl ?_
  refine mJ_aload_n hK dL_law_1264 rfl ?_
  refine mJ_cVi hK dL_law_1265 lL_84 (by unfold mFit; decide) ⟨by show cells + 1 + 0 + 0 ≤ 607087; omega, by show slots + 6 + 0 + 0 ≤ 7274842; omega⟩ hT rfl rfl (Nat.le_of_ble_eq_true rfl) hfs2 ⟨_, _, rfl⟩ (fun u3 e9 => ?_)
  subst e9
  refine mJ_iload hK dL_law_1268 rfl ?_
  refine mJ_icmp_eq (tgt := 1275) hK dL_law_1270 (by decide) (fun _ => ?_) (fun z => absurd rfl z)
  refine mJ_iload hK dL_law_1275 rfl ?_
  refine mJ_nif_ne (tgt := 1313) hK dL_law_1277 (by decide) (by omega) (fun _ => ?_) (fun k0 => ?_)
  · refine mJ_goto (tgt := 1400) hK dL_law_1313 (by decide) ?_
    refine mJ_widen (k := cells + 2) (n := slots + 12) (by show cells + 1 + 0 + 0 ≤ _; omega) (by show slots + 6 + 0 + 0 ≤ _; omega) (mJ_less less9 (kk _ hI9))
  · refine mJ_aload hK dL_law_1280 rfl ?_
    refine mJ_iconst (v := nI 0) hK dL_law_1282 (by decide) ?_
    refine mJ_dald 0 hNo hK dL_law_1283 hw rfl (by omega) (by decide) ?_
    refine mJ_fload hK dL_law_1284 rfl ?_
    refine mJ_f2d hK dL_law_1286 (n64_of hn9) ?_
    refine mJ_dcmp hK dL_law_1287 ?_
    refine mJ_if_eq (tgt := 1313) hK dL_law_1288 (by decide) (fun _ => ?_) (fun z => absurd (by rw [hwk k0]; exact dc_self hn9) z)
    refine mJ_goto (tgt := 1400) hK dL_law_1313 (by decide) ?_
    refine mJ_widen (k := cells + 2) (n := slots + 12) (by show cells + 1 + 0 + 0 ≤ _; omega) (by show slots + 6 + 0 + 0 ≤ _; omega) (mJ_less less9 (kk _ hI9))

set_option maxRecDepth 100000 in
set_option maxHeartbeats 4000000 in
theorem lw_c26 {K : mK} (hK : mCx K mL_law) (hNo : mNo (kD K) (kC K) (ks K)) {b Ls : Nat} {xs : Nat → Int32} (hX : va_X b Ls xs (ks K) (ks K).heap) (hbl : b < (ks K).heap.size) (hbA : ¬ kA K b) (hLs : Ls ≤ 1536) {ax ay : xAd} {o od N i : Nat} (A : LwA ax ay o od) {h : mH} (I : LwI ax ay o od N h) (hN : N < 100000) (hi : i + 3 ≤ Ls) {cells slots : Nat} (hc : cells + 2 ≤ 607087) (hs : slots + 12 ≤ 7274842) (kk : ∀ h', LwI ax ay o od (N + 1) h' → mJ K (cells + 2) (slots + 12) 1400 [some (.ref b), some (.ref (ax 0 0 0)), some (.ref (ay 30 0 0)), some (.ref o), some (.ref od), some (.int (nI i)), none, none, none] [] h') : mJ K cells slots 1316 [some (.ref b), some (.ref (ax 0 0 0)), some (.ref (ay 30 0 0)), some (.ref o), some (.ref od), some (.int (nI i)), none, none, none] [] h := by
  obtain ⟨v, ⟨fs, hfs⟩, P, hC, hP⟩ := bk_clock (l := kl K) (D := kD K) (aC := kC K) A I hN
  refine mJ_aload_n hK dL_law_1316 rfl ?_
  refine mJ_callV hK dL_law_1317 lL_175 (by unfold mFit; decide) ⟨by show cells + 0 ≤ 607087; omega, by show slots + 0 ≤ 7274842; omega⟩ rfl rfl (Nat.le_of_ble_eq_true rfl) hfs ⟨_, _, rfl⟩ hC (fun r u1 hq => ?_)
  obtain ⟨rfl, hp⟩ := hq
  obtain ⟨⟨fs2, hfs2⟩, Q, hM, hQ⟩ := hP u1 hp
  refine mJ_aload_n hK dL_law_1320 rfl ?_
  refine mJ_callV hK dL_law_1321 lL_178 (by unfold mFit; decide) ⟨by show cells + 0 + 0 ≤ 607087; omega, by show slots + 0 + 0 ≤ 7274842; omega⟩ rfl rfl (Nat.le_of_ble_eq_true rfl) hfs2 ⟨_, _, rfl⟩ hM (fun r u2 hq => ?_)
  obtain ⟨rfl, hq⟩ := hq
  have hI9 := hQ u2 hq
  refine mJ_icmp_eq (tgt := 1400) hK dL_law_1324 (by decide) (fun _ => ?_) (fun z => absurd rfl z)
  refine mJ_widen (k := cells + 2) (n := slots + 12) (by show cells + 0 + 0 ≤ _; omega) (by show slots + 0 + 0 ≤ _; omega) (mJ_less less9 (kk _ hI9))

set_option maxRecDepth 100000 in
set_option maxHeartbeats 4000000 in
theorem lw_c27 {K : mK} (hK : mCx K mL_law) (hNo : mNo (kD K) (kC K) (ks K)) {b Ls : Nat} {xs : Nat → Int32} (hX : va_X b Ls xs (ks K) (ks K).heap) (hbl : b < (ks K).heap.size) (hbA : ¬ kA K b) (hLs : Ls ≤ 1536) {ax ay : xAd} {o od N i : Nat} (A : LwA ax ay o od) {h : mH} (I : LwI ax ay o od N h) (hN : N < 100000) (hi : i + 3 ≤ Ls) {cells slots : Nat} (hc : cells + 2 ≤ 607087) (hs : slots + 12 ≤ 7274842) (kk : ∀ h', LwI ax ay o od (N + 1) h' → mJ K (cells + 2) (slots + 12) 1400 [some (.ref b), some (.ref (ax 0 0 0)), some (.ref (ay 30 0 0)), some (.ref o), some (.ref od), some (.int (nI i)), none, none, none] [] h') : mJ K cells slots 1329 [some (.ref b), some (.ref (ax 0 0 0)), some (.ref (ay 30 0 0)), some (.ref o), some (.ref od), some (.int (nI i)), none, none, none] [] h := by
  obtain ⟨v, ⟨fs, hfs⟩, P, hC, hP⟩ := bk_save (l := kl K) (D := kD K) (aC := kC K) A I hN
  refine mJ_aload_n hK dL_law_1329 rfl ?_
  refine mJ_callV hK dL_law_1330 lL_179 (by unfold mFit; decide) ⟨by show cells + 0 ≤ 607087; omega, by show slots + 0 ≤ 7274842; omega⟩ rfl rfl (Nat.le_of_ble_eq_true rfl) hfs ⟨_, _, rfl⟩ hC (fun r u1 hq => ?_)
  obtain ⟨rfl, hp⟩ := hq
  obtain ⟨⟨fs2, hfs2⟩, Q, hM, hQ⟩ := hP u1 hp
  refine mJ_aload_n hK dL_law_1333 rfl ?_
  refine mJ_callV hK dL_law_1334 lL_182 (by unfold mFit; decide) ⟨by show cells + 0 + 0 ≤ 607087; omega, by show slots + 0 + 0 ≤ 7274842; omega⟩ rfl rfl (Nat.le_of_ble_eq_true rfl) hfs2 ⟨_, _, rfl⟩ hM (fun r u2 hq => ?_)
  obtain ⟨rfl, hq⟩ := hq
  have hI9 := hQ u2 hq
  refine mJ_icmp_eq (tgt := 1400) hK dL_law_1337 (by decide) (fun _ => ?_) (fun z => absurd rfl z)
  refine mJ_widen (k := cells + 2) (n := slots + 12) (by show cells + 0 + 0 ≤ _; omega) (by show slots + 0 + 0 ≤ _; omega) (mJ_less less9 (kk _ hI9))

set_option maxRecDepth 100000 in
set_option maxHeartbeats 4000000 in
theorem lw_c28 {K : mK} (hK : mCx K mL_law) (hNo : mNo (kD K) (kC K) (ks K)) {b Ls : Nat} {xs : Nat → Int32} (hX : va_X b Ls xs (ks K) (ks K).heap) (hbl : b < (ks K).heap.size) (hbA : ¬ kA K b) (hLs : Ls ≤ 1536) {ax ay : xAd} {o od N i : Nat} (A : LwA ax ay o od) {h : mH} (I : LwI ax ay o od N h) (hN : N < 100000) (hi : i + 3 ≤ Ls) {cells slots : Nat} (hc : cells + 2 ≤ 607087) (hs : slots + 12 ≤ 7274842) (kk : ∀ h', LwI ax ay o od (N + 1) h' → mJ K (cells + 2) (slots + 12) 1400 [some (.ref b), some (.ref (ax 0 0 0)), some (.ref (ay 30 0 0)), some (.ref o), some (.ref od), some (.int (nI i)), none, none, none] [] h') : mJ K cells slots 1342 [some (.ref b), some (.ref (ax 0 0 0)), some (.ref (ay 30 0 0)), some (.ref o), some (.ref od), some (.int (nI i)), none, none, none] [] h := by
  obtain ⟨k, P, hk, hC, hP⟩ := bk_restore (l := kl K) (D := kD K) (aC := kC K) A I hN 
  refine mJ_aload_n hK dL_law_1342 rfl ?_
  refine mJ_aload_n hK dL_law_1343 rfl ?_
  refine mJ_callH hNo hK dL_law_1344 lL_183 (by unfold mFit; decide) ⟨by show cells + 1 ≤ 607087; omega, by show slots + 6 ≤ 7274842; omega⟩ rfl rfl (Nat.le_of_ble_eq_true rfl) hC (fun r u1 hq => ?_)
  obtain ⟨rfl, hp⟩ := hq
  obtain ⟨⟨fs, hfs⟩, bv, Q, hM, hQ⟩ := hP u1 hp
  refine mJ_istore hK dL_law_1347 (by decide) rfl ?_
  refine mJ_aload_n hK dL_law_1349 rfl ?_
  refine mJ_callV hK dL_law_1350 lL_185 (by unfold mFit; decide) ⟨by show cells + 1 + 0 ≤ 607087; omega, by show slots + 6 + 0 ≤ 7274842; omega⟩ rfl rfl (Nat.le_of_ble_eq_true rfl) hfs ⟨_, _, rfl⟩ hM (fun r u2 hq => ?_)
  obtain ⟨rfl, hq⟩ := hq
  obtain ⟨⟨fs2, hfs2⟩, hT, ⟨w, hw, hwk⟩, hI9⟩ := hQ u2 hq
  refine mJ_istore hK dL_law_1353 (by decide) rfl ?_
  refine mJ_aload_n hK dL_law_1355 rfl ?_
  refine mJ_cVi hK dL_law_1356 lL_84 (by unfold mFit; decide) ⟨by show cells + 1 + 0 + 0 ≤ 607087; omega, by show slots + 6 + 0 + 0 ≤ 7274842; omega⟩ hT rfl rfl (Nat.le_of_ble_eq_true rfl) hfs2 ⟨_, _, rfl⟩ (fun u3 e9 => ?_)
  subst e9
  refine mJ_iload hK dL_law_1359 rfl ?_
  refine mJ_icmp_eq (tgt := 1366) hK dL_law_1361 (by decide) (fun _ => ?_) (fun z => absurd rfl z)
  refine mJ_iload hK dL_law_1366 rfl ?_
  refine mJ_nif_ne (tgt := 1383) hK dL_law_1368 (by decide) (by omega) (fun _ => ?_) (fun k0 => ?_)
  · refine mJ_goto (tgt := 1400) hK dL_law_1383 (by decide) ?_
    refine mJ_widen (k := cells + 2) (n := slots + 12) (by show cells + 1 + 0 + 0 ≤ _; omega) (by show slots + 6 + 0 + 0 ≤ _; omega) (mJ_less less9 (kk _ hI9))
  · refine mJ_aload_n hK dL_law_1371 rfl ?_
    refine mJ_iconst (v := nI 0) hK dL_law_1372 (by decide) ?_
    refine mJ_laldN 0 hK dL_law_1373 hw rfl (by omega) (by decide) ?_
    refine mJ_iload hK dL_law_1374 rfl ?_
    refine mJ_i2l hK dL_law_1376 ?_
    refine mJ_lcmp hK dL_law_1377 ?_
    refine mJ_if_eq (tgt := 1383) hK dL_law_1378 (by decide) (fun _ => ?_) (fun z => absurd (by rw [hwk k0]; exact lgc_s) z)
    refine mJ_goto (tgt := 1400) hK dL_law_1383 (by decide) ?_
    refine mJ_widen (k := cells + 2) (n := slots + 12) (by show cells + 1 + 0 + 0 ≤ _; omega) (by show slots + 6 + 0 + 0 ≤ _; omega) (mJ_less less9 (kk _ hI9))

set_option maxRecDepth 100000 in
set_option maxHeartbeats 4000000 in
theorem lw_c29 {K : mK} (hK : mCx K mL_law) (hNo : mNo (kD K) (kC K) (ks K)) {b Ls : Nat} {xs : Nat → Int32} (hX : va_X b Ls xs (ks K) (ks K).heap) (hbl : b < (ks K).heap.size) (hbA : ¬ kA K b) (hLs : Ls ≤ 1536) {ax ay : xAd} {o od N i : Nat} (A : LwA ax ay o od) {h : mH} (I : LwI ax ay o od N h) (hN : N < 100000) (hi : i + 3 ≤ Ls) {cells slots : Nat} (hc : cells + 2 ≤ 607087) (hs : slots + 12 ≤ 7274842) (kk : ∀ h', LwI ax ay o od (N + 1) h' → mJ K (cells + 2) (slots + 12) 1400 [some (.ref b), some (.ref (ax 0 0 0)), some (.ref (ay 30 0 0)), some (.ref o), some (.ref od), some (.int (nI i)), none, none, none] [] h') : mJ K cells slots 1386 [some (.ref b), some (.ref (ax 0 0 0)), some (.ref (ay 30 0 0)), some (.ref o), some (.ref od), some (.int (nI i)), none, none, none] [] h := by
  obtain ⟨v, ⟨fs, hfs⟩, P, hC, hP⟩ := bk_digest (l := kl K) (D := kD K) (aC := kC K) A I hN
  refine mJ_aload_n hK dL_law_1386 rfl ?_
  refine mJ_callV hK dL_law_1387 lL_186 (by unfold mFit; decide) ⟨by show cells + 0 ≤ 607087; omega, by show slots + 0 ≤ 7274842; omega⟩ rfl rfl (Nat.le_of_ble_eq_true rfl) hfs ⟨_, _, rfl⟩ hC (fun r u1 hq => ?_)
  obtain ⟨rfl, hp⟩ := hq
  obtain ⟨⟨fs2, hfs2⟩, Q, hM, hQ⟩ := hP u1 hp
  refine mJ_aload_n hK dL_law_1390 rfl ?_
  refine mJ_callV hK dL_law_1391 lL_190 (by unfold mFit; decide) ⟨by show cells + 0 + 0 ≤ 607087; omega, by show slots + 0 + 0 ≤ 7274842; omega⟩ rfl rfl (Nat.le_of_ble_eq_true rfl) hfs2 ⟨_, _, rfl⟩ hM (fun r u2 hq => ?_)
  obtain ⟨rfl, hq⟩ := hq
  have hI9 := hQ u2 hq
  refine mJ_lcmp hK dL_law_1394 ?_
  refine mJ_if_eq (tgt := 1400) hK dL_law_1395 (by decide) (fun _ => ?_) (fun z => absurd lgc_s z)
  refine mJ_widen (k := cells + 2) (n := slots + 12) (by show cells + 0 + 0 ≤ _; omega) (by show slots + 0 + 0 ≤ _; omega) (mJ_less less9 (kk _ hI9))

end
