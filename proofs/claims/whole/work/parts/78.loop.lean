theorem LwI.up {ax ay : xAd} {o od N N' : Nat} {h : mH} (I : LwI ax ay o od N h) (hN : N ≤ N') : LwI ax ay o od N' h := by
  obtain ⟨F, W, pm, G, B, pm', q, g, rn, po, bl, sv, hx, hy, hA, ho⟩ := I
  exact ⟨F, W, pm, G, B, pm', q, g, rn, po, bl, sv, hx, hy, hA.up hN, ho⟩
set_option maxRecDepth 100000 in
set_option maxHeartbeats 4000000 in
theorem lp_law {K : mK} (hK : mCx K mL_law) (hNo : mNo (kD K) (kC K) (ks K)) {b Ls : Nat} {xs : Nat → Int32} (hX : va_X b Ls xs (ks K) (ks K).heap) (hbl : b < (ks K).heap.size) (hbA : ¬ kA K b) (hLs : Ls ≤ 1536) {ax ay : xAd} {o od C0 S0 : Nat} (A : LwA ax ay o od) (hC0 : C0 ≤ 600000) (hS0 : S0 ≤ 7000000)
    (hend : ∀ (cells slots : Nat) (L : List (Option Value)) (h : mH), cells ≤ 607087 → slots ≤ 7274842 → mJ K cells slots 1406 L [] h) : ∀ (fu n : Nat) (h : mH), 600 - n < fu → n ≤ 512 → LwI ax ay o od n h → mJ K (C0 + 2 * n) (S0 + 12 * n) 28 [some (.ref b), some (.ref (ax 0 0 0)), some (.ref (ay 30 0 0)), some (.ref o), some (.ref od), some (.int (nI (3 * n))), none, none, none] [] h := by
  intro fu
  induction fu with
  | zero =>
    intro n h hm
    exact absurd hm (by omega)
  | succ fu ih =>
    intro n h hm hn I
    refine mJ_iload hK dL_law_28 rfl ?_
    refine mJ_aload_n hK dL_law_30 rfl ?_
    refine mJ_slen hX hbl hbA hK dL_law_31 ?_
    refine mJ_iconst (v := nI 3) hK dL_law_32 (by decide) ?_
    refine mJ_isub hK dL_law_33 ?_
    refine mJ_icmp_gt (tgt := 1406) hK dL_law_34 (by decide) (fun _ => hend _ _ _ _ (by omega) (by omega)) (fun c_34 => ?_)
    have hi : 3 * n + 3 ≤ Ls := by
      rw [Int32.lt_iff_toInt_lt, pk_sub_toInt (by omega) (by omega), nI_toInt (by omega)] at c_34
      omega
    have hk : ∀ h', LwI ax ay o od (n + 1) h' → mJ K (C0 + 2 * n + 2) (S0 + 12 * n + 12) 1400 [some (.ref b), some (.ref (ax 0 0 0)), some (.ref (ay 30 0 0)), some (.ref o), some (.ref od), some (.int (nI (3 * n))), none, none, none] [] h' := by
      intro h' I'
      have e3 : nI (3 * n) + Int32.ofInt 3 = nI (3 * (n + 1)) := by
        rw [show Int32.ofInt 3 = nI 3 by decide, nI_add]
        congr 1
      refine mJ_iinc hK dL_law_1400 rfl e3 (by decide) rfl ?_
      refine mJ_goto (tgt := 28) hK dL_law_1403 (by decide) ?_
      have z := ih (n + 1) h' (by omega) (by omega) I'
      rw [show C0 + 2 * (n + 1) = C0 + 2 * n + 2 by omega, show S0 + 12 * (n + 1) = S0 + 12 * n + 12 by omega] at z
      exact z
    refine mJ_aload_n hK dL_law_37 rfl ?_
    refine mJ_iload hK dL_law_38 rfl ?_
    refine mJ_sld (3 * n) hX hbl hbA hK dL_law_40 rfl (by omega) (by omega) ?_
    refine mJ_bipush (v := nI 31) hK dL_law_41 (by decide) ?_
    refine mJ_iand hK dL_law_43 ?_
    obtain ⟨t, ht, et⟩ := pk_andE (xs (3 * n)) (m := nI 31) 5 (by decide)
    rw [et]
    rcases (show t = 0 ∨ t = 1 ∨ t = 2 ∨ t = 3 ∨ t = 4 ∨ t = 5 ∨ t = 6 ∨ t = 7 ∨ t = 8 ∨ t = 9 ∨ t = 10 ∨ t = 11 ∨ t = 12 ∨ t = 13 ∨ t = 14 ∨ t = 15 ∨ t = 16 ∨ t = 17 ∨ t = 18 ∨ t = 19 ∨ t = 20 ∨ t = 21 ∨ t = 22 ∨ t = 23 ∨ t = 24 ∨ t = 25 ∨ t = 26 ∨ t = 27 ∨ t = 28 ∨ t = 29 ∨ t = 30 ∨ t = 31 by omega) with rfl | rfl | rfl | rfl | rfl | rfl | rfl | rfl | rfl | rfl | rfl | rfl | rfl | rfl | rfl | rfl | rfl | rfl | rfl | rfl | rfl | rfl | rfl | rfl | rfl | rfl | rfl | rfl | rfl | rfl | rfl | rfl
    · exact mJ_tabIn (off := 136) (tgt := 180) hK dL_law_44 (by decide) (by decide) (by decide) (by decide) (lw_c0 hK hNo hX hbl hbA hLs A I (by omega) hi (by omega) (by omega) hk)
    · exact mJ_tabIn (off := 192) (tgt := 236) hK dL_law_44 (by decide) (by decide) (by decide) (by decide) (lw_c1 hK hNo hX hbl hbA hLs A I (by omega) hi (by omega) (by omega) hk)
    · exact mJ_tabIn (off := 205) (tgt := 249) hK dL_law_44 (by decide) (by decide) (by decide) (by decide) (lw_c2 hK hNo hX hbl hbA hLs A I (by omega) hi (by omega) (by omega) hk)
    · exact mJ_tabIn (off := 218) (tgt := 262) hK dL_law_44 (by decide) (by decide) (by decide) (by decide) (lw_c3 hK hNo hX hbl hbA hLs A I (by omega) hi (by omega) (by omega) hk)
    · exact mJ_tabIn (off := 262) (tgt := 306) hK dL_law_44 (by decide) (by decide) (by decide) (by decide) (lw_c4 hK hNo hX hbl hbA hLs A I (by omega) hi (by omega) (by omega) hk)
    · exact mJ_tabIn (off := 318) (tgt := 362) hK dL_law_44 (by decide) (by decide) (by decide) (by decide) (lw_c5 hK hNo hX hbl hbA hLs A I (by omega) hi (by omega) (by omega) hk)
    · exact mJ_tabIn (off := 331) (tgt := 375) hK dL_law_44 (by decide) (by decide) (by decide) (by decide) (lw_c6 hK hNo hX hbl hbA hLs A I (by omega) hi (by omega) (by omega) hk)
    · exact mJ_tabIn (off := 387) (tgt := 431) hK dL_law_44 (by decide) (by decide) (by decide) (by decide) (lw_c7 hK hNo hX hbl hbA hLs A I (by omega) hi (by omega) (by omega) hk)
    · exact mJ_tabIn (off := 443) (tgt := 487) hK dL_law_44 (by decide) (by decide) (by decide) (by decide) (lw_c8 hK hNo hX hbl hbA hLs A I (by omega) hi (by omega) (by omega) hk)
    · exact mJ_tabIn (off := 511) (tgt := 555) hK dL_law_44 (by decide) (by decide) (by decide) (by decide) (lw_c9 hK hNo hX hbl hbA hLs A I (by omega) hi (by omega) (by omega) hk)
    · exact mJ_tabIn (off := 567) (tgt := 611) hK dL_law_44 (by decide) (by decide) (by decide) (by decide) (lw_c10 hK hNo hX hbl hbA hLs A I (by omega) hi (by omega) (by omega) hk)
    · exact mJ_tabIn (off := 635) (tgt := 679) hK dL_law_44 (by decide) (by decide) (by decide) (by decide) (lw_c11 hK hNo hX hbl hbA hLs A I (by omega) hi (by omega) (by omega) hk)
    · exact mJ_tabIn (off := 648) (tgt := 692) hK dL_law_44 (by decide) (by decide) (by decide) (by decide) (lw_c12 hK hNo hX hbl hbA hLs A I (by omega) hi (by omega) (by omega) hk)
    · exact mJ_tabIn (off := 661) (tgt := 705) hK dL_law_44 (by decide) (by decide) (by decide) (by decide) (lw_c13 hK hNo hX hbl hbA hLs A I (by omega) hi (by omega) (by omega) hk)
    · exact mJ_tabIn (off := 674) (tgt := 718) hK dL_law_44 (by decide) (by decide) (by decide) (by decide) (lw_c14 hK hNo hX hbl hbA hLs A I (by omega) hi (by omega) (by omega) hk)
    · exact mJ_tabIn (off := 742) (tgt := 786) hK dL_law_44 (by decide) (by decide) (by decide) (by decide) (lw_c15 hK hNo hX hbl hbA hLs A I (by omega) hi (by omega) (by omega) hk)
    · exact mJ_tabIn (off := 755) (tgt := 799) hK dL_law_44 (by decide) (by decide) (by decide) (by decide) (lw_c16 hK hNo hX hbl hbA hLs A I (by omega) hi (by omega) (by omega) hk)
    · exact mJ_tabIn (off := 768) (tgt := 812) hK dL_law_44 (by decide) (by decide) (by decide) (by decide) (lw_c17 hK hNo hX hbl hbA hLs A I (by omega) hi (by omega) (by omega) hk)
    · exact mJ_tabIn (off := 824) (tgt := 868) hK dL_law_44 (by decide) (by decide) (by decide) (by decide) (lw_c18 hK hNo hX hbl hbA hLs A I (by omega) hi (by omega) (by omega) hk)
    · exact mJ_tabIn (off := 880) (tgt := 924) hK dL_law_44 (by decide) (by decide) (by decide) (by decide) (lw_c19 hK hNo hX hbl hbA hLs A I (by omega) hi (by omega) (by omega) hk)
    · exact mJ_tabIn (off := 893) (tgt := 937) hK dL_law_44 (by decide) (by decide) (by decide) (by decide) (lw_c20 hK hNo hX hbl hbA hLs A I (by omega) hi (by omega) (by omega) hk)
    · exact mJ_tabIn (off := 949) (tgt := 993) hK dL_law_44 (by decide) (by decide) (by decide) (by decide) (lw_c21 hK hNo hX hbl hbA hLs A I (by omega) hi (by omega) (by omega) hk)
    · exact mJ_tabIn (off := 1005) (tgt := 1049) hK dL_law_44 (by decide) (by decide) (by decide) (by decide) (lw_c22 hK hNo hX hbl hbA hLs A I (by omega) hi (by omega) (by omega) hk)
    · exact mJ_tabIn (off := 1061) (tgt := 1105) hK dL_law_44 (by decide) (by decide) (by decide) (by decide) (lw_c23 hK hNo hX hbl hbA hLs A I (by omega) hi (by omega) (by omega) hk)
    · exact mJ_tabIn (off := 1117) (tgt := 1161) hK dL_law_44 (by decide) (by decide) (by decide) (by decide) (lw_c24 hK hNo hX hbl hbA hLs A I (by omega) hi (by omega) (by omega) hk)
    · exact mJ_tabIn (off := 1194) (tgt := 1238) hK dL_law_44 (by decide) (by decide) (by decide) (by decide) (lw_c25 hK hNo hX hbl hbA hLs A I (by omega) hi (by omega) (by omega) hk)
    · exact mJ_tabIn (off := 1272) (tgt := 1316) hK dL_law_44 (by decide) (by decide) (by decide) (by decide) (lw_c26 hK hNo hX hbl hbA hLs A I (by omega) hi (by omega) (by omega) hk)
    · exact mJ_tabIn (off := 1285) (tgt := 1329) hK dL_law_44 (by decide) (by decide) (by decide) (by decide) (lw_c27 hK hNo hX hbl hbA hLs A I (by omega) hi (by omega) (by omega) hk)
    · exact mJ_tabIn (off := 1298) (tgt := 1342) hK dL_law_44 (by decide) (by decide) (by decide) (by decide) (lw_c28 hK hNo hX hbl hbA hLs A I (by omega) hi (by omega) (by omega) hk)
    · exact mJ_tabIn (off := 1342) (tgt := 1386) hK dL_law_44 (by decide) (by decide) (by decide) (by decide) (lw_c29 hK hNo hX hbl hbA hLs A I (by omega) hi (by omega) (by omega) hk)
    · exact mJ_tabOut (tgt := 1400) hK dL_law_44 (by decide) (by decide) (mJ_widen (by omega) (by omega) (hk h (I.up (by omega))))
    · exact mJ_tabOut (tgt := 1400) hK dL_law_44 (by decide) (by decide) (mJ_widen (by omega) (by omega) (hk h (I.up (by omega))))
