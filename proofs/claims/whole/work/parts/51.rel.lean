def bnd (x : Int32) : Prop := -9999 ≤ x ∧ x ≤ nI 9999
/-- a state of the class (now: 0, kept: 1) against rows of the reference -/
def StR (F : xFm) (W : xWm) (s : Nat) (q : Nat → Nat) (g N : Nat) (L V S T st rp fi go : Nat → Int32) (wa : Nat → Int64) (ck gv la : Int32) : Prop :=
  (∀ c, c < 8 → F 13 s c 3 = nI (q c) ∧ q c ≤ 8 ∧ L c = nI (q c) ∧ F 13 s c 4 = go c ∧ W 13 s c 0 = wa c ∧ ∀ k, k < q c → F 14 s c k = V (8 * c + k) ∧ F 15 s c k = S (8 * c + k) ∧ F 16 s c k = T (8 * c + k) ∧ bnd (F 14 s c k)) ∧
  (∀ t, t < 24 → F 10 s 0 t = st t ∧ (st t = nI 1 → F 11 s 0 t = rp t)) ∧
  F 9 s 0 2 = nI g ∧ gv = nI g ∧ g ≤ N ∧ (∀ i, i < 8 → F 12 s 0 i = fi i) ∧ F 7 s 0 3 = ck ∧ F 7 s 0 4 = la ∧ ∃ z, z ≤ 8 ∧ la + nI 1 = nI z
def gaM (G : xFm) (i : Nat) : Nat := (G 35 0 0 (3 * i)).toNatClampNeg
def gbM (G : xFm) (i : Nat) : Nat := (G 35 0 0 (3 * i + 2)).toNatClampNeg
def omM (G : xFm) (i : Nat) : Nat := (G 36 0 0 i).toNatClampNeg
/-- a guard of the class against one of the reference -/
def GuR (p l s r ga sg gb : Int32) : Prop :=
  (sg = 0 ∧ l = nI 8 ∧ s = nI 61 ∧ r = nI 8) ∨
  ∃ a b : Nat, (sg = nI 60 ∨ sg = nI 61 ∨ sg = nI 62) ∧ ga = nI a ∧ a < 18 ∧ gb = nI b ∧ b < 18 ∧ (a < 8 → usP p (nI a)) ∧ (b < 8 → usP p (nI b)) ∧ ((a ≤ b ∧ l = nI a ∧ s = sg ∧ r = nI b) ∨ (b < a ∧ l = nI b ∧ s = mirS sg ∧ r = nI a))
/-- an operand -/
def OpR (p : Int32) (j : Nat) (x s y z : Int32) : Prop := ∃ a : Nat, x = nI a ∧ y = nI a ∧ a < 18 ∧ (a < 8 → usP p (nI a)) ∧ ((j = 0 ∧ s = nI 43) ∨ (0 < j ∧ s = z ∧ (s = nI 43 ∨ s = nI 45 ∨ s = nI 42)))
/-- an output -/
def OuR (p rm tg ir tm : Int32) : Prop := ∃ t : Nat, t < 8 ∧ tg = nI t ∧ ((ir = 0 ∧ tm = nI t) ∨ (ir = nI 1 ∧ tm = nI (8 + t) ∧ usP p (nI t) ∧ usP rm (nI t)))
def RuR (F : xFm) (r : Nat) (G : xFm) (i : Nat) : Prop :=
  F 17 r 0 0 = G 34 0 0 i ∧ (∃ m, m ≤ 4 ∧ F 17 r 0 5 = nI m ∧ G 36 0 0 i = nI m ∧
    (∀ o, o < m → OuR (F 17 r 0 0) (F 17 r 0 4) (F 18 r 0 o) (F 19 r 0 o) (G 37 0 0 (4 * i + o)) ∧ ∃ k, 0 < k ∧ k ≤ 3 ∧ F 20 r 0 o = nI k ∧ G 38 0 0 (4 * i + o) = nI k ∧ ∀ j, j < k → OpR (F 17 r 0 0) j (F 22 r 0 (o * 3 + j)) (F 21 r 0 (o * 3 + j)) (G 39 0 0 (3 * (4 * i + o) + j)) (G 40 0 0 (3 * (4 * i + o) + j))) ∧
    ∀ c, c < 8 → usP (F 17 r 0 4) (nI c) → ∃ o, o < m ∧ F 19 r 0 o = nI 1 ∧ F 18 r 0 o = nI c) ∧
  GuR (F 17 r 0 0) (F 17 r 0 1) (F 17 r 0 2) (F 17 r 0 3) (G 35 0 0 (3 * i)) (G 35 0 0 (3 * i + 1)) (G 35 0 0 (3 * i + 2))
/-- the queues alone -/
def QuR (F : xFm) (G : xFm) (q : Nat → Nat) : Prop := ∀ c, c < 8 → F 13 0 c 3 = nI (q c) ∧ q c ≤ 8 ∧ G 44 0 0 c = nI (q c) ∧ ∀ k, k < q c → F 14 0 c k = G 45 0 0 (8 * c + k)
theorem gh_e {sg x y : Int32} (h : sg = nI 60 ∨ sg = nI 61 ∨ sg = nI 62) : ghP sg x y ↔ ghM sg x y := by
  have n1 : ¬ nI 61 = nI 60 := by decide
  have n2 : ¬ nI 62 = nI 60 := by decide
  have n3 : ¬ nI 62 = nI 61 := by decide
  have n4 : ¬ nI 60 = nI 61 := by decide
  have n5 : ¬ nI 61 = nI 62 := by decide
  unfold ghP ghM
  rcases h with rfl | rfl | rfl
  · simp [n4]
  · simp [n1, n5]
  · simp [n2, n3]
theorem gh_m {sg x y : Int32} (h : sg = nI 60 ∨ sg = nI 61 ∨ sg = nI 62) : ghP (mirS sg) y x ↔ ghM sg x y := by
  have n1 : ¬ nI 61 = nI 60 := by decide
  have n2 : ¬ nI 62 = nI 60 := by decide
  have n3 : ¬ nI 62 = nI 61 := by decide
  have n4 : ¬ nI 60 = nI 61 := by decide
  have n5 : ¬ nI 61 = nI 62 := by decide
  unfold ghP ghM mirS
  rcases h with rfl | rfl | rfl
  · simp [n4, n2]
  · simp [n1, n5]
    exact eq_comm
  · simp [n2, n3]
theorem RuR.wf {F G : xFm} {r i : Nat} (h : RuR F r G i) : rwf F r := by
  obtain ⟨-, ⟨m, hm, h5, -, -⟩, hg⟩ := h
  have e5 : oC F r = m := by unfold oC; rw [h5, nI_clamp (by omega)]
  rcases hg with ⟨-, h1, -, h3⟩ | ⟨a, b, -, -, ha, -, hb, -, -, ⟨-, h1, -, h3⟩ | ⟨-, h1, -, h3⟩⟩
  all_goals
    have e1 := congrArg Int32.toNatClampNeg h1
    have e3 := congrArg Int32.toNatClampNeg h3
    rw [nI_clamp (by omega)] at e1 e3
    refine ⟨?_, ?_, ?_, ?_, ?_, ?_⟩
    · show _ = nI (F 17 r 0 1).toNatClampNeg
      rw [e1]
      exact h1
    · show (F 17 r 0 1).toNatClampNeg < 18
      omega
    · show _ = nI (F 17 r 0 3).toNatClampNeg
      rw [e3]
      exact h3
    · show (F 17 r 0 3).toNatClampNeg < 18
      omega
    · rw [e5]
      exact h5
    · omega
theorem vl_eq {F G : xFm} {q : Nat → Nat} (hQ : QuR F G q) {p : Int32} {i a : Nat} (hp : p = G 34 0 0 i) (hu : a < 8 → usP p (nI a)) {cn : Nat → Nat} (hv : ∀ c, c < 8 → cn c < wR G q i c) : vlM G a (cn a) = vlX F a (ixO cn a) := by
  unfold vlM vlX ixO
  by_cases e : a < 8
  · rw [if_pos e, if_pos e, if_pos e]
    have h1 := hv a e
    rw [wR_t (by rw [← hp]; exact hu e)] at h1
    exact ((hQ a e).2.2.2 _ h1).symm
  · rw [if_neg e, if_neg e]
theorem RuR.mt {F G : xFm} {r i : Nat} {q : Nat → Nat} (hQ : QuR F G q) (h : RuR F r G i) : isMt (wR G q i) (gdM G i (gaM G i) (gbM G i)) (G 34 0 0 i &&& wtM q = G 34 0 0 i) ((fmF F q r).map (fun z => chN (gL F r) (gR F r) z.1 z.2)) := by
  obtain ⟨hp, -, hg⟩ := h
  unfold fmF
  rw [hp]
  have hgl : ∃ gl gr : Nat, gL F r = gl ∧ gR F r = gr ∧ gl ≤ gr ∧ (gl < 8 → usP (G 34 0 0 i) (nI gl)) ∧ (gr < 8 → usP (G 34 0 0 i) (nI gr)) ∧ ∀ cn, (∀ c, c < 8 → cn c < wR G q i c) → (gdM G i (gaM G i) (gbM G i) cn ↔ ghP (F 17 r 0 2) (vlX F gl (ixO cn gl)) (vlX F gr (ixO cn gr))) := by
    rcases hg with ⟨h0, h1, h2, h3⟩ | ⟨a, b, hs, h1, ha, h2, hb, hua, hub, hh⟩
    · refine ⟨8, 8, by unfold gL; rw [h1]; decide, by unfold gR; rw [h3]; decide, Nat.le_refl _, by omega, by omega, fun cn _ => iff_of_true (Or.inl h0) ?_⟩
      rw [h2]
      exact Or.inr (Or.inr ⟨by decide, by decide, rfl⟩)
    · have ea : gaM G i = a := by unfold gaM; rw [h1, nI_clamp (by omega)]
      have eb : gbM G i = b := by unfold gbM; rw [h2, nI_clamp (by omega)]
      have n0 : ¬ G 35 0 0 (3 * i + 1) = 0 := by
        rcases hs with z | z | z <;> rw [z] <;> decide
      have hk : ∀ cn, (∀ c, c < 8 → cn c < wR G q i c) → (gdM G i (gaM G i) (gbM G i) cn ↔ ghM (G 35 0 0 (3 * i + 1)) (vlX F a (ixO cn a)) (vlX F b (ixO cn b))) := by
        intro cn hv
        rw [ea, eb]
        unfold gdM
        rw [vl_eq hQ rfl (by rw [← hp]; exact hua) hv, vl_eq hQ rfl (by rw [← hp]; exact hub) hv]
        exact ⟨fun z => z.resolve_left n0, Or.inr⟩
      rcases hh with ⟨hab, l1, l2, l3⟩ | ⟨hab, l1, l2, l3⟩
      · refine ⟨a, b, by unfold gL; rw [l1, nI_clamp (by omega)], by unfold gR; rw [l3, nI_clamp (by omega)], hab, by rw [← hp]; exact hua, by rw [← hp]; exact hub, fun cn hv => (hk cn hv).trans ?_⟩
        rw [l2]
        exact (gh_e hs).symm
      · refine ⟨b, a, by unfold gL; rw [l1, nI_clamp (by omega)], by unfold gR; rw [l3, nI_clamp (by omega)], by omega, by rw [← hp]; exact hub, by rw [← hp]; exact hua, fun cn hv => (hk cn hv).trans ?_⟩
        rw [l2]
        exact (gh_m hs).symm
  obtain ⟨gl, gr, e1, e2, hlr, hul, hur, hk⟩ := hgl
  rw [e1, e2]
  refine mt_abs (t := mtT F r gl gr) (fun hrd c hc => ?_) hlr ?_ ?_ ?_ ?_
  · by_cases hu : usP (G 34 0 0 i) (nI c)
    · rw [wR_t hu]
      exact rdy_of hrd hc hu
    · rw [wR_f hu]
      exact Nat.zero_lt_one
  · unfold lE
    rw [e1]
    by_cases e : gl < 8
    · rw [if_pos e, if_pos e, wR_t (hul e)]
    · rw [if_neg e, if_neg e]
  · unfold rE
    rw [e2]
    by_cases e : gr < 8
    · rw [if_pos e, if_pos e, wR_t (hur e)]
    · rw [if_neg e, if_neg e]
  · intro e x y ht
    have := of_decide_eq_true ht
    exact this.1.resolve_left (fun z => z e)
  · intro cn hv
    rw [hk cn hv]
    unfold mtT
    rw [decide_eq_true_iff]
    refine ⟨fun z => ⟨?_, z⟩, fun z => z.2⟩
    by_cases e : gl = gr
    · right
      rw [e]
    · exact Or.inl e