def xI (k n : Nat) : Bool := match k, n with
  | 0, 1 => true
  | 0, 4 => true
  | 0, 5 => true
  | 0, 8 => true
  | 2, 1 => true
  | 2, 2 => true
  | 2, 3 => true
  | 7, 3 => true
  | 7, 4 => true
  | 9, 2 => true
  | 13, 3 => true
  | 13, 4 => true
  | 17, 0 => true
  | 17, 1 => true
  | 17, 2 => true
  | 17, 3 => true
  | 17, 4 => true
  | 17, 5 => true
  | 30, 0 => true
  | 30, 1 => true
  | 30, 3 => true
  | 30, 12 => true
  | 30, 13 => true
  | 30, 18 => true
  | 30, 19 => true
  | 30, 24 => true
  | 30, 25 => true
  | 30, 26 => true
  | 30, 27 => true
  | 30, 29 => true
  | 30, 30 => true
  | 30, 31 => true
  | 30, 39 => true
  | 30, 40 => true
  | 30, 41 => true
  | 30, 42 => true
  | _, _ => false
def xO (ad : Nat → Nat → Nat → Nat) (pm : Nat → Nat) (w : Nat → Int64) (k i j n : Nat) : Value := match k, n with
  | 0, 0 => .ref (ad 1 0 0)
  | 0, 2 => .ref (ad 2 0 0)
  | 0, 3 => .ref (ad 3 0 0)
  | 0, 6 => .ref (ad 7 0 0)
  | 0, 7 => .ref (ad 7 1 0)
  | 0, 9 => .ref (ad 4 0 0)
  | 0, 10 => .ref (ad 5 0 0)
  | 0, 11 => .ref (ad 6 0 0)
  | 2, 0 => .ref (ad 17 (pm 8) 0)
  | 7, 0 => .ref (ad 8 i 0)
  | 7, 1 => .ref (ad 9 i 0)
  | 7, 2 => .ref (ad 12 i 0)
  | 9, 0 => .ref (ad 10 i 0)
  | 9, 1 => .ref (ad 11 i 0)
  | 13, 0 => .ref (ad 14 i j)
  | 13, 1 => .ref (ad 15 i j)
  | 13, 2 => .ref (ad 16 i j)
  | 17, 6 => .ref (ad 18 i 0)
  | 17, 7 => .ref (ad 19 i 0)
  | 17, 8 => .ref (ad 20 i 0)
  | 17, 9 => .ref (ad 21 i 0)
  | 17, 10 => .ref (ad 22 i 0)
  | 13, 5 => .long (w 0)
  | 30, 2 => .ref (ad 32 0 0)
  | 30, 4 => .ref (ad 34 0 0)
  | 30, 5 => .ref (ad 35 0 0)
  | 30, 6 => .ref (ad 36 0 0)
  | 30, 7 => .ref (ad 37 0 0)
  | 30, 8 => .ref (ad 38 0 0)
  | 30, 9 => .ref (ad 39 0 0)
  | 30, 10 => .ref (ad 40 0 0)
  | 30, 11 => .ref (ad 41 0 0)
  | 30, 14 => .ref (ad 44 0 0)
  | 30, 15 => .ref (ad 45 0 0)
  | 30, 16 => .ref (ad 46 0 0)
  | 30, 17 => .ref (ad 47 0 0)
  | 30, 20 => .ref (ad 50 0 0)
  | 30, 21 => .ref (ad 51 0 0)
  | 30, 22 => .ref (ad 52 0 0)
  | 30, 23 => .ref (ad 53 0 0)
  | 30, 28 => .ref (ad 58 0 0)
  | 30, 32 => .ref (ad 62 0 0)
  | 30, 33 => .ref (ad 63 0 0)
  | 30, 34 => .ref (ad 64 0 0)
  | 30, 35 => .ref (ad 65 0 0)
  | 30, 36 => .ref (ad 66 0 0)
  | 30, 37 => .ref (ad 67 0 0)
  | 30, 38 => .ref (ad 68 0 0)
  | 30, 43 => .ref (ad 73 0 0)
  | 30, 44 => .ref (ad 74 0 0)
  | 30, 45 => .ref (ad 75 0 0)
  | 30, 46 => .ref (ad 76 0 0)
  | 30, 47 => .ref (ad 77 0 0)
  | 30, 48 => .ref (ad 78 0 0)
  | 30, 49 => .ref (ad 79 0 0)
  | 30, 50 => .ref (ad 80 0 0)
  | 30, 51 => .ref (ad 81 0 0)
  | 30, 52 => .long (w 0)
  | _, _ => .null
def xF (ad : Nat → Nat → Nat → Nat) (pm : Nat → Nat) (r : Nat → Int32) (w : Nat → Int64) (k i j n : Nat) : Value := match xI k n with
  | true => .int (r n)
  | false => xO ad pm w k i j n
def xC (ad : Nat → Nat → Nat → Nat) (pm : Nat → Nat) (r : Nat → Int32) (w : Nat → Int64) (k i j : Nat) : mC := match k with
  | 0 => .inr (5, (List.range 12).map (xF ad pm r w 0 i j))
  | 2 => .inr (2, (List.range 4).map (xF ad pm r w 2 i j))
  | 7 => .inr (3, (List.range 5).map (xF ad pm r w 7 i j))
  | 9 => .inr (4, (List.range 3).map (xF ad pm r w 9 i j))
  | 13 => .inr (0, (List.range 6).map (xF ad pm r w 13 i j))
  | 17 => .inr (1, (List.range 11).map (xF ad pm r w 17 i j))
  | 30 => .inr (6, (List.range 53).map (xF ad pm r w 30 i j))
  | 1 => .inl (0, 40, .inl r)
  | 4 => .inl (0, 8, .inl r)
  | 5 => .inl (0, 8, .inl r)
  | 6 => .inl (0, 8, .inl r)
  | 10 => .inl (0, 24, .inl r)
  | 11 => .inl (0, 24, .inl r)
  | 12 => .inl (0, 8, .inl r)
  | 14 => .inl (0, 8, .inl r)
  | 15 => .inl (0, 8, .inl r)
  | 16 => .inl (0, 8, .inl r)
  | 18 => .inl (0, 4, .inl r)
  | 20 => .inl (0, 4, .inl r)
  | 21 => .inl (0, 12, .inl r)
  | 22 => .inl (0, 12, .inl r)
  | 19 => .inl (2, 4, .inl r)
  | 3 => .inl (3, 8, .inr (.inr (.inr (.inr (fun n => some (ad 17 (if n < 8 then pm n else 0) 0))))))
  | 8 => .inl (4, 8, .inr (.inr (.inr (.inr (fun n => some (ad 13 i n))))))
  | 32 => .inl (0, 40, .inl r)
  | 34 => .inl (0, 8, .inl r)
  | 35 => .inl (0, 24, .inl r)
  | 36 => .inl (0, 8, .inl r)
  | 37 => .inl (0, 32, .inl r)
  | 38 => .inl (0, 32, .inl r)
  | 39 => .inl (0, 96, .inl r)
  | 40 => .inl (0, 96, .inl r)
  | 41 => .inl (0, 8, .inl r)
  | 44 => .inl (0, 8, .inl r)
  | 45 => .inl (0, 64, .inl r)
  | 46 => .inl (0, 64, .inl r)
  | 47 => .inl (0, 64, .inl r)
  | 50 => .inl (0, 24, .inl r)
  | 51 => .inl (0, 24, .inl r)
  | 52 => .inl (0, 8, .inl r)
  | 53 => .inl (1, 8, .inr (.inl w))
  | 58 => .inl (0, 3, .inl r)
  | 62 => .inl (0, 4, .inl r)
  | 63 => .inl (0, 4, .inl r)
  | 64 => .inl (0, 12, .inl r)
  | 65 => .inl (0, 12, .inl r)
  | 66 => .inl (0, 8, .inl r)
  | 67 => .inl (0, 8, .inl r)
  | 68 => .inl (0, 8, .inl r)
  | 73 => .inl (0, 8, .inl r)
  | 74 => .inl (0, 64, .inl r)
  | 75 => .inl (0, 64, .inl r)
  | 76 => .inl (0, 64, .inl r)
  | 77 => .inl (0, 24, .inl r)
  | 78 => .inl (0, 24, .inl r)
  | 79 => .inl (0, 8, .inl r)
  | 80 => .inl (0, 8, .inl r)
  | 81 => .inl (1, 8, .inr (.inl w))
  | _ => .inl (0, 0, .inl r)
abbrev xFm : Type := Nat → Nat → Nat → Nat → Int32
abbrev xWm : Type := Nat → Nat → Nat → Nat → Int64
abbrev xAd : Type := Nat → Nat → Nat → Nat
/-- which cells the class's state has; which the reference's -/
def xV (k i j : Nat) : Prop := (k < 7 ∧ i = 0 ∧ j = 0) ∨ (7 ≤ k ∧ k < 13 ∧ i < 2 ∧ j = 0) ∨ (13 ≤ k ∧ k < 17 ∧ i < 2 ∧ j < 8) ∨ (17 ≤ k ∧ k < 23 ∧ i < 9 ∧ j = 0)
def yV (k i j : Nat) : Prop := 30 ≤ k ∧ k < 82 ∧ i = 0 ∧ j = 0 ∧ k ≠ 31 ∧ k ≠ 33 ∧ k ≠ 42 ∧ k ≠ 43 ∧ k ≠ 48 ∧ k ≠ 49 ∧ k ≠ 54 ∧ k ≠ 55 ∧ k ≠ 56 ∧ k ≠ 57 ∧ k ≠ 59 ∧ k ≠ 60 ∧ k ≠ 61 ∧ k ≠ 69 ∧ k ≠ 70 ∧ k ≠ 71 ∧ k ≠ 72
def xR (V : Nat → Nat → Nat → Prop) (ad : xAd) (h0 : mH) (F : xFm) (W : xWm) (pm : Nat → Nat) (h : mH) : Prop :=
  (∀ k i j, V k i j → h (ad k i j) = some (xC ad pm (F k i j) (W k i j) k i j)) ∧ (∀ k i j k' i' j', V k i j → V k' i' j' → ad k i j = ad k' i' j' → k = k' ∧ i = i' ∧ j = j') ∧ ∀ a, (∀ k i j, V k i j → a ≠ ad k i j) → h a = h0 a
section
variable {V : Nat → Nat → Nat → Prop} {ad : xAd} {h0 : mH} {F : xFm} {W : xWm} {pm : Nat → Nat} {h : mH} {k i j : Nat}
theorem xR.row (hR : xR V ad h0 F W pm h) (hv : V k i j) (g : Nat → Int32) (w : Nat → Int64) {e : mC} (he : xC ad pm g w k i j = e) : xR V ad h0 (fr F k i j g) (fr W k i j w) pm (mset h (ad k i j) e) := by
  subst he
  refine ⟨fun k' i' j' hv' => ?_, hR.2.1, fun a ha => ?_⟩
  · by_cases e : k' = k ∧ i' = i ∧ j' = j
    · obtain ⟨rfl, rfl, rfl⟩ := e
      rw [mset_s, fr_s, fr_s]
    · rw [mset_n (fun z => e (hR.2.1 _ _ _ _ _ _ hv' hv z)), fr_n e, fr_n e]
      exact hR.1 k' i' j' hv'
  · rw [mset_n (ha k i j hv)]
    exact hR.2.2 a ha
theorem xR.rowF (hR : xR V ad h0 F W pm h) (hv : V k i j) (g : Nat → Int32) {e : mC} (he : xC ad pm g (W k i j) k i j = e) : xR V ad h0 (fr F k i j g) W pm (mset h (ad k i j) e) := by
  have := hR.row hv g (W k i j) he
  rwa [fr_self] at this
theorem xR.rowW (hR : xR V ad h0 F W pm h) (hv : V k i j) (w : Nat → Int64) {e : mC} (he : xC ad pm (F k i j) w k i j = e) : xR V ad h0 F (fr W k i j w) pm (mset h (ad k i j) e) := by
  have := hR.row hv (F k i j) w he
  rwa [fr_self] at this
theorem xF_int {r : Nat → Int32} {w : Nat → Int64} {n : Nat} (hn : xI k n = true) : xF ad pm r w k i j n = .int (r n) := by
  unfold xF
  rw [hn]
theorem xF_upd {r : Nat → Int32} {w : Nat → Int64} {n : Nat} {x : Int32} (hn : xI k n = true) : va_up (xF ad pm r w k i j) n (.int x) = xF ad pm (upd r n x) w k i j := by
  funext m
  by_cases e : m = n
  · subst e
    rw [xF_int hn]
    simp [va_up, upd]
  · unfold xF
    simp [va_up, upd, e]
end
section
variable {K : mK} {μ : mM} {cells slots pc : Nat} {L : List (Option Value)} {S : List Value} {h : mH} {V : Nat → Nat → Nat → Prop} {ad : xAd} {h0 : mH} {F : xFm} {W : xWm} {pm : Nat → Nat} {k i j : Nat}
theorem xJ_geti {idx ci n N : Nat} (hR : xR V ad h0 F W pm h) (hK : mCx K μ) (hd : decode μ.2.1 pc = .ok (.getfield idx, 3)) (hl : mFL μ.1.cls idx ci n) (hv : V k i j) (hc : ∀ g w, xC ad pm g w k i j = .inr (ci, (List.range N).map (xF ad pm g w k i j))) (hn : n < N) (hi : xI k n = true) (kk : mJ K cells slots (pc + 3) L (.int (F k i j n) :: S) h) : mJ K cells slots pc L (.ref (ad k i j) :: S) h :=
  mJ_get (.int (F k i j n)) hK hd hl ((hR.1 k i j hv).trans (congrArg some (hc _ _))) hn (xF_int hi) kk
theorem xJ_getr {idx ci n N a : Nat} (hR : xR V ad h0 F W pm h) (hK : mCx K μ) (hd : decode μ.2.1 pc = .ok (.getfield idx, 3)) (hl : mFL μ.1.cls idx ci n) (hv : V k i j) (hc : ∀ g w, xC ad pm g w k i j = .inr (ci, (List.range N).map (xF ad pm g w k i j))) (hn : n < N) (ha : ∀ g w, xF ad pm g w k i j n = .ref a) (kk : mJ K cells slots (pc + 3) L (.ref a :: S) h) : mJ K cells slots pc L (.ref (ad k i j) :: S) h :=
  mJ_get (.ref a) hK hd hl ((hR.1 k i j hv).trans (congrArg some (hc _ _))) hn (ha _ _) kk
theorem xJ_getl {idx ci n N : Nat} (hR : xR V ad h0 F W pm h) (hK : mCx K μ) (hd : decode μ.2.1 pc = .ok (.getfield idx, 3)) (hl : mFL μ.1.cls idx ci n) (hv : V k i j) (hc : ∀ g w, xC ad pm g w k i j = .inr (ci, (List.range N).map (xF ad pm g w k i j))) (hn : n < N) (ha : ∀ g w, xF ad pm g w k i j n = .long (w 0)) (kk : mJ K cells slots (pc + 3) L (.long (W k i j 0) :: S) h) : mJ K cells slots pc L (.ref (ad k i j) :: S) h :=
  mJ_get (.long (W k i j 0)) hK hd hl ((hR.1 k i j hv).trans (congrArg some (hc _ _))) hn (ha _ _) kk
theorem xJ_puti {idx ci n N : Nat} {x : Int32} {ty : FieldType} (hR : xR V ad h0 F W pm h) (hK : mCx K μ) (hd : decode μ.2.1 pc = .ok (.putfield idx, 3)) (hl : mFL μ.1.cls idx ci n) (hf : mFS ci n ty) (hnr : narrow ty (.int x) = .int x) (hfit : fits ty (.int x) = true) (hv : V k i j) (hc : ∀ g w, xC ad pm g w k i j = .inr (ci, (List.range N).map (xF ad pm g w k i j))) (hn : n < N) (hi : xI k n = true) (kk : ∀ h', xR V ad h0 (fr F k i j (upd (F k i j) n x)) W pm h' → mJ K cells slots (pc + 3) L S h') : mJ K cells slots pc L (.int x :: .ref (ad k i j) :: S) h :=
  mJ_put hK hd hl hf hnr hfit ((hR.1 k i j hv).trans (congrArg some (hc _ _))) hn (kk _ (hR.rowF hv (upd (F k i j) n x) (by rw [hc, xF_upd hi])))
theorem xJ_putl {idx ci n N : Nat} {x : Int64} (hR : xR V ad h0 F W pm h) (hK : mCx K μ) (hd : decode μ.2.1 pc = .ok (.putfield idx, 3)) (hl : mFL μ.1.cls idx ci n) (hf : mFS ci n .long) (hv : V k i j) (hc : ∀ g w, xC ad pm g w k i j = .inr (ci, (List.range N).map (xF ad pm g w k i j))) (hn : n < N) (ha : ∀ g w, va_up (xF ad pm g w k i j) n (.long x) = xF ad pm g (vp_updL w 0 x) k i j) (kk : ∀ h', xR V ad h0 F (fr W k i j (vp_updL (W k i j) 0 x)) pm h' → mJ K cells slots (pc + 3) L S h') : mJ K cells slots pc L (.long x :: .ref (ad k i j) :: S) h :=
  mJ_put hK hd hl hf rfl rfl ((hR.1 k i j hv).trans (congrArg some (hc _ _))) hn (kk _ (hR.rowW hv (vp_updL (W k i j) 0 x) (by rw [hc, ha])))
theorem xJ_iald {n : Nat} {x : Int32} (m : Nat) (hR : xR V ad h0 F W pm h) (hK : mCx K μ) (hd : decode μ.2.1 pc = .ok (.iaload, 1)) (hv : V k i j) (hc : ∀ g w, xC ad pm g w k i j = .inl (0, n, .inl g)) (hx : x = nI m) (hm : m < n) (hn : n < 2 ^ 31) (kk : mJ K cells slots (pc + 1) L (.int (F k i j m) :: S) h) : mJ K cells slots pc L (.int x :: .ref (ad k i j) :: S) h :=
  mJ_ialdN m hK hd ((hR.1 k i j hv).trans (congrArg some (hc _ _))) hx hm hn kk
theorem xJ_zald {n : Nat} {x : Int32} (m : Nat) (hR : xR V ad h0 F W pm h) (hK : mCx K μ) (hd : decode μ.2.1 pc = .ok (.baload, 1)) (hv : V k i j) (hc : ∀ g w, xC ad pm g w k i j = .inl (2, n, .inl g)) (hx : x = nI m) (hm : m < n) (hn : n < 2 ^ 31) (kk : mJ K cells slots (pc + 1) L (.int (F k i j m) :: S) h) : mJ K cells slots pc L (.int x :: .ref (ad k i j) :: S) h :=
  mJ_zaldN m hK hd ((hR.1 k i j hv).trans (congrArg some (hc _ _))) hx hm hn kk
theorem xJ_lald {n : Nat} {x : Int32} (m : Nat) (hR : xR V ad h0 F W pm h) (hK : mCx K μ) (hd : decode μ.2.1 pc = .ok (.laload, 1)) (hv : V k i j) (hc : ∀ g w, xC ad pm g w k i j = .inl (1, n, .inr (.inl w))) (hx : x = nI m) (hm : m < n) (hn : n < 2 ^ 31) (kk : mJ K cells slots (pc + 1) L (.long (W k i j m) :: S) h) : mJ K cells slots pc L (.int x :: .ref (ad k i j) :: S) h :=
  mJ_laldN m hK hd ((hR.1 k i j hv).trans (congrArg some (hc _ _))) hx hm hn kk
theorem xJ_iast {n : Nat} {x y : Int32} (m : Nat) (hR : xR V ad h0 F W pm h) (hK : mCx K μ) (hd : decode μ.2.1 pc = .ok (.iastore, 1)) (hv : V k i j) (hc : ∀ g w, xC ad pm g w k i j = .inl (0, n, .inl g)) (hx : x = nI m) (hm : m < n) (hn : n < 2 ^ 31) (kk : ∀ h', xR V ad h0 (fr F k i j (upd (F k i j) m y)) W pm h' → mJ K cells slots (pc + 1) L S h') : mJ K cells slots pc L (.int y :: .int x :: .ref (ad k i j) :: S) h :=
  mJ_iastN m hK hd ((hR.1 k i j hv).trans (congrArg some (hc _ _))) hx hm hn (kk _ (hR.rowF hv (upd (F k i j) m y) (hc _ _)))
theorem xJ_zast {n : Nat} {x y : Int32} (m : Nat) (hR : xR V ad h0 F W pm h) (hK : mCx K μ) (hd : decode μ.2.1 pc = .ok (.bastore, 1)) (hv : V k i j) (hc : ∀ g w, xC ad pm g w k i j = .inl (2, n, .inl g)) (hy : vp_nar .boolean y = y) (hx : x = nI m) (hm : m < n) (hn : n < 2 ^ 31) (kk : ∀ h', xR V ad h0 (fr F k i j (upd (F k i j) m y)) W pm h' → mJ K cells slots (pc + 1) L S h') : mJ K cells slots pc L (.int y :: .int x :: .ref (ad k i j) :: S) h :=
  mJ_zastN m hK hd ((hR.1 k i j hv).trans (congrArg some (hc _ _))) hy hx hm hn (kk _ (hR.rowF hv (upd (F k i j) m y) (hc _ _)))
theorem xJ_last {n : Nat} {x : Int32} {y : Int64} (m : Nat) (hR : xR V ad h0 F W pm h) (hK : mCx K μ) (hd : decode μ.2.1 pc = .ok (.lastore, 1)) (hv : V k i j) (hc : ∀ g w, xC ad pm g w k i j = .inl (1, n, .inr (.inl w))) (hx : x = nI m) (hm : m < n) (hn : n < 2 ^ 31) (kk : ∀ h', xR V ad h0 F (fr W k i j (vp_updL (W k i j) m y)) pm h' → mJ K cells slots (pc + 1) L S h') : mJ K cells slots pc L (.long y :: .int x :: .ref (ad k i j) :: S) h :=
  mJ_lastN m hK hd ((hR.1 k i j hv).trans (congrArg some (hc _ _))) hx hm hn (kk _ (hR.rowW hv (vp_updL (W k i j) m y) (hc _ _)))
theorem xJ_aldC {x : Int32} (m : Nat) (hR : xR V ad h0 F W pm h) (hK : mCx K μ) (hd : decode μ.2.1 pc = .ok (.aaload, 1)) (hv : V 8 i j) (hx : x = nI m) (hm : m < 8) (kk : mJ K cells slots (pc + 1) L (.ref (ad 13 i m) :: S) h) : mJ K cells slots pc L (.int x :: .ref (ad 8 i j) :: S) h :=
  mJ_aaldCN m hK hd ((hR.1 8 i j hv).trans rfl) hx hm (by decide) rfl kk
theorem xJ_aldR {x : Int32} (m : Nat) (hR : xR V ad h0 F W pm h) (hK : mCx K μ) (hd : decode μ.2.1 pc = .ok (.aaload, 1)) (hv : V 3 i j) (hx : x = nI m) (hm : m < 8) (kk : mJ K cells slots (pc + 1) L (.ref (ad 17 (pm m) 0) :: S) h) : mJ K cells slots pc L (.int x :: .ref (ad 3 i j) :: S) h :=
  mJ_aaldRN m hK hd ((hR.1 3 i j hv).trans rfl) hx hm (by decide) (by rw [if_pos hm]) kk
theorem xJ_copy {idx k' i' j' n0 n1 N : Nat} {x : Int32} (hR : xR V ad h0 F W pm h) (hK : mCx K μ) (hd : decode μ.2.1 pc = .ok (.invokestatic idx, 3)) (hl : Cond.methodLink μ.1.cls idx arraycopyName ∈ mTB) (hv : V k i j) (hv' : V k' i' j') (hc : ∀ g w, xC ad pm g w k i j = .inl (0, n0, .inl g)) (hc' : ∀ g w, xC ad pm g w k' i' j' = .inl (0, n1, .inl g)) (hx : x = nI N) (hN : N < 2 ^ 31) (h4 : N ≤ n0) (h5 : N ≤ n1) (hfr : 1 ≤ (mRm μ).frames) (hlo : (S.map fun v => v.category).sum + 18 ≤ (mRm μ).locals)
    (kk : ∀ h', xR V ad h0 (fr F k' i' j' (va_cpy (F k i j) (F k' i' j') 0 0 N)) W pm h' → mJ K cells slots (pc + 3) L S h') : mJ K cells slots pc L (.int x :: .int 0 :: .ref (ad k' i' j') :: .int 0 :: .ref (ad k i j) :: S) h := by
  subst hx
  exact mJ_copy hK hd hl lcp_1 lcp_2 lcp_3 ((hR.1 k i j hv).trans (congrArg some (hc _ _))) ((hR.1 k' i' j' hv').trans (congrArg some (hc' _ _))) (nI_clamp hN) (nI_pos hN) h4 h5 hfr hlo (kk _ (hR.rowF hv' _ (hc' _ _)))
end
