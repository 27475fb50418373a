/-! ===== objects as rows of fields; rules with numbers ===== -/
theorem lr_get {α : Type} {f : Nat → α} {N k : Nat} (hk : k < N) : ((List.range N).map f)[k]? = some (f k) := by
  rw [List.getElem?_map, List.getElem?_range hk]
  rfl
theorem lr_set {α : Type} {f : Nat → α} {N k : Nat} {v : α} : ((List.range N).map f).set k v = (List.range N).map (va_up f k v) := by
  apply List.ext_getElem?
  intro j
  rw [List.getElem?_set]
  by_cases hj : j < N
  · rw [lr_get (f := va_up f k v) hj]
    by_cases e : k = j
    · subst e
      simp [hj, va_up]
    · rw [if_neg e, lr_get hj]
      simp [va_up, Ne.symm e]
  · have h1 : ((List.range N).map f)[j]? = none := by simp; omega
    have h2 : ((List.range N).map (va_up f k v))[j]? = none := by simp; omega
    rw [h1, h2]
    simp
    omega
theorem lr_ext {α : Type} {f g : Nat → α} {N : Nat} (h : ∀ n, n < N → f n = g n) : (List.range N).map f = (List.range N).map g := by
  apply List.map_congr_left
  intro n hn
  exact h n (List.mem_range.mp hn)
section
variable {K : mK} {μ : mM} {cells slots pc : Nat} {L : List (Option Value)} {S : List Value} {h : mH}
theorem mJ_get {idx ci k a N : Nat} {f : Nat → Value} (v : Value) (hK : mCx K μ) (hd : decode μ.2.1 pc = .ok (.getfield idx, 3)) (hl : mFL μ.1.cls idx ci k) (ha : h a = some (.inr (ci, (List.range N).map f))) (hk : k < N) (hv : f k = v) (kk : mJ K cells slots (pc + 3) L (v :: S) h) : mJ K cells slots pc L (.ref a :: S) h :=
  mJ_getf hK hd hl ha (by rw [lr_get hk, hv]) kk
theorem mJ_put {idx ci k a N : Nat} {f : Nat → Value} {v : Value} {ty : FieldType} (hK : mCx K μ) (hd : decode μ.2.1 pc = .ok (.putfield idx, 3)) (hl : mFL μ.1.cls idx ci k) (hf : mFS ci k ty) (hn : narrow ty v = v) (hfit : fits ty v = true) (ha : h a = some (.inr (ci, (List.range N).map f))) (hk : k < N) (kk : mJ K cells slots (pc + 3) L S (mset h a (.inr (ci, (List.range N).map (va_up f k v))))) : mJ K cells slots pc L (v :: .ref a :: S) h :=
  mJ_putf hK hd hl hf hn hfit ha (by simpa using hk) (by rw [lr_set]; exact kk)
theorem mJ_ialdN {a n : Nat} {f : Nat → Int32} {i : Int32} (j : Nat) (hK : mCx K μ) (hd : decode μ.2.1 pc = .ok (.iaload, 1)) (ha : h a = some (.inl (0, n, .inl f))) (hi : i = nI j) (hj : j < n) (hn : n < 2 ^ 31) (kk : mJ K cells slots (pc + 1) L (.int (f j) :: S) h) : mJ K cells slots pc L (.int i :: .ref a :: S) h := by
  subst hi
  exact mJ_iald hK hd ha (vp_in_nI hj hn) (by rw [nI_clamp (Nat.lt_trans hj hn)]; exact kk)
theorem mJ_laldN {a n : Nat} {f : Nat → Int64} {i : Int32} (j : Nat) (hK : mCx K μ) (hd : decode μ.2.1 pc = .ok (.laload, 1)) (ha : h a = some (.inl (1, n, .inr (.inl f)))) (hi : i = nI j) (hj : j < n) (hn : n < 2 ^ 31) (kk : mJ K cells slots (pc + 1) L (.long (f j) :: S) h) : mJ K cells slots pc L (.int i :: .ref a :: S) h := by
  subst hi
  exact mJ_lald hK hd ha (vp_in_nI hj hn) (by rw [nI_clamp (Nat.lt_trans hj hn)]; exact kk)
theorem mJ_zaldN {a n : Nat} {f : Nat → Int32} {i : Int32} (j : Nat) (hK : mCx K μ) (hd : decode μ.2.1 pc = .ok (.baload, 1)) (ha : h a = some (.inl (2, n, .inl f))) (hi : i = nI j) (hj : j < n) (hn : n < 2 ^ 31) (kk : mJ K cells slots (pc + 1) L (.int (f j) :: S) h) : mJ K cells slots pc L (.int i :: .ref a :: S) h := by
  subst hi
  exact mJ_zald hK hd ha (vp_in_nI hj hn) (by rw [nI_clamp (Nat.lt_trans hj hn)]; exact kk)
theorem mJ_aaldRN {a n v : Nat} {f : Nat → Option Nat} {i : Int32} (j : Nat) (hK : mCx K μ) (hd : decode μ.2.1 pc = .ok (.aaload, 1)) (ha : h a = some (.inl (3, n, .inr (.inr (.inr (.inr f)))))) (hi : i = nI j) (hj : j < n) (hn : n < 2 ^ 31) (hv : f j = some v) (kk : mJ K cells slots (pc + 1) L (.ref v :: S) h) : mJ K cells slots pc L (.int i :: .ref a :: S) h := by
  subst hi
  exact mJ_aaldR hK hd ha (vp_in_nI hj hn) (by rw [nI_clamp (Nat.lt_trans hj hn)]; exact hv) kk
theorem mJ_aaldCN {a n v : Nat} {f : Nat → Option Nat} {i : Int32} (j : Nat) (hK : mCx K μ) (hd : decode μ.2.1 pc = .ok (.aaload, 1)) (ha : h a = some (.inl (4, n, .inr (.inr (.inr (.inr f)))))) (hi : i = nI j) (hj : j < n) (hn : n < 2 ^ 31) (hv : f j = some v) (kk : mJ K cells slots (pc + 1) L (.ref v :: S) h) : mJ K cells slots pc L (.int i :: .ref a :: S) h := by
  subst hi
  exact mJ_aaldC hK hd ha (vp_in_nI hj hn) (by rw [nI_clamp (Nat.lt_trans hj hn)]; exact hv) kk
theorem mJ_iastN {a n : Nat} {f : Nat → Int32} {i x : Int32} (j : Nat) (hK : mCx K μ) (hd : decode μ.2.1 pc = .ok (.iastore, 1)) (ha : h a = some (.inl (0, n, .inl f))) (hi : i = nI j) (hj : j < n) (hn : n < 2 ^ 31) (kk : mJ K cells slots (pc + 1) L S (mset h a (.inl (0, n, .inl (upd f j x))))) : mJ K cells slots pc L (.int x :: .int i :: .ref a :: S) h := by
  subst hi
  exact mJ_iast hK hd ha (vp_in_nI hj hn) (by rw [nI_clamp (Nat.lt_trans hj hn)]; exact kk)
theorem mJ_lastN {a n : Nat} {f : Nat → Int64} {i : Int32} {x : Int64} (j : Nat) (hK : mCx K μ) (hd : decode μ.2.1 pc = .ok (.lastore, 1)) (ha : h a = some (.inl (1, n, .inr (.inl f)))) (hi : i = nI j) (hj : j < n) (hn : n < 2 ^ 31) (kk : mJ K cells slots (pc + 1) L S (mset h a (.inl (1, n, .inr (.inl (vp_updL f j x)))))) : mJ K cells slots pc L (.long x :: .int i :: .ref a :: S) h := by
  subst hi
  exact mJ_last hK hd ha (vp_in_nI hj hn) (by rw [nI_clamp (Nat.lt_trans hj hn)]; exact kk)
theorem mJ_zastN {a n : Nat} {f : Nat → Int32} {i x : Int32} (j : Nat) (hK : mCx K μ) (hd : decode μ.2.1 pc = .ok (.bastore, 1)) (ha : h a = some (.inl (2, n, .inl f))) (hx : vp_nar .boolean x = x) (hi : i = nI j) (hj : j < n) (hn : n < 2 ^ 31) (kk : mJ K cells slots (pc + 1) L S (mset h a (.inl (2, n, .inl (upd f j x))))) : mJ K cells slots pc L (.int x :: .int i :: .ref a :: S) h := by
  subst hi
  exact mJ_zast hK hd ha (vp_in_nI hj hn) (by rw [nI_clamp (Nat.lt_trans hj hn), hx]; exact kk)
theorem mJ_aastRN {a n v : Nat} {f : Nat → Option Nat} {i : Int32} {vs : List Value} (j : Nat) (hK : mCx K μ) (hd : decode μ.2.1 pc = .ok (.aastore, 1)) (ha : h a = some (.inl (3, n, .inr (.inr (.inr (.inr f)))))) (hv : h v = some (.inr (1, vs))) (hi : i = nI j) (hj : j < n) (hn : n < 2 ^ 31) (kk : mJ K cells slots (pc + 1) L S (mset h a (.inl (3, n, .inr (.inr (.inr (.inr (va_up f j (some v))))))))) : mJ K cells slots pc L (.ref v :: .int i :: .ref a :: S) h := by
  subst hi
  exact mJ_aastR hK hd ha hv (vp_in_nI hj hn) (by rw [nI_clamp (Nat.lt_trans hj hn)]; exact kk)
/-- a truth value as the machine has it -/
def bI (p : Prop) [Decidable p] : Int32 := if p then 1 else 0
theorem bI_t {p : Prop} [Decidable p] (h : p) : bI p = 1 := if_pos h
theorem bI_f {p : Prop} [Decidable p] (h : ¬ p) : bI p = 0 := if_neg h
theorem bI_0 {p : Prop} [Decidable p] : bI p = 0 ↔ ¬ p := by
  unfold bI
  split <;> simp_all
theorem bI_n0 {p : Prop} [Decidable p] : ¬ bI p = 0 ↔ p := by
  rw [bI_0, Decidable.not_not]
theorem bI_iff {p q : Prop} [Decidable p] [Decidable q] (h : p ↔ q) : bI p = bI q := by
  unfold bI
  simp [h]
theorem bI_nar {p : Prop} [Decidable p] : narrow .boolean (.int (bI p)) = .int (bI p) := by
  unfold bI
  split <;> decide
theorem bI_vnar {p : Prop} [Decidable p] : vp_nar .boolean (bI p) = bI p := by
  unfold bI
  split <;> decide
theorem bI_fits {p : Prop} [Decidable p] : fits .boolean (.int (bI p)) = true := by
  unfold bI
  split <;> decide
theorem mJ_ifb_eq {p : Prop} [Decidable p] {off : Int} {tgt : Nat} (hK : mCx K μ) (hd : decode μ.2.1 pc = .ok (.ifCond .eq off, 3)) (ht : (pc : Int) + off = (tgt : Int)) (kt : ¬ p → mJ K cells slots tgt L S h) (kf : p → mJ K cells slots (pc + 3) L S h) : mJ K cells slots pc L (.int (bI p) :: S) h :=
  mJ_if_eq hK hd ht (fun c => kt (bI_0.mp c)) (fun c => kf (bI_n0.mp c))
theorem mJ_ifb_ne {p : Prop} [Decidable p] {off : Int} {tgt : Nat} (hK : mCx K μ) (hd : decode μ.2.1 pc = .ok (.ifCond .ne off, 3)) (ht : (pc : Int) + off = (tgt : Int)) (kt : p → mJ K cells slots tgt L S h) (kf : ¬ p → mJ K cells slots (pc + 3) L S h) : mJ K cells slots pc L (.int (bI p) :: S) h :=
  mJ_if_ne hK hd ht (fun c => kt (bI_n0.mp c)) (fun c => kf (bI_0.mp c))
theorem mJ_nlt {a b : Nat} {off : Int} {tgt : Nat} (hK : mCx K μ) (hd : decode μ.2.1 pc = .ok (.if_icmp .lt off, 3)) (ht : (pc : Int) + off = (tgt : Int)) (ha : a < 2 ^ 31) (hb : b < 2 ^ 31) (kt : a < b → mJ K cells slots tgt L S h) (kf : b ≤ a → mJ K cells slots (pc + 3) L S h) : mJ K cells slots pc L (.int (nI b) :: .int (nI a) :: S) h :=
  mJ_icmp_lt hK hd ht (fun c => kt ((nI_ltI ha hb).mp c)) (fun c => kf (Nat.le_of_not_lt fun z => c ((nI_ltI ha hb).mpr z)))
theorem mJ_nge {a b : Nat} {off : Int} {tgt : Nat} (hK : mCx K μ) (hd : decode μ.2.1 pc = .ok (.if_icmp .ge off, 3)) (ht : (pc : Int) + off = (tgt : Int)) (ha : a < 2 ^ 31) (hb : b < 2 ^ 31) (kt : b ≤ a → mJ K cells slots tgt L S h) (kf : a < b → mJ K cells slots (pc + 3) L S h) : mJ K cells slots pc L (.int (nI b) :: .int (nI a) :: S) h :=
  mJ_icmp_ge hK hd ht (fun c => kt ((nI_leI hb ha).mp c)) (fun c => kf (Nat.lt_of_not_le fun z => c ((nI_leI hb ha).mpr z)))
theorem mJ_ngt {a b : Nat} {off : Int} {tgt : Nat} (hK : mCx K μ) (hd : decode μ.2.1 pc = .ok (.if_icmp .gt off, 3)) (ht : (pc : Int) + off = (tgt : Int)) (ha : a < 2 ^ 31) (hb : b < 2 ^ 31) (kt : b < a → mJ K cells slots tgt L S h) (kf : a ≤ b → mJ K cells slots (pc + 3) L S h) : mJ K cells slots pc L (.int (nI b) :: .int (nI a) :: S) h :=
  mJ_icmp_gt hK hd ht (fun c => kt ((nI_ltI hb ha).mp c)) (fun c => kf (Nat.le_of_not_lt fun z => c ((nI_ltI hb ha).mpr z)))
theorem mJ_nle {a b : Nat} {off : Int} {tgt : Nat} (hK : mCx K μ) (hd : decode μ.2.1 pc = .ok (.if_icmp .le off, 3)) (ht : (pc : Int) + off = (tgt : Int)) (ha : a < 2 ^ 31) (hb : b < 2 ^ 31) (kt : a ≤ b → mJ K cells slots tgt L S h) (kf : b < a → mJ K cells slots (pc + 3) L S h) : mJ K cells slots pc L (.int (nI b) :: .int (nI a) :: S) h :=
  mJ_icmp_le hK hd ht (fun c => kt ((nI_leI ha hb).mp c)) (fun c => kf (Nat.lt_of_not_le fun z => c ((nI_leI ha hb).mpr z)))
theorem mJ_neq {a b : Nat} {off : Int} {tgt : Nat} (hK : mCx K μ) (hd : decode μ.2.1 pc = .ok (.if_icmp .eq off, 3)) (ht : (pc : Int) + off = (tgt : Int)) (ha : a < 2 ^ 31) (hb : b < 2 ^ 31) (kt : a = b → mJ K cells slots tgt L S h) (kf : a ≠ b → mJ K cells slots (pc + 3) L S h) : mJ K cells slots pc L (.int (nI b) :: .int (nI a) :: S) h :=
  mJ_icmp_eq hK hd ht (fun c => kt ((nI_eq ha hb).mp c)) (fun c => kf (fun z => c ((nI_eq ha hb).mpr z)))
theorem mJ_nne {a b : Nat} {off : Int} {tgt : Nat} (hK : mCx K μ) (hd : decode μ.2.1 pc = .ok (.if_icmp .ne off, 3)) (ht : (pc : Int) + off = (tgt : Int)) (ha : a < 2 ^ 31) (hb : b < 2 ^ 31) (kt : a ≠ b → mJ K cells slots tgt L S h) (kf : a = b → mJ K cells slots (pc + 3) L S h) : mJ K cells slots pc L (.int (nI b) :: .int (nI a) :: S) h :=
  mJ_icmp_ne hK hd ht (fun c => kt (fun z => c ((nI_eq ha hb).mpr z))) (fun c => kf ((nI_eq ha hb).mp c))
theorem mJ_iincN {i j : Nat} {x : Int32} (hK : mCx K μ) (hd : decode μ.2.1 pc = .ok (.iinc i 1, 3)) (hl : L[i]? = some (some (.int x))) (hx : x = nI j) (hn : i < μ.2.2.1) (ho : mOk L i = true) (kk : mJ K cells slots (pc + 3) (L.set i (some (.int (nI (j + 1))))) S h) : mJ K cells slots pc L S h :=
  mJ_iinc hK hd hl (by rw [hx]; exact nI_1 j) hn ho kk
/-- the local list by another name -/
theorem mJ_L {L' : List (Option Value)} (e : L = L') (k : mJ K cells slots pc L' S h) : mJ K cells slots pc L S h := e ▸ k
theorem mJ_S {S' : List Value} (e : S = S') (k : mJ K cells slots pc L S' h) : mJ K cells slots pc L S h := e ▸ k
end
/-- a row of a state in another's place -/
def fr {α : Type} (F : Nat → Nat → Nat → α) (k i j : Nat) (g : α) : Nat → Nat → Nat → α := fun k' i' j' => if k' = k ∧ i' = i ∧ j' = j then g else F k' i' j'
theorem fr_s {α : Type} {F : Nat → Nat → Nat → α} {k i j : Nat} {g : α} : fr F k i j g k i j = g := if_pos ⟨rfl, rfl, rfl⟩
theorem fr_n {α : Type} {F : Nat → Nat → Nat → α} {k i j k' i' j' : Nat} {g : α} (h : ¬ (k' = k ∧ i' = i ∧ j' = j)) : fr F k i j g k' i' j' = F k' i' j' := if_neg h
theorem fr_k {α : Type} {F : Nat → Nat → Nat → α} {k i j k' i' j' : Nat} {g : α} (h : k' ≠ k) : fr F k i j g k' i' j' = F k' i' j' := if_neg fun z => h z.1
theorem fr_self {α : Type} {F : Nat → Nat → Nat → α} {k i j : Nat} : fr F k i j (F k i j) = F := by
  funext a b c
  unfold fr
  split
  · rename_i h
    obtain ⟨rfl, rfl, rfl⟩ := h
    rfl
  · rfl
