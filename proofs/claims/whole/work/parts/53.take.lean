abbrev tkn (g : Nat) (x : Int32) : Prop := nI (g - 24) ≤ x ∧ x < nI g
def pnd (p rm : Int32) (g : Nat) (T : Nat → Int32) (e : Nat) (dn : Nat → Prop) (t : Nat) : Prop := ∃ c, c < e ∧ usP p (nI c) ∧ usP rm (nI c) ∧ tkn g (T c) ∧ (T c).toNatClampNeg % 24 = t ∧ ¬ dn c
def QcR (F : xFm) (W : xWm) (G : xFm) (B : xWm) (q : Nat → Nat) : Prop := ∀ c, c < 8 → F 13 0 c 3 = nI (q c) ∧ q c ≤ 8 ∧ G 44 0 0 c = nI (q c) ∧ F 13 0 c 4 = G 52 0 0 c ∧ W 13 0 c 0 = B 53 0 0 c ∧ ∀ k, k < q c → F 14 0 c k = G 45 0 0 (8 * c + k) ∧ F 15 0 c k = G 46 0 0 (8 * c + k) ∧ F 16 0 c k = G 47 0 0 (8 * c + k) ∧ bnd (F 14 0 c k)
def TnR (F G : xFm) (p : Int32) (e : Nat) : Prop := ∀ c, c < e → usP p (nI c) → F 5 0 0 c = G 67 0 0 c ∧ bnd (F 5 0 0 c) ∧ F 6 0 0 c = G 68 0 0 c
def SlR (F G : xFm) (P : Nat → Prop) : Prop := ∀ t, t < 24 → ¬ P t → F 10 0 0 t = G 50 0 0 t ∧ (G 50 0 0 t = nI 1 → F 11 0 0 t = G 51 0 0 t)
def qT (p : Int32) (q : Nat → Nat) (e c : Nat) : Nat := if c < e ∧ usP p (nI c) then q c - 1 else q c
/-- the class's rows behind a message taken, its ticket left as it is -/
def tkX (F : xFm) (c i n : Nat) : xFm := xTk (fr (fr F 5 0 0 (upd (F 5 0 0) c (F 14 0 c i))) 6 0 0 (upd (F 6 0 0) c (F 16 0 c i))) 0 c i (n - 1) n
theorem tkX_5 {F : xFm} {c i n : Nat} : tkX F c i n 5 0 0 = upd (F 5 0 0) c (F 14 0 c i) := rfl
theorem tkX_6 {F : xFm} {c i n : Nat} : tkX F c i n 6 0 0 = upd (F 6 0 0) c (F 16 0 c i) := rfl
theorem tkX_10 {F : xFm} {c i n : Nat} : tkX F c i n 10 0 0 = F 10 0 0 := rfl
theorem tkX_11 {F : xFm} {c i n : Nat} : tkX F c i n 11 0 0 = F 11 0 0 := rfl
theorem tkX_13 {F : xFm} {c i n : Nat} : tkX F c i n 13 0 c = upd (upd (F 13 0 c) 4 (F 13 0 c 4 + nI 1)) 3 (nI (n - 1)) := by
  unfold tkX xTk
  simp [fr]
theorem tkX_14 {F : xFm} {c i n : Nat} : tkX F c i n 14 0 c = sh (F 14 0 c) i (n - 1) := by
  unfold tkX xTk
  simp [fr]
theorem tkX_15 {F : xFm} {c i n : Nat} : tkX F c i n 15 0 c = sh (F 15 0 c) i (n - 1) := by
  unfold tkX xTk
  simp [fr]
theorem tkX_16 {F : xFm} {c i n : Nat} : tkX F c i n 16 0 c = sh (F 16 0 c) i (n - 1) := by
  unfold tkX xTk
  simp [fr]
theorem tkX_o {F : xFm} {c i n k d : Nat} (hd : d ≠ c) (hk : 13 ≤ k) : tkX F c i n k 0 d = F k 0 d := by
  unfold tkX
  rw [xTk_o (by omega), fr_k (by omega), fr_k (by omega)]
theorem tkS_t {cn q : Nat → Nat} {g r c : Nat} {F : xFm} {W : xWm} (hu : usP (F 17 r 0 0) (nI c)) : tkS cn q g r c (F, W) = (if usP (F 17 r 0 4) (nI c) then tkX F c (cn c) (q c) else xSt (tkX F c (cn c) (q c)) 0 g (F 16 0 c (cn c)) (nI 2) (nI 0), fr W 13 0 c (vp_updL (W 13 0 c) 0 (W 13 0 c 0 + (F 7 0 0 3 - F 15 0 c (cn c)).toInt64))) := by
  unfold tkS
  rw [if_pos hu]
  rfl
theorem tkS_k {cn q : Nat → Nat} {g r c : Nat} {F : xFm} {W : xWm} (hu : usP (F 17 r 0 0) (nI c)) {k i j : Nat} (h1 : k ≠ 10) (h2 : k ≠ 11) : (tkS cn q g r c (F, W)).1 k i j = tkX F c (cn c) (q c) k i j := by
  rw [tkS_t hu]
  dsimp only
  split
  · rfl
  · exact xSt_o h1 h2
theorem mTk_44 {G : xFm} {c i n : Nat} : mTk G c i n 44 0 0 = upd (G 44 0 0) c (nI (n - 1)) := rfl
theorem mTk_45 {G : xFm} {c i n : Nat} : mTk G c i n 45 0 0 = sh (G 45 0 0) (8 * c + i) (8 * c + (n - 1)) := rfl
theorem mTk_46 {G : xFm} {c i n : Nat} : mTk G c i n 46 0 0 = sh (G 46 0 0) (8 * c + i) (8 * c + (n - 1)) := rfl
theorem mTk_47 {G : xFm} {c i n : Nat} : mTk G c i n 47 0 0 = sh (G 47 0 0) (8 * c + i) (8 * c + (n - 1)) := rfl
theorem mTk_52 {G : xFm} {c i n : Nat} : mTk G c i n 52 0 0 = upd (G 52 0 0) c (G 52 0 0 c + nI 1) := rfl
theorem mTk_67 {G : xFm} {c i n : Nat} : mTk G c i n 67 0 0 = upd (G 67 0 0) c (G 45 0 0 (8 * c + i)) := rfl
theorem mTk_68 {G : xFm} {c i n : Nat} : mTk G c i n 68 0 0 = upd (G 68 0 0) c (G 47 0 0 (8 * c + i)) := rfl
theorem mTk_50 {G : xFm} {c i n : Nat} : mTk G c i n 50 0 0 = G 50 0 0 := rfl
theorem mTk_51 {G : xFm} {c i n : Nat} : mTk G c i n 51 0 0 = G 51 0 0 := rfl
theorem mcS_t {cn q : Nat → Nat} {g r c : Nat} {G : xFm} {B : xWm} (hu : usP (G 34 0 0 r) (nI c)) : mcS cn q g r c (G, B) = (mSe (mTk G c (cn c) (q c)) g (mTk G c (cn c) (q c) 68 0 0 c) (nI 2) (nI 0), mTw G B c (cn c)) := if_pos hu
theorem mcS_k {cn q : Nat → Nat} {g r c : Nat} {G : xFm} {B : xWm} (hu : usP (G 34 0 0 r) (nI c)) {k i j : Nat} (h1 : k ≠ 50) (h2 : k ≠ 51) : (mcS cn q g r c (G, B)).1 k i j = mTk G c (cn c) (q c) k i j := by
  rw [mcS_t hu]
  exact mSe_o h1 h2
theorem upd_s {f : Nat → Int32} {n : Nat} {x : Int32} : upd f n x n = x := by simp [upd]
theorem upd_n {f : Nat → Int32} {n m : Nat} {x : Int32} (h : m ≠ n) : upd f n x m = f m := by simp [upd, h]
theorem updL_s {f : Nat → Int64} {n : Nat} {x : Int64} : vp_updL f n x n = x := by simp [vp_updL]
theorem updL_n {f : Nat → Int64} {n m : Nat} {x : Int64} (h : m ≠ n) : vp_updL f n x m = f m := by simp [vp_updL, h]
theorem sh_a {a : Nat → Int32} {b e j : Nat} : sh a b e j = if b ≤ j ∧ j < e then a (j + 1) else a j := rfl
/-- the queues behind a message taken on both sides -/
theorem take_q {F : xFm} {W : xWm} {G : xFm} {B : xWm} {q q' : Nat → Nat} (h : QcR F W G B q') {cn : Nat → Nat} {g r i c : Nat} (hc : c < 8) (hq : q' c = q c) (hcn : cn c < q c) (hu : usP (F 17 r 0 0) (nI c)) (hp : F 17 r 0 0 = G 34 0 0 i) (ht : F 7 0 0 3 = G 30 0 0 18) : QcR (tkS cn q g r c (F, W)).1 (tkS cn q g r c (F, W)).2 (mcS cn q g i c (G, B)).1 (mcS cn q g i c (G, B)).2 (va_up q' c (q c - 1)) := by
  have hu' : usP (G 34 0 0 i) (nI c) := by rw [← hp]; exact hu
  have eW : (tkS cn q g r c (F, W)).2 = fr W 13 0 c (vp_updL (W 13 0 c) 0 (W 13 0 c 0 + (F 7 0 0 3 - F 15 0 c (cn c)).toInt64)) := by rw [tkS_t hu]
  have eB : (mcS cn q g i c (G, B)).2 = mTw G B c (cn c) := by rw [mcS_t hu']
  have eB2 : (mcS cn q g i c (G, B)).2 53 0 0 = vp_updL (B 53 0 0) c (B 53 0 0 c + (G 30 0 0 18 - G 46 0 0 (8 * c + cn c)).toInt64) := by rw [eB]; rfl
  intro d hd
  rw [tkS_k hu (by omega) (by omega), tkS_k hu (by omega) (by omega), tkS_k hu (by omega) (by omega), tkS_k hu (by omega) (by omega), mcS_k hu' (by omega) (by omega), mcS_k hu' (by omega) (by omega), mcS_k hu' (by omega) (by omega), mcS_k hu' (by omega) (by omega), mcS_k hu' (by omega) (by omega), eW, eB2, mTk_44, mTk_45, mTk_46, mTk_47, mTk_52]
  by_cases e : d = c
  · subst e
    obtain ⟨h1, h2, h3, h4, h5, h6⟩ := h d hc
    rw [tkX_13, tkX_14, tkX_15, tkX_16, fr_s, upd_s, upd_s, updL_s, upd_n (by omega), upd_s, upd_s, updL_s, va_up_s, h4, h5, ht]
    obtain ⟨h7, h8, h9, h10⟩ := h6 (cn d) (by omega)
    rw [h8]
    refine ⟨rfl, by omega, rfl, rfl, rfl, ?_⟩
    intro k hk
    simp only [sh_a]
    by_cases e2 : cn d ≤ k
    · obtain ⟨k1, k2, k3, k4⟩ := h6 (k + 1) (by omega)
      rw [if_pos (by omega), if_pos (by omega), if_pos (by omega), if_pos (by omega), if_pos (by omega), if_pos (by omega)]
      exact ⟨k1, k2, k3, k4⟩
    · obtain ⟨k1, k2, k3, k4⟩ := h6 k (by omega)
      rw [if_neg (by omega), if_neg (by omega), if_neg (by omega), if_neg (by omega), if_neg (by omega), if_neg (by omega)]
      exact ⟨k1, k2, k3, k4⟩
  · obtain ⟨h1, h2, h3, h4, h5, h6⟩ := h d hd
    rw [tkX_o e (by omega), tkX_o e (by omega), tkX_o e (by omega), tkX_o e (by omega), fr_n (by omega), upd_n e, upd_n e, updL_n e, va_up_n e]
    refine ⟨h1, h2, h3, h4, h5, ?_⟩
    intro k hk
    obtain ⟨k1, k2, k3, k4⟩ := h6 k hk
    have hqc := (h c hc).2.1
    simp only [sh_a]
    rw [if_neg (by omega), if_neg (by omega), if_neg (by omega)]
    exact ⟨k1, k2, k3, k4⟩