/-! ===== the words that all methods share ===== -/
def mTB : List Cond := lw_tbl.filter goodWord
theorem mTB_of {w : Cond} (h : w ∈ lw_tbl) (g : goodWord w = true) : w ∈ mTB := List.mem_filter.mpr ⟨h, g⟩
theorem mTB_t {w : Cond} (n : Nat) (h : tables_1[n]? = some w) (g : goodWord w = true) : w ∈ mTB := mTB_of (List.mem_append_right _ (List.mem_of_getElem? h)) g
theorem mTB_s {w : Cond} (n : Nat) (h : (k2_sels lw_privs)[n]? = some w) (g : goodWord w = true) : w ∈ mTB := mTB_of (List.mem_append_left _ (List.mem_of_getElem? h)) g
theorem mTB_good {w : Cond} (h : w ∈ mTB) : (w.onTables && w.keeps) = true ∨ ∃ ty, w = .arrayClass ty := good_of_word (List.mem_filter.mp h).2
/-! ===== the mini heap ===== -/
abbrev mC : Type := (Nat × vp_A) ⊕ (Nat × List Value)
abbrev mH : Type := Nat → Option mC
def mE (aC : Nat → ClassId) (x : mC) : va_E := match x with
  | .inl a => .inl (aC a.1, a.2)
  | .inr o => .inr o
def mset (h : mH) (a : Nat) (e : mC) : mH := fun b => if b = a then some e else h b
theorem mset_s {h : mH} {a : Nat} {e : mC} : mset h a e a = some e := if_pos rfl
theorem mset_n {h : mH} {a b : Nat} {e : mC} (hn : b ≠ a) : mset h a e b = h b := if_neg hn
def mSub (aC : Nat → ClassId) (h : mH) (ws : va_W) : Prop := ∀ (a : Nat) (e : mC), h a = some e → ∃ k : Nat, ws[k]? = some (a, mE aC e)
def mHR (D : va_G) (aC : Nat → ClassId) (A : Nat → Prop) (h : mH) (H : Heap) : Prop := ∃ ws : va_W, va_P D vwCl ws H ∧ va_D A ws ∧ mSub aC h ws
theorem mSub.set {aC : Nat → ClassId} {h : mH} {ws : va_W} {a k : Nat} {e0 : va_E} {e : mC} (hs : mSub aC h ws) (hk : ws[k]? = some (a, e0)) : mSub aC (mset h a e) (ws.set k (a, mE aC e)) := by
  intro b x hb
  have hl := (List.getElem?_eq_some_iff.mp hk).1
  by_cases hba : b = a
  · subst hba
    rw [mset_s] at hb
    cases hb
    exact ⟨k, List.getElem?_set_self hl⟩
  · rw [mset_n hba] at hb
    obtain ⟨j, hj⟩ := hs b x hb
    have hjk : j ≠ k := by
      intro z
      subst z
      rw [hk] at hj
      exact hba (congrArg Prod.fst (Option.some.inj hj)).symm
    exact ⟨j, by rw [List.getElem?_set_ne (Ne.symm hjk)]; exact hj⟩
/-! ===== the locals as a list ===== -/
def mLv : Nat → List (Option Value) → List (Nat × Value)
  | _, [] => []
  | i, none :: r => mLv (i + 1) r
  | i, some v :: r => (i, v) :: mLv (i + 1) r
theorem mLv_mem : ∀ (L : List (Option Value)) (i j : Nat) (v : Value), (j, v) ∈ mLv i L ↔ ∃ k, j = i + k ∧ L[k]? = some (some v)
  | [], i, j, v => by simp [mLv]
  | none :: r, i, j, v => by
    rw [mLv, mLv_mem r (i + 1) j v]
    constructor
    · rintro ⟨k, h1, h2⟩
      exact ⟨k + 1, by omega, by simpa using h2⟩
    · rintro ⟨k, h1, h2⟩
      cases k with
      | zero => simp at h2
      | succ k => exact ⟨k, by omega, by simpa using h2⟩
  | some w :: r, i, j, v => by
    rw [mLv, List.mem_cons, mLv_mem r (i + 1) j v]
    constructor
    · rintro (h | ⟨k, h1, h2⟩)
      · cases h
        exact ⟨0, rfl, rfl⟩
      · exact ⟨k + 1, by omega, by simpa using h2⟩
    · rintro ⟨k, h1, h2⟩
      cases k with
      | zero =>
        left
        simp at h2
        subst h2
        rw [h1]
        rfl
      | succ k => exact Or.inr ⟨k, by omega, by simpa using h2⟩
def mLR (ls : Array Slot) (nL : Nat) (L : List (Option Value)) : Prop := lv_has ls nL (mLv 0 L)
theorem mLR.at {ls : Array Slot} {nL : Nat} {L : List (Option Value)} (h : mLR ls nL L) {i : Nat} {v : Value} (hi : L[i]? = some (some v)) : ls[i]? = some (.val v) := h.2.2 (i, v) ((mLv_mem L 0 i v).mpr ⟨i, by omega, hi⟩)
theorem mLR.of {ls : Array Slot} {nL : Nat} {L : List (Option Value)} {lv : List (Nat × Value)} (h : lv_has ls nL lv) (hl : ∀ (i : Nat) (v : Value), L[i]? = some (some v) → (i, v) ∈ lv) : mLR ls nL L := by
  refine ⟨h.1, h.2.1, fun q hq => ?_⟩
  obtain ⟨j, v⟩ := q
  obtain ⟨k, h1, h2⟩ := (mLv_mem L 0 j v).mp hq
  have hjk : j = k := by omega
  subst hjk
  exact h.2.2 _ (hl j v h2)
def mOk (L : List (Option Value)) (i : Nat) : Bool := match i with
  | 0 => true
  | j + 1 => match L[j]? with
    | some (some w) => !(w.category == 2)
    | _ => true
theorem mOk_of {L : List (Option Value)} {i j : Nat} {w : Value} (h : mOk L i = true) (hj : L[j]? = some (some w)) : (!(j + 1 == i && w.category == 2)) = true := by
  by_cases e : j + 1 = i
  · subst e
    simp only [mOk, hj] at h
    simp only [beq_self_eq_true, Bool.true_and]
    exact h
  · have : (j + 1 == i) = false := by simpa using e
    rw [this]
    rfl
theorem mSt1 {ls : Array Slot} {nL : Nat} {L : List (Option Value)} {i : Nat} {v : Value} (ho : mOk L i = true) (h' : lv_has ls nL ((i, v) :: (mLv 0 L).filter (fun q => !(q.1 == i) && !(q.1 + 1 == i && q.2.category == 2)))) : mLR ls nL (L.set i (some v)) := by
  refine mLR.of h' fun j w hj => ?_
  rw [List.getElem?_set] at hj
  by_cases e : i = j
  · rw [if_pos e] at hj
    split at hj
    · cases hj
      subst e
      exact List.mem_cons_self
    · cases hj
  · rw [if_neg e] at hj
    refine List.mem_cons_of_mem _ (List.mem_filter.mpr ⟨(mLv_mem L 0 j w).mpr ⟨j, by omega, hj⟩, ?_⟩)
    have e2 : (j == i) = false := by simpa using Ne.symm e
    show (!(j == i) && !(j + 1 == i && w.category == 2)) = true
    rw [e2, mOk_of ho hj]
    rfl
theorem mSt2 {ls : Array Slot} {nL : Nat} {L : List (Option Value)} {i : Nat} {v : Value} (ho : mOk L i = true) (h' : lv_has ls nL ((i, v) :: (mLv 0 L).filter (fun q => !(q.1 == i) && (!(q.1 == i + 1) && !(q.1 + 1 == i && q.2.category == 2))))) : mLR ls nL ((L.set i (some v)).set (i + 1) none) := by
  refine mLR.of h' fun j w hj => ?_
  rw [List.getElem?_set] at hj
  by_cases e1 : i + 1 = j
  · rw [if_pos e1] at hj
    split at hj <;> cases hj
  · rw [if_neg e1, List.getElem?_set] at hj
    by_cases e : i = j
    · rw [if_pos e] at hj
      split at hj
      · cases hj
        subst e
        exact List.mem_cons_self
      · cases hj
    · rw [if_neg e] at hj
      refine List.mem_cons_of_mem _ (List.mem_filter.mpr ⟨(mLv_mem L 0 j w).mpr ⟨j, by omega, hj⟩, ?_⟩)
      have e2 : (j == i) = false := by simpa using Ne.symm e
      have e3 : (j == i + 1) = false := by simpa using Ne.symm e1
      show (!(j == i) && (!(j == i + 1) && !(j + 1 == i && w.category == 2))) = true
      rw [e2, e3, mOk_of ho hj]
      rfl
/-- the locals at a method's entry -/
def mEnt : List Value → Nat → List (Option Value)
  | [], n => List.replicate n none
  | v :: r, n => if v.category = 2 then some v :: none :: mEnt r (n - 2) else some v :: mEnt r (n - 1)
theorem mEnt_in : ∀ (vs : List Value) (n i j : Nat) (v : Value), (mEnt vs n)[j]? = some (some v) → (i + j, v) ∈ lv_args i vs
  | [], n, i, j, v, h => by
    rw [mEnt, List.getElem?_replicate] at h
    split at h <;> cases h
  | w :: r, n, i, j, v, h => by
    rw [mEnt] at h
    rw [lv_args]
    split at h
    · rename_i hc
      rw [if_pos hc]
      match j, h with
      | 0, h =>
        simp at h
        subst h
        exact List.mem_cons_self
      | 1, h => simp at h
      | j + 2, h =>
        have := mEnt_in r (n - 2) (i + 2) j v (by simpa using h)
        refine List.mem_cons_of_mem _ ?_
        rw [show i + (j + 2) = i + 2 + j by omega]
        exact this
    · rename_i hc
      rw [if_neg hc]
      match j, h with
      | 0, h =>
        simp at h
        subst h
        exact List.mem_cons_self
      | j + 1, h =>
        have := mEnt_in r (n - 1) (i + 1) j v (by simpa using h)
        refine List.mem_cons_of_mem _ ?_
        rw [show i + (j + 1) = i + 1 + j by omega]
        exact this
def mNF : List (String × Nat × String × String × String × String) := [("JoinRuntime", 95, "JoinRuntime$Rule", "pattern", "I", "JoinRuntime"), ("JoinRuntime$RuleReader", 60, "JoinRuntime$Rule", "pattern", "I", "JoinRuntime"), ("JoinRuntime", 264, "JoinRuntime$Rule", "guardLeft", "I", "JoinRuntime"), ("JoinRuntime", 267, "JoinRuntime$Rule", "guardRight", "I", "JoinRuntime"), ("JoinRuntime$RuleReader", 93, "JoinRuntime$Rule", "outputCount", "I", "JoinRuntime"), ("JoinRuntime", 289, "JoinRuntime$Rule", "outputCount", "I", "JoinRuntime"), ("JoinRuntime", 308, "JoinRuntime$Rule", "targets", "[I", "JoinRuntime"), ("JoinRuntime", 315, "JoinRuntime$Rule", "isReply", "[Z", "JoinRuntime"), ("JoinRuntime$State", 49, "JoinRuntime$Channel", "length", "I", "JoinRuntime"), ("JoinRuntime", 135, "JoinRuntime$Channel", "length", "I", "JoinRuntime"), ("JoinRuntime", 199, "JoinRuntime$Channel", "takenCount", "I", "JoinRuntime"), ("JoinRuntime", 202, "JoinRuntime$Channel", "waitSum", "J", "JoinRuntime"), ("JoinRuntime", 108, "JoinRuntime$State", "channels", "[LJoinRuntime$Channel;", "JoinRuntime"), ("JoinRuntime", 122, "JoinRuntime$State", "tickets", "LJoinRuntime$Tickets;", "JoinRuntime"), ("JoinRuntime", 81, "JoinRuntime$State", "firingCounts", "[I", "JoinRuntime"), ("JoinRuntime", 119, "JoinRuntime$State", "time", "I", "JoinRuntime"), ("JoinRuntime", 92, "JoinRuntime$State", "lastFired", "I", "JoinRuntime")]
def mNM : List (String × Nat × MethodName × String) := [("JoinRuntime", 15, (⟨"JoinRuntime$RuleReader", "<init>", "()V"⟩ : MethodName), "JoinRuntime"), ("JoinRuntime$RuleReader", 11, (⟨"JoinRuntime$Rule", "<init>", "()V"⟩ : MethodName), "JoinRuntime"), ("JoinRuntime$State", 19, (⟨"JoinRuntime$Tickets", "<init>", "()V"⟩ : MethodName), "JoinRuntime"), ("JoinRuntime$State", 32, (⟨"JoinRuntime$Channel", "<init>", "()V"⟩ : MethodName), "JoinRuntime"), ("JoinRuntime", 45, (⟨"JoinRuntime$Rule", "<init>", "()V"⟩ : MethodName), "JoinRuntime"), ("JoinRuntime$RuleReader", 100, (⟨"JoinRuntime", "isChannel", "(I)Z"⟩ : MethodName), "JoinRuntime"), ("JoinRuntime$Rule", 59, (⟨"JoinRuntime", "isChannel", "(I)Z"⟩ : MethodName), "JoinRuntime"), ("JoinRuntime$Channel", 46, (⟨"JoinRuntime", "mix", "(JJ)J"⟩ : MethodName), "JoinRuntime"), ("JoinRuntime$Tickets", 46, (⟨"JoinRuntime", "mix", "(JJ)J"⟩ : MethodName), "JoinRuntime")]
def mSt : List (String × Nat × String) := [("JoinRuntime", 48, "the code is not 32 to 126"), ("JoinRuntime", 59, "the buffer is full"), ("JoinRuntime", 70, "the buffer is not a rule"), ("JoinRuntime", 75, "there are 8 rules"), ("JoinRuntime", 237, "there is no such rule"), ("JoinRuntime", 98, "the policy is not 0 to 2"), ("JoinRuntime", 244, "there is no such channel"), ("JoinRuntime", 106, "the value is not -9999 to 9999"), ("JoinRuntime", 117, "the queue has 8 messages"), ("JoinRuntime", 144, "the queue has no such message"), ("JoinRuntime", 167, "the channel is not in the pattern"), ("JoinRuntime", 178, "the rule is not enabled"), ("JoinRuntime", 180, "the limit is not 1 to 100"), ("JoinRuntime", 242, "the ticket is not known"), ("JoinRuntime", 194, "the ticket is not answered"), ("JoinRuntime", 213, "there is no saved state")]
/-! ===== what a method's surroundings must hold ===== -/
def mXs : List String := ["java/lang/IllegalArgumentException", "java/lang/IllegalStateException", "java/lang/IndexOutOfBoundsException"]
def mYs : List MethodName := [⟨"java/lang/RuntimeException", "<init>", "(Ljava/lang/String;)V"⟩, ⟨"java/lang/Exception", "<init>", "(Ljava/lang/String;)V"⟩, ⟨"java/lang/Throwable", "<init>", "(Ljava/lang/String;)V"⟩]
def mtys (aC : Nat → ClassId) : List (ClassId × FieldType) := [(aC 0, .int), (aC 1, .long), (aC 2, .boolean), (aC 3, .object RX1), (aC 4, .object RX0)]
def mEnv (D : va_G) (aC : Nat → ClassId) (l : Launch) (A : Nat → Prop) (U : State) : Prop :=
  l.stackTraces = false ∧ va_K D vwCl (mtys aC) U ∧ (∀ q ∈ mNF, va_Nw (.fieldLinkNest q.1 q.2.1 q.2.2.1 q.2.2.2.1 q.2.2.2.2.1 q.2.2.2.2.2) U) ∧ (∀ q ∈ mNM, va_Nw (.methodLinkNest q.1 q.2.1 q.2.2.1 q.2.2.2) U) ∧
  (∀ X ∈ mXs, va_Nw (.castable X X) U) ∧ (∀ q ∈ mSt, ∃ sa : Nat, vk_R q.1 q.2.1 q.2.2 sa U) ∧ vx_Zq Bundle.tN "UNASSIGNED_STACK" Bundle.steD A U U.heap ∧ vx_Zq Bundle.tN "SUPPRESSED_SENTINEL" Bundle.listD A U U.heap ∧ (∀ Y ∈ mYs, va_Nw (.declares Y) U)
theorem mEnv.next {D : va_G} {aC : Nat → ClassId} {l : Launch} {A A' : Nat → Prop} {s U : State} {H : Heap} {locs : List Loc} (h : mEnv D aC l A s) (hS : va_S A s.heap H locs) (hU : U.heap = H) (hW : s.WarmedH U.vm) (hA : ∀ q, A' q → A q) : mEnv D aC l A' U := by
  obtain ⟨h1, h2, h3, h4, h5, h6, h7, h8, h9⟩ := h
  refine ⟨h1, va_K.moved hW.alike h2, fun q hq => va_Nw.warmF hW (h3 q hq), fun q hq => va_Nw.warmM hW (h4 q hq), fun X hX => va_Nw.warmC hW (h5 X hX), fun q hq => ?_, ?_, ?_, fun Y hY => va_Nw.warmD hW (h9 Y hY)⟩
  · obtain ⟨sa, e⟩ := h6 q hq
    exact ⟨sa, vk_R.warm hW e⟩
  · rw [hU]; exact ((vx_Zq.moved hW.alike (h7.kept hS.2.1))).narrow hA
  · rw [hU]; exact ((vx_Zq.moved hW.alike (h8.kept hS.2.1))).narrow hA
theorem mEnv.blind {D : va_G} {aC : Nat → ClassId} {l : Launch} {A : Nat → Prop} {U : State} {g : JFrame} {mk : MethodId} {a : Array Value} (h : mEnv D aC l A U) : mEnv D aC l A (U.calling g mk a) := by
  obtain ⟨h1, h2, h3, h4, h5, h6, h7, h8, h9⟩ := h
  refine ⟨h1, va_K.moved (Vm.Alike.refl U.vm) h2, fun q hq => va_Nw.same rfl rfl (h3 q hq), fun q hq => va_Nw.same rfl rfl (h4 q hq), fun X hX => va_Nw.same rfl rfl (h5 X hX), fun q hq => ?_, ?_, ?_, fun Y hY => va_Nw.same rfl rfl (h9 Y hY)⟩
  · obtain ⟨sa, e⟩ := h6 q hq
    exact ⟨sa, vk_R.same rfl e⟩
  · exact vx_Zq.moved (Vm.Alike.refl U.vm) h7
  · exact vx_Zq.moved (Vm.Alike.refl U.vm) h8
/-! ===== contracts ===== -/
abbrev mM : Type := MethodName × ByteArray × Nat × Option FieldType × Room
abbrev mRm (μ : mM) : Room := μ.2.2.2.2
def mWs (μ : mM) : List Cond := .code μ.1 μ.2.1 μ.2.2.1 μ.2.2.2.1 :: mTB
def mPre (l : Launch) (D : va_G) (aC : Nat → ClassId) (w : va_W) (sz : Nat) (U : State) : Prop := U.heap.size = sz ∧ va_P D vwCl w U.heap ∧ va_D (fun _ => True) w ∧ mEnv D aC l (va_A w sz) U
def mQc (D : va_G) (aC : Nat → ClassId) (Q : Option Value → mH → Prop) (A : Nat → Prop) : Array Value → State → Outcome → State → Prop := fun _ st oc t => ∃ (r : Option Value) (h' : mH), oc = .returned r ∧ Q r h' ∧ mHR D aC A h' t.heap ∧ va_F A st t
def mXc (D : va_G) (aC : Nat → ClassId) (QX : String → mH → Prop) (A : Nat → Prop) : String → State → State → Prop := fun E st t => ∃ h' : mH, QX E h' ∧ mHR D aC A h' t.heap ∧ va_F A st t
def mCon (l : Launch) (D : va_G) (aC : Nat → ClassId) (μ : mM) (vs : List Value) (h : mH) (Q : Option Value → mH → Prop) : Prop := ∀ (w : va_W) (sz : Nat), mSub aC h w → Met l μ.1 (mWs μ) (mRm μ) (va_Pc vs (mPre l D aC w sz)) (mQc D aC Q (va_A w sz)) (mRm μ).cells (mRm μ).slots (va_A w sz)
def mXon (l : Launch) (D : va_G) (aC : Nat → ClassId) (μ : mM) (vs : List Value) (h : mH) (Q : Option Value → mH → Prop) (QX : String → mH → Prop) : Prop := ∀ (w : va_W) (sz : Nat), mSub aC h w → vx_Met l μ.1 (mWs μ) (mRm μ) (va_Pc vs (mPre l D aC w sz)) (mQc D aC Q (va_A w sz)) (mXc D aC QX (va_A w sz)) (mRm μ).cells (mRm μ).slots (va_A w sz)
theorem mPre.blind {l : Launch} {D : va_G} {aC : Nat → ClassId} {w : va_W} {sz : Nat} {vs : List Value} : FrameBlind (va_Pc vs (mPre l D aC w sz)) := by
  intro a U g mk h
  obtain ⟨h0, h1, h2, h3, h4⟩ := h
  exact ⟨h0, h1, h2, h3, h4.blind⟩
/-! ===== a walk's surroundings, and the judgement ===== -/
abbrev mK := Program × Launch × Env × Room × State × MethodId × Array Value × List Frame × Method × Code × va_G × (Nat → ClassId) × (Nat → Prop) × (State → Prop)
abbrev kp (K : mK) : Program := K.1
abbrev kl (K : mK) : Launch := K.2.1
abbrev ke (K : mK) : Env := K.2.2.1
abbrev kR (K : mK) : Room := K.2.2.2.1
abbrev ks (K : mK) : State := K.2.2.2.2.1
abbrev km (K : mK) : MethodId := K.2.2.2.2.2.1
abbrev ka (K : mK) : Array Value := K.2.2.2.2.2.2.1
abbrev kb (K : mK) : List Frame := K.2.2.2.2.2.2.2.1
abbrev kme (K : mK) : Method := K.2.2.2.2.2.2.2.2.1
abbrev kc (K : mK) : Code := K.2.2.2.2.2.2.2.2.2.1
abbrev kD (K : mK) : va_G := K.2.2.2.2.2.2.2.2.2.2.1
abbrev kC (K : mK) : Nat → ClassId := K.2.2.2.2.2.2.2.2.2.2.2.1
abbrev kA (K : mK) : Nat → Prop := K.2.2.2.2.2.2.2.2.2.2.2.2.1
abbrev kZ (K : mK) : State → Prop := K.2.2.2.2.2.2.2.2.2.2.2.2.2
def mJ (K : mK) (cells slots pc : Nat) (L : List (Option Value)) (S : List Value) (h : mH) : Prop :=
  ∀ (H : Heap) (locs : List Loc) (ls : Array Slot), mHR (kD K) (kC K) (kA K) h H → va_S (kA K) (ks K).heap H locs → mLR ls (kc K).maxLocals L → W (kp K) (kl K) (ke K) (kR K) (ks K) (km K) (ka K) (kb K) (kme K) (kc K) H locs cells slots (kZ K) (F0 (km K) pc ls S)
def mCx (K : mK) (μ : mM) : Prop :=
  (kp K).tables.exec = Jvm.exec ∧ (kc K).code = μ.2.1 ∧ (kc K).maxLocals = μ.2.2.1 ∧ (kme K).sig.returnType = μ.2.2.2.1 ∧ (ks K).vm.findClass μ.1.cls = some (km K).cls ∧ (∀ w ∈ mTB, w.before (ka K) (ks K) = true) ∧ (kme K).locks = false ∧ kR K = mRm μ ∧ mEnv (kD K) (kC K) (kl K) (kA K) (ks K) ∧ (∀ q, (ks K).heap.size ≤ q → kA K q)
/-- what the end may say: a return with Q -/
def mRt (K : mK) (μ : mM) (Q : Option Value → mH → Prop) : Prop := ∀ t : State, MQ (kb K) (mQc (kD K) (kC K) Q (kA K)) (ka K) (ks K) (mRm μ).cells (mRm μ).slots (kA K) t → kZ K t
/-- what the end may say: a throw with QX -/
def mRx (K : mK) (μ : mM) (QX : String → mH → Prop) : Prop := (∀ x ∈ (kc K).exceptionTable.toList, False) ∧ ∃ Q : Option Value → mH → Prop, kZ K = vx_MQ (kb K) (mQc (kD K) (kC K) Q (kA K)) (mXc (kD K) (kC K) QX (kA K)) (ka K) (ks K) (mRm μ).cells (mRm μ).slots (kA K)
theorem mW_mono {p : Program} {l : Launch} {e : Env} {R : Room} {s : State} {m : MethodId} {args : Array Value} {below : List Frame} {meth : Method} {c : Code} {H : Heap} {locs : List Loc} {cells slots : Nat} {Q Q' : State → Prop} {g : JFrame} (h : ∀ t, Q t → Q' t) (k : W p l e R s m args below meth c H locs cells slots Q g) : W p l e R s m args below meth c H locs cells slots Q' g := by
  intro T hT X
  obtain ⟨t, a, b⟩ := k T hT X
  exact ⟨t, a, h t b⟩
theorem mTB_tail {μ : mM} {args : Array Value} {s : State} (h : ∀ w ∈ mWs μ, w.before args s = true) : ∀ w ∈ mTB, w.before args s = true := fun w hw => h w (List.mem_cons_of_mem _ hw)
theorem mHR_self {D : va_G} {aC : Nat → ClassId} {h : mH} {w : va_W} {sz : Nat} {H : Heap} (hP : va_P D vwCl w H) (hD : va_D (fun _ => True) w) (hs : mSub aC h w) : mHR D aC (va_A w sz) h H := ⟨w, hP, hD.self, hs⟩
/-- a contract out of a walk -/
theorem mCon.of {l : Launch} {D : va_G} {aC : Nat → ClassId} {μ : mM} {vs : List Value} {h : mH} {Q : Option Value → mH → Prop} (L : List (Option Value)) (hy : plainName μ.1.cls = true) (hL : mEnt vs μ.2.2.1 = L) (hlen : (lg_sl vs).length ≤ μ.2.2.1)
    (body : ∀ K : mK, kl K = l → kD K = D → kC K = aC → mCx K μ → mRt K μ Q → mJ K 0 0 0 L [] h) : mCon l D aC μ vs h Q := by
  intro w sz hs
  refine Met.ofW (cc := μ.2.1) (maxL := μ.2.2.1) (ret := μ.2.2.2.1) hy rfl ?_
  intro p e s m args below meth c s₁ B hml hv
  obtain ⟨rfl, hsz, hP, hD, hE⟩ := hv
  subst hsz
  have hts := mTB_tail (atoms_spec (ws := mWs μ) B.pre)
  have hown : s.vm.findClass μ.1.cls = some m.cls := findClass_of_methodNamed B.named
  have hb := body (p, l, e, mRm μ, s, m, vs.toArray, below, meth, c, D, aC, va_A w s.heap.size, MQ below (mQc D aC Q (va_A w s.heap.size)) vs.toArray s (mRm μ).cells (mRm μ).slots (va_A w s.heap.size)) rfl rfl rfl
    ⟨B.exec, B.bytes, hml, B.returns, hown, hts, B.notSynchronized, rfl, hE, fun q hq => Or.inr hq⟩ (fun t ht => ht)
  rw [lg_entry_eq]
  refine hb s.heap [] _ (mHR_self hP hD hs) va_S.rf ?_
  show mLR _ c.maxLocals L
  rw [hml, ← hL]
  exact mLR.of (lv_entry vs (n := μ.2.2.1) hlen) (fun i v hi => by have := mEnt_in vs μ.2.2.1 0 i v hi; rwa [Nat.zero_add] at this)
theorem mXon.of {l : Launch} {D : va_G} {aC : Nat → ClassId} {μ : mM} {vs : List Value} {h : mH} {Q : Option Value → mH → Prop} {QX : String → mH → Prop} (L : List (Option Value)) (hy : plainName μ.1.cls = true) (hL : mEnt vs μ.2.2.1 = L) (hlen : (lg_sl vs).length ≤ μ.2.2.1)
    (body : ∀ K : mK, kl K = l → kD K = D → kC K = aC → mCx K μ → mRt K μ Q → mRx K μ QX → mJ K 0 0 0 L [] h) : mXon l D aC μ vs h Q QX := by
  intro w sz hs
  refine vx_ofW (cc := μ.2.1) (maxL := μ.2.2.1) (ret := μ.2.2.2.1) hy rfl ?_
  intro p e s m args below meth c s₁ B hml htab hv
  obtain ⟨rfl, hsz, hP, hD, hE⟩ := hv
  subst hsz
  have hts := mTB_tail (atoms_spec (ws := mWs μ) B.pre)
  have hown : s.vm.findClass μ.1.cls = some m.cls := findClass_of_methodNamed B.named
  have hb := body (p, l, e, mRm μ, s, m, vs.toArray, below, meth, c, D, aC, va_A w s.heap.size, vx_MQ below (mQc D aC Q (va_A w s.heap.size)) (mXc D aC QX (va_A w s.heap.size)) vs.toArray s (mRm μ).cells (mRm μ).slots (va_A w s.heap.size)) rfl rfl rfl
    ⟨B.exec, B.bytes, hml, B.returns, hown, hts, B.notSynchronized, rfl, hE, fun q hq => Or.inr hq⟩ (fun t ht => by
      obtain ⟨o, b1, b2, b3, b4⟩ := ht
      exact ⟨o, b1, b2, Or.inl ⟨b3, b4⟩⟩) ⟨htab, Q, rfl⟩
  rw [lg_entry_eq]
  refine hb s.heap [] _ (mHR_self hP hD hs) va_S.rf ?_
  show mLR _ c.maxLocals L
  rw [hml, ← hL]
  exact mLR.of (lv_entry vs (n := μ.2.2.1) hlen) (fun i v hi => by have := mEnt_in vs μ.2.2.1 0 i v hi; rwa [Nat.zero_add] at this)
