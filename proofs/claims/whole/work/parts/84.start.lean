/-! THE CLAIM OUT OF ONE WALK OF THE LAW'S BODY. Your part is whole_start (and what it stands on); all else here is the same for every law, but numbers. -/
def R_law : String := "JoinRuntimeLaw"
def lw_P (b : Addr) (xs : List Int32) (args : Array Value) (s : State) : Prop := args = #[.ref b] ∧ s.IntsAt b xs ∧ xs.length ≤ 1536 ∧ (Jvm.Cond.and given_1 narrow_1).before args s = true
/-- what a walk over the start with the record d0 says of its end, said of the start itself -/
theorem lw_closed {s t : State} {o : Outcome} {d0 : Drawn} {L : List Loc} {k n : Nat} (hd0 : s.drawn.sameBut d0 lw_cs) (hv : ∃ v, o = .returned v) (hW : (s.setDrawn d0).WarmedH t.vm) (hs : (s.setDrawn d0).sameButNew ({ t with vm := s.vm } : State) L k n) : State.butDraws s t lw_cs (fun t1 => Framed s o t1 L k n) := by
  have h2 : t.drawn = d0 := congrArg State.drawn hs.1
  refine ⟨⟨hv, hW, State.sameButNew.setDrawn hs s.drawn⟩, ?_, by decide⟩
  rw [h2]
  exact hd0
def lw_Q (_ : Array Value) (s : State) (o : Outcome) (t : State) : Prop := o = .returned (some (.int 1)) ∧ State.butDraws s t lw_cs (fun t1 => Framed s o t1 [] 607087 7274842)
def lw_Z (below : List Frame) (a : Array Value) (s : State) : State → Prop := fun t => ∃ o, t.status = .running ∧ Ended t below o ∧ lw_Q a s o t
/-- the law's own end, with 1 on the stack, nothing written that was there before, its room as the claim has it; d0: the record of draws at this point (at the entry s.drawn: begin with 'refine W.base ?_' and 'have hd0 := Drawn.sameBut.refl s.drawn lw_cs') -/
theorem lw_ret {p : Program} {l : Launch} {e : Env} {s : State} {m : MethodId} {below : List Frame} {meth : Method} {c : Code} {b : Nat} {d0 : Drawn} (hd0 : s.drawn.sameBut d0 lw_cs) (hx : p.tables.exec = Jvm.exec) (hb : c.code = code) (hr : meth.sig.returnType = ret) (hlocks : meth.locks = false) {pc : Nat} {H : Heap} {ls : Array Slot} (hdg : decode code pc = .ok (.ireturn, 1)) : W p l e room_1 (s.setDrawn d0) m #[Value.ref b] below meth c H [] 607087 7274842 (lw_Z below #[Value.ref b] s) (F0 m pc ls [.int 1]) := by
  intro T hT X
  obtain ⟨fs, hret, hrun, hended, hW, hframe⟩ := X.leave (v := some (.int 1)) (hlocks := hlocks) (fun h => by rw [hr] at h; cases h)
  have hmeth' : T.vm.method? m = some meth := X.method'
  refine ⟨T.setFrames fs, ?_, .returned (some (.int 1)), hrun, hended, rfl, lw_closed hd0 ⟨_, rfl⟩ hW hframe⟩
  jvm_step X.here [X.here.top, hx, hb, hdg, hmeth', hr, ret, narrow_b1]
  (try refine ⟨rfl, ?_⟩); (try refine ⟨rfl, ?_⟩)
  first | (intro acts; rw [hret _ acts rfl rfl rfl]) | rw [hret _ _ rfl rfl rfl]
  exact Steps.refl _
/-- what holds at the law's entry: the machine, the code, the tables' words (any of lw_tbl by 'hts w (by decide +kernel)'), the script of L ints xs at the cell b, what the Statement gives of the start (any of its parts by flat_of_before) -/
def lw_At (p : Program) (s : State) (m : MethodId) (meth : Method) (c : Code) (b L : Nat) (xs : Nat → Int32) : Prop :=
  p.tables.exec = Jvm.exec ∧ c.code = code ∧ meth.sig.returnType = ret ∧ c.maxLocals = 9 ∧ s.vm.findClass R_law = some m.cls ∧ (∀ w ∈ lw_tbl, w.before #[Value.ref b] s = true) ∧ va_X b L xs s s.heap ∧ b < s.heap.size ∧ meth.locks = false ∧ (Jvm.Cond.and given_1 narrow_1).before #[Value.ref b] s = true
theorem tb_t {w : Cond} (n : Nat) (h : tables_1[n]? = some w) : w ∈ lw_tbl := List.mem_append_right _ (List.mem_of_getElem? h)
theorem sx_nF : ∀ q ∈ mNF, Cond.fieldLinkNest q.1 q.2.1 q.2.2.1 q.2.2.2.1 q.2.2.2.2.1 q.2.2.2.2.2 ∈ tables_1 := by decide +kernel
theorem sx_nM : ∀ q ∈ mNM, Cond.methodLinkNest q.1 q.2.1 q.2.2.1 q.2.2.2 ∈ tables_1 := by decide +kernel
theorem sx_X : ∀ X ∈ mXs, Cond.castable X X ∈ tables_1 := by decide +kernel
theorem sx_S : ∀ q ∈ mSt, Cond.stringRef q.1 q.2.1 q.2.2 ∈ tables_1 := by decide +kernel
theorem sx_So : ∀ q ∈ mSt, q.1 = RX5 := by decide +kernel
theorem sx_Y : ∀ Y ∈ mYs, Cond.declares Y ∈ tables_1 := by decide +kernel
theorem sx_L1 : Cond.laysStatic Bundle.tN "UNASSIGNED_STACK" Bundle.steD ∈ tables_1 := by decide +kernel
theorem sx_L2 : Cond.laysStatic Bundle.tN "SUPPRESSED_SENTINEL" Bundle.listD ∈ tables_1 := by decide +kernel
theorem sx_I : Cond.initialized Bundle.tN ∈ tables_1 := by decide +kernel
theorem sx_O1 : Cond.arrayOver (.object "JoinRuntime$Rule") ∈ tables_1 := by decide +kernel
theorem sx_O0 : Cond.arrayOver (.object "JoinRuntime$Channel") ∈ tables_1 := by decide +kernel
theorem sx_A0 : Cond.arrayClass .int ∈ tables_1 := by decide +kernel
theorem sx_A1 : Cond.arrayClass .long ∈ tables_1 := by decide +kernel
theorem sx_A2 : Cond.arrayClass .boolean ∈ tables_1 := by decide +kernel
theorem sx_A5 : Cond.arrayClass .double ∈ tables_1 := by decide +kernel
theorem sx_n0 : Cond.instantiable RX0 6 ∈ tables_1 := by decide +kernel
theorem sx_n1 : Cond.instantiable RX1 11 ∈ tables_1 := by decide +kernel
theorem sx_n2 : Cond.instantiable RX2 4 ∈ tables_1 := by decide +kernel
theorem sx_n3 : Cond.instantiable RX3 5 ∈ tables_1 := by decide +kernel
theorem sx_n4 : Cond.instantiable RX4 3 ∈ tables_1 := by decide +kernel
theorem sx_n5 : Cond.instantiable RX5 12 ∈ tables_1 := by decide +kernel
theorem sx_n6 : Cond.instantiable RX6 53 ∈ tables_1 := by decide +kernel
/-- the classes -/
theorem sx_cl {s : State} {A : Array Value} (h : ∀ w ∈ tables_1, w.before A s = true) : ∃ D : va_G, ∀ (k : Nat) (q : vw_C), vwCl[k]? = some q → u_Kn s q.1 q.2.1 q.2.2 (D.1 k) (D.2 k) := by
  obtain ⟨c0, i0, k0⟩ := u_known (C := RX0) (T := TX0) (N := 6) (n := 6) h iX0_t (h _ sx_n0)
  obtain ⟨c1, i1, k1⟩ := u_known (C := RX1) (T := TX1) (N := 11) (n := 11) h iX1_t (h _ sx_n1)
  obtain ⟨c2, i2, k2⟩ := u_known (C := RX2) (T := TX2) (N := 4) (n := 4) h iX2_t (h _ sx_n2)
  obtain ⟨c3, i3, k3⟩ := u_known (C := RX3) (T := TX3) (N := 5) (n := 5) h iX3_t (h _ sx_n3)
  obtain ⟨c4, i4, k4⟩ := u_known (C := RX4) (T := TX4) (N := 3) (n := 3) h iX4_t (h _ sx_n4)
  obtain ⟨c5, i5, k5⟩ := u_known (C := RX5) (T := TX5) (N := 12) (n := 12) h iX5_t (h _ sx_n5)
  obtain ⟨c6, i6, k6⟩ := u_known (C := RX6) (T := TX6) (N := 53) (n := 53) h iX6_t (h _ sx_n6)
  refine ⟨(fun k => match k with | 0 => c0 | 1 => c1 | 2 => c2 | 3 => c3 | 4 => c4 | 5 => c5 | _ => c6, fun k => match k with | 0 => i0 | 1 => i1 | 2 => i2 | 3 => i3 | 4 => i4 | 5 => i5 | _ => i6), ?_⟩
  intro k q hq
  match k, hq with
  | 0, hq => cases hq; exact k0
  | 1, hq => cases hq; exact k1
  | 2, hq => cases hq; exact k2
  | 3, hq => cases hq; exact k3
  | 4, hq => cases hq; exact k4
  | 5, hq => cases hq; exact k5
  | 6, hq => cases hq; exact k6
  | k + 7, hq => simp [vwCl] at hq
/-- the classes of rows -/
theorem sx_ar {s : State} {A : Array Value} (h : ∀ w ∈ tables_1, w.before A s = true) : ∃ aC : Nat → ClassId, (∀ (k : Nat) (q : ClassId × FieldType), (mtys aC)[k]? = some q → ArrOfT s q.1 q.2 ∧ va_RA s q.1 q.2) ∧ ArrOfT s (aC 5) .double ∧ va_RA s (aC 5) .double := by
  obtain ⟨c0, k0, p0', f0, g0, e0⟩ := Cond.arrayClass_spec (h _ sx_A0)
  obtain ⟨c1, k1, p1', f1, g1, e1⟩ := Cond.arrayClass_spec (h _ sx_A1)
  obtain ⟨c2, k2, p2', f2, g2, e2⟩ := Cond.arrayClass_spec (h _ sx_A2)
  obtain ⟨c5, k5, p5', f5, g5, e5⟩ := Cond.arrayClass_spec (h _ sx_A5)
  obtain ⟨p3', c3, k3, a3, -, g3, e3, f3⟩ := Cond.arrayOver_spec (h _ sx_O1)
  obtain ⟨p4', c4, k4, a4, -, g4, e4, f4⟩ := Cond.arrayOver_spec (h _ sx_O0)
  refine ⟨fun k => match k with | 0 => c0 | 1 => c1 | 2 => c2 | 3 => c3 | 4 => c4 | _ => c5, ?_, fun N z => ⟨(fun k h => by cases h), k5, g5, p5', e5⟩, f5⟩
  intro k q hq
  match k, hq with
  | 0, hq => cases hq; exact ⟨fun N z => ⟨(fun k h => by cases h), k0, g0, p0', e0⟩, f0⟩
  | 1, hq => cases hq; exact ⟨fun N z => ⟨(fun k h => by cases h), k1, g1, p1', e1⟩, f1⟩
  | 2, hq => cases hq; exact ⟨fun N z => ⟨(fun k h => by cases h), k2, g2, p2', e2⟩, f2⟩
  | 3, hq => cases hq; exact ⟨fun N z => ⟨(fun k h => by cases h), k3, g3, p3', e3⟩, k3, p3', g3, e3, a3, f3⟩
  | 4, hq => cases hq; exact ⟨fun N z => ⟨(fun k h => by cases h), k4, g4, p4', e4⟩, k4, p4', g4, e4, a4, f4⟩
  | k + 5, hq => simp [mtys] at hq
/-- all that a walk's surroundings must hold, at the law's entry -/
theorem sx_env {s : State} {b : Nat} {l : Launch} (hflags : l.flags = flags0) (h : ∀ w ∈ tables_1, w.before #[Value.ref b] s = true) (hgv : (Jvm.Cond.and given_1 narrow_1).before #[Value.ref b] s = true) : ∃ (D : va_G) (aC : Nat → ClassId), mEnv D aC l (fun q => s.heap.size ≤ q) s ∧ mNo D aC s := by
  obtain ⟨D, hD⟩ := sx_cl h
  obtain ⟨aC, hA, hA5, hR5⟩ := sx_ar h
  have hg := flat_of_before _ hgv
  refine ⟨D, aC, ⟨?_, ⟨hD, hA⟩, fun q hq => va_Nw.of rfl (h _ (sx_nF q hq)), fun q hq => va_Nw.of rfl (h _ (sx_nM q hq)), fun X hX => va_Nw.of rfl (h _ (sx_X X hX)), fun q hq => ?_, ?_, ?_, fun Y hY => va_Nw.of rfl (h _ (sx_Y Y hY))⟩, ?_, va_AO.of (h _ sx_O1), va_AO.of (h _ sx_O0), hD, fun k q hq => ?_⟩
  · unfold Launch.stackTraces
    rw [hflags]
    decide +kernel
  · have hc : s.vm.findClass q.1 = some (D.1 5) := by
      rw [sx_So q hq]
      exact (hD 5 _ rfl).2.1
    obtain ⟨k, cf, i, a, -, -, -, -, -, he⟩ := Cond.stringRef_spec hc (h _ (sx_S q hq))
    exact ⟨a, vk_R.of (h _ (sx_S q hq)) he⟩
  · exact vx_Zqof (h _ sx_L1) (h _ sx_I) (hg _ (by decide +kernel)) (fun a ha => Nat.not_le.mpr ha)
  · exact vx_Zqof (h _ sx_L2) (h _ sx_I) (hg _ (by decide +kernel)) (fun a ha => Nat.not_le.mpr ha)
  · intro q hq
    rcases List.mem_cons.mp hq with rfl | hq
    · exact va_Nc.of (hg _ (by decide +kernel))
    · rcases List.mem_cons.mp hq with rfl | hq
      · exact va_Nc.of (hg _ (by decide +kernel))
      · rcases List.mem_cons.mp hq with rfl | hq
        · exact va_Nc.of (hg _ (by decide +kernel))
        · exact absurd hq List.not_mem_nil
  · match k, hq with
    | 0, hq => cases hq; exact ⟨hA5, hR5⟩
    | k + 1, hq => simp at hq
/-- the two fresh states agree -/
theorem AllR_0 : AllR F0z W0z p0 F0z W0z (fun _ => 0) 0 0 0 0 0 0 := by
  have z : ∀ k i j n, k ≠ 7 → k ≠ 30 → F0z k i j n = 0 := fun k i j n h1 h2 => if_neg (by omega)
  have z0 : ∀ k i j n, k ≠ 7 → k ≠ 30 → F0z k i j n = nI 0 := fun k i j n h1 h2 => (z k i j n h1 h2).trans (by decide)
  refine ⟨⟨fun c hc => ⟨z0 _ _ _ _ (by decide) (by decide), Nat.zero_le _, z0 _ _ _ _ (by decide) (by decide), (z _ _ _ _ (by decide) (by decide)).trans (z _ _ _ _ (by decide) (by decide)).symm, rfl, fun k hk => absurd hk (Nat.not_lt_zero _)⟩, fun t ht => ⟨(z _ _ _ _ (by decide) (by decide)).trans (z _ _ _ _ (by decide) (by decide)).symm, fun _ => (z _ _ _ _ (by decide) (by decide)).trans (z _ _ _ _ (by decide) (by decide)).symm⟩, z0 _ _ _ _ (by decide) (by decide), by decide, Nat.le_refl _, fun i hi => (z _ _ _ _ (by decide) (by decide)).trans (z _ _ _ _ (by decide) (by decide)).symm, by decide, by decide, 0, by decide, by decide⟩, fun hs => absurd hs (by decide), ⟨z0 _ _ _ _ (by decide) (by decide), by decide, by decide⟩, ⟨z0 _ _ _ _ (by decide) (by decide), by decide, by decide⟩, fun i hi => absurd hi (Nat.not_lt_zero _), ⟨fun i hi => hi, fun i j _ _ e => e⟩, ⟨z0 _ _ _ _ (by decide) (by decide), by decide, by decide⟩, ⟨z0 _ _ _ _ (by decide) (by decide), by decide, by decide⟩, fun i hi => absurd hi (Nat.not_lt_zero _)⟩
/-- both objects made, and the two rows: the loop's entry -/
theorem sx_ini {U1 U2 : Pk} {ax ay : xAd} {a a2 o od : Nat} {h0 h1 h3 : mH} {e6 : mC} {w : Nat → Int64} {f : Nat → UInt64} (f1 : fR xV U1 ax a h0 h1) (n2 : h1 a2 = none) (f2 : fR yV U2 ay a2 (mset h1 a2 e6) h3) (n3 : h3 o = none) (n4 : mset h3 o (.inl (1, 1, .inr (.inl w))) od = none) : LwA ax ay o od ∧ LwI ax ay o od 0 (mset (mset h3 o (.inl (1, 1, .inr (.inl w)))) od (.inl (5, 1, .inr (.inr (.inr (.inl f)))))) := by
  have ap : ∀ k i j k' i' j', xV k i j → yV k' i' j' → ax k i j ≠ ay k' i' j' := by
    intro k i j k' i' j' hx hy e
    have v1 := f1.1 k i j hx
    rcases f2.2.2.1 k' i' j' hy with e2 | e2
    · rw [e, e2, n2] at v1
      cases v1
    · rw [← e] at e2
      by_cases ea : ax k i j = a2
      · rw [ea, n2] at v1
        cases v1
      · rw [mset_n ea, v1] at e2
        cases e2
  have ea : ∀ k i j, xV k i j → ax k i j ≠ a2 := fun k i j hx e => by
    have v1 := f1.1 k i j hx
    rw [e, n2] at v1
    cases v1
  have x3 : ∀ k i j, xV k i j → h3 (ax k i j) = some (xZ ax k i j) := fun k i j hx => by
    rw [f2.2.2.2.1 _ (fun k' i' j' hy => ap k i j k' i' j' hx hy), mset_n (ea k i j hx)]
    exact f1.1 k i j hx
  have y3 := f2.1
  have nx : ∀ k i j, xV k i j → ax k i j ≠ o := fun k i j hx e => by
    have v := x3 k i j hx
    rw [e, n3] at v
    cases v
  have ny : ∀ k i j, yV k i j → ay k i j ≠ o := fun k i j hx e => by
    have v := y3 k i j hx
    rw [e, n3] at v
    cases v
  have noo : o ≠ od := fun e => by
    rw [← e, mset_s] at n4
    cases n4
  have n4' : h3 od = none := by
    rw [mset_n (Ne.symm noo)] at n4
    exact n4
  have nx2 : ∀ k i j, xV k i j → ax k i j ≠ od := fun k i j hx e => by
    have v := x3 k i j hx
    rw [e, n4'] at v
    cases v
  have ny2 : ∀ k i j, yV k i j → ay k i j ≠ od := fun k i j hx e => by
    have v := y3 k i j hx
    rw [e, n4'] at v
    cases v
  refine ⟨⟨ap, fun k i j hx => ⟨nx k i j hx, nx2 k i j hx⟩, fun k i j hx => ⟨ny k i j hx, ny2 k i j hx⟩, noo⟩, F0z, W0z, p0, F0z, W0z, p0, fun _ => 0, 0, 0, 0, 0, 0, ⟨fun k i j hx => ?_, f1.2.1, fun _ _ => rfl⟩, ⟨fun k i j hx => ?_, f2.2.1, fun _ _ => rfl⟩, AllR_0, ⟨w, ?_⟩, ⟨f, mset_s⟩⟩
  · rw [mset_n (nx2 k i j hx), mset_n (nx k i j hx)]
    exact x3 k i j hx
  · rw [mset_n (ny2 k i j hx), mset_n (ny k i j hx)]
    exact y3 k i j hx
  · rw [mset_n noo, mset_s]
set_option maxRecDepth 100000 in
set_option maxHeartbeats 4000000 in
/-- from the law's entry to its loop, and on -/
theorem sx_walk {K : mK} (hK : mCx K mL_law) (hNo : mNo (kD K) (kC K) (ks K)) {b Ls : Nat} {xs : Nat → Int32} (hX : va_X b Ls xs (ks K) (ks K).heap) (hbl : b < (ks K).heap.size) (hbA : ¬ kA K b) (hLs : Ls ≤ 1536)
    (hend : ∀ (cells slots : Nat) (L : List (Option Value)) (h : mH), cells ≤ 607087 → slots ≤ 7274842 → mJ K cells slots 1406 L [] h) : mJ K 0 0 0 [some (.ref b), none, none, none, none, none, none, none, none] [] (fun _ => none) := by
  refine mJ_new hK dL_law_0 nwL_8 (by decide) (by decide) (fun a ha => ?_)
  refine mJ_dup hK dL_law_3 rfl ?_
  refine mJ_callI hNo hK dL_law_4 icL_74 (by unfold mFit; decide) ⟨by decide, by decide⟩ (Nat.le_of_ble_eq_true rfl) (Q' := fun _ h' => ∃ ad, fR xV (fun _ _ _ => True) ad a (mset (fun _ => none) a (.inr (5, fz5))) h' ∧ ad 0 0 0 = a) (k_X5_init mset_s) (fun h1 hq1 => ?_)
  obtain ⟨ax, f1, r1⟩ := hq1
  refine mJ_astore_n hK dL_law_7 (by decide) rfl ?_
  refine mJ_new hK dL_law_8 nwL_75 (by decide) (by decide) (fun a2 n2 => ?_)
  refine mJ_dup hK dL_law_11 rfl ?_
  refine mJ_callI hNo hK dL_law_12 icL_77 (by unfold mFit; decide) ⟨by decide, by decide⟩ (Nat.le_of_ble_eq_true rfl) (Q' := fun _ h' => ∃ ad, fR yV (fun _ _ _ => True) ad a2 (mset h1 a2 (.inr (6, fz6))) h' ∧ ad 30 0 0 = a2) (k_X6_init mset_s) (fun h3 hq3 => ?_)
  obtain ⟨ay, f2, r2⟩ := hq3
  refine mJ_astore_n hK dL_law_15 (by decide) rfl ?_
  refine mJ_iconst (v := nI 1) hK dL_law_16 (by decide) ?_
  refine mJ_newa (atype := .long) (a0 := (1, .inr (.inl (fun _ => 0)))) 1 1 hNo (Or.inr (Or.inl rfl)) rfl (fun _ => rfl) ac_long hK dL_law_17 rfl (by omega) (by decide) (by decide) (fun o n3 => ?_)
  refine mJ_astore_n hK dL_law_19 (by decide) rfl ?_
  refine mJ_iconst (v := nI 1) hK dL_law_20 (by decide) ?_
  refine mJ_newa (atype := .double) (a0 := (1, .inr (.inr (.inr (.inl (fun _ => 0)))))) 5 1 hNo (Or.inr (Or.inr (Or.inr rfl))) rfl (fun _ => rfl) ac_double hK dL_law_21 rfl (by omega) (by decide) (by decide) (fun od n4 => ?_)
  refine mJ_astore hK dL_law_23 (by decide) rfl ?_
  refine mJ_iconst (v := nI 0) hK dL_law_25 (by decide) ?_
  refine mJ_istore hK dL_law_26 (by decide) rfl ?_
  obtain ⟨A, I⟩ := sx_ini f1 n2 f2 n3 n4
  have g := lp_law hK hNo hX hbl hbA hLs (C0 := 174) (S0 := 2129) A (by omega) (by omega) hend 601 0 _ (by omega) (by omega) I
  rw [r1, r2] at g
  exact g
set_option maxRecDepth 100000 in
set_option maxHeartbeats 4000000 in
/-- THE LAW, from its entry -/
theorem whole_start {p : Program} {e : Env} {s : State} {m : MethodId} {below : List Frame} {meth : Method} {c : Code} (l : Launch) (hflags : l.flags = flags0) {b L : Nat} {xs : Nat → Int32} (hL : L ≤ 1536) (C0 : lw_At p s m meth c b L xs) : W p l e room_1 s m #[Value.ref b] below meth c s.heap [] 0 0 (lw_Z below #[Value.ref b] s) (entryFrame m ([Value.ref b] : List Value).toArray 9) := by
  obtain ⟨hx, hb, hr, hml, hown, hts, hX, hbl, hlocks, hgv⟩ := id C0
  have ht : ∀ w ∈ tables_1, w.before #[Value.ref b] s = true := fun w hw => hts w (List.mem_append_right _ hw)
  obtain ⟨D, aC, hE, hNo⟩ := sx_env hflags ht hgv
  have hbA : ¬ (fun q : Nat => s.heap.size ≤ q) b := Nat.not_le.mpr hbl
  obtain ⟨K, eK⟩ : ∃ K : mK, K = (p, l, e, room_1, s, m, #[Value.ref b], below, meth, c, D, aC, (fun q : Nat => s.heap.size ≤ q), lw_Z below #[Value.ref b] s) := ⟨_, rfl⟩
  have hK : mCx K mL_law := by
    subst eK
    exact ⟨hx, hb, hml, hr, hown, fun w hw => hts w (List.mem_filter.mp hw).1, hlocks, rfl, hE, fun q h => h⟩
  have hj : mJ K 0 0 0 [some (.ref b), none, none, none, none, none, none, none, none] [] (fun _ => none) := by
    refine sx_walk hK (xs := xs) (Ls := L) (by subst eK; exact hNo) (by subst eK; exact hX) (by subst eK; exact hbl) (by subst eK; exact hbA) hL ?_
    intro cells slots L h hc hs
    refine mJ_iconst (v := 1) hK dL_law_1406 (by decide) ?_
    subst eK
    intro H locs ls hH hS hL
    refine va_forget (fun q hq => hS.2.2 q hq) ?_
    refine W.widen (k := 607087) (n := 7274842) hc hs ?_
    exact W.base (lw_ret (Drawn.sameBut.refl s.drawn lw_cs) hx hb hr hlocks dL_law_1407)
  subst eK
  rw [lg_entry_eq]
  refine hj s.heap [] _ ⟨[], fun k q h => by simp at h, ⟨fun i j p q h => by simp at h, fun k q h => by simp at h⟩, fun a e h => by cases h⟩ va_S.rf ?_
  show mLR _ c.maxLocals _
  rw [hml]
  exact mLR.of (lv_entry [.ref b] (n := 9) (Nat.le_of_ble_eq_true rfl)) (fun i v hi => by have := mEnt_in [.ref b] 9 0 i v hi; rwa [Nat.zero_add] at this)
