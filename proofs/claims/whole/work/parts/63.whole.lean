/-! ===== from the law's walk to the claim ===== -/
/-! THE CLAIM OUT OF ONE WALK OF THE LAW'S BODY. Your part is whole_start (and what it stands on); all else here is the same for every law, but numbers. -/
def R_law : String := "TrainingBookLaw"
def lw_P (b : Addr) (xs : List Int32) (args : Array Value) (s : State) : Prop := args = #[.ref b] ∧ s.IntsAt b xs ∧ xs.length ≤ 3072 ∧ (Jvm.Cond.and given_1 narrow_1).before args s = true
def lw_Q (_ : Array Value) (s : State) (o : Outcome) (t : State) : Prop := o = .returned (some (.int 1)) ∧ Framed s o t [] 601024 7293034
def lw_Z (below : List Frame) (a : Array Value) (s : State) : State → Prop := fun t => ∃ o, t.status = .running ∧ Ended t below o ∧ lw_Q a s o t
/-- the law's own end, with 1 on the stack, nothing written that was there before, its room as the claim has it -/
theorem lw_ret {p : Program} {l : Launch} {e : Env} {s : State} {m : MethodId} {below : List Frame} {meth : Method} {c : Code} {b : Nat} (hx : p.tables.exec = Jvm.exec) (hb : c.code = code) (hr : meth.sig.returnType = ret) (hlocks : meth.locks = false) {pc : Nat} {H : Heap} {ls : Array Slot} (hdg : decode code pc = .ok (.ireturn, 1)) : W p l e room_1 s m #[Value.ref b] below meth c H [] 601024 7293034 (lw_Z below #[Value.ref b] s) (F0 m pc ls [.int 1]) := by
  intro T hT X
  obtain ⟨fs, hret, hrun, hended, hW, hframe⟩ := X.leave (v := some (.int 1)) (hlocks := hlocks) (fun h => by rw [hr] at h; cases h)
  have hmeth' : T.vm.method? m = some meth := X.method'
  refine ⟨T.setFrames fs, ?_, .returned (some (.int 1)), hrun, hended, rfl, ⟨_, rfl⟩, hW, hframe⟩
  jvm_step X.here [X.here.top, hx, hb, hdg, hmeth', hr, ret, narrow_b1]
  (try refine ⟨rfl, ?_⟩); (try refine ⟨rfl, ?_⟩)
  first | (intro acts; rw [hret _ acts rfl rfl rfl]) | rw [hret _ _ rfl rfl rfl]
  exact Steps.refl _
/-- what holds at the law's entry: the machine, the code, the tables' words (any of lw_tbl by 'hts w (by decide +kernel)'), the script of L ints xs at the cell b, what the Statement gives of the start (any of its parts by flat_of_before) -/
def lw_At (p : Program) (s : State) (m : MethodId) (meth : Method) (c : Code) (b L : Nat) (xs : Nat → Int32) : Prop :=
  p.tables.exec = Jvm.exec ∧ c.code = code ∧ meth.sig.returnType = ret ∧ c.maxLocals = 7 ∧ s.vm.findClass R_law = some m.cls ∧ (∀ w ∈ lw_tbl, w.before #[Value.ref b] s = true) ∧ va_X b L xs s s.heap ∧ b < s.heap.size ∧ meth.locks = false ∧ (Jvm.Cond.and given_1 narrow_1).before #[Value.ref b] s = true ∧ meth.name = "law"
/-- with more room it comes to its end as well -/
theorem W_room {p : Program} {l : Launch} {e : Env} {R R' : Room} {s : State} {m : MethodId} {args : Array Value} {below : List Frame} {meth : Method} {c : Code} {H : Heap} {locs : List Loc} {cells slots : Nat} {Qs : State → Prop} {g : JFrame} (hf : R'.frames ≤ R.frames) (hl : R'.locals ≤ R.locals) (hc : R'.cells ≤ R.cells) (hs : R'.slots ≤ R.slots) (k : W p l e R' s m args below meth c H locs cells slots Qs g) : W p l e R s m args below meth c H locs cells slots Qs g := fun T hT X => by
  refine k T hT ⟨X.admits, X.cas, X.clock, X.frames, ?_, X.hears, X.method, X.code, X.here, X.tail, X.warmed, X.limits, X.bytes, X.same⟩
  have h := X.room
  simp only [State.hasRoom, Bool.and_eq_true, decide_eq_true_eq] at h ⊢
  obtain ⟨⟨⟨⟨h1, h2, h3, h4, h5, h6⟩, h7⟩, h8⟩, h9⟩ := h
  exact ⟨⟨⟨⟨by omega, by omega, by omega, by omega, by omega, h6⟩, by omega⟩, by omega⟩, h9⟩
theorem fl_ex : ∀ i, i < 12 → Cond.exactly (.string RX1 (80 + 2 * i)) "java/lang/String" ∈ flatC (Jvm.Cond.and given_1 narrow_1) := by decide +kernel
theorem fl_co : ∀ i, i < 12 → Cond.eq (.field (.string RX1 (80 + 2 * i)) "java/lang/String" "coder" "B") (.int 0) ∈ flatC (Jvm.Cond.and given_1 narrow_1) := by decide +kernel
theorem fl_ar : ∀ i, i < 12 → Cond.arrayOf (.field (.string RX1 (80 + 2 * i)) "java/lang/String" "value" "[B") .byte ∈ flatC (Jvm.Cond.and given_1 narrow_1) := by decide +kernel
theorem fl_le : ∀ i, i < 12 → Cond.eq (.length (.field (.string RX1 (80 + 2 * i)) "java/lang/String" "value" "[B")) (.int (Int32.ofNat (mSl.getD i 0))) ∈ flatC (Jvm.Cond.and given_1 narrow_1) := by decide +kernel
theorem fl_el : ∀ i, i < 12 → ∀ j, j < mSl.getD i 0 → Cond.eq (.elem (.field (.string RX1 (80 + 2 * i)) "java/lang/String" "value" "[B") (.int (Int32.ofNat j))) (.int ((mSb.getD i []).getD j 0)) ∈ flatC (Jvm.Cond.and given_1 narrow_1) := by decide +kernel
theorem fl_no : ∀ i, i < 12 → ∀ j, j < 12 → i ≠ j → Cond.not (.eq (.string RX1 (80 + 2 * i)) (.string RX1 (80 + 2 * j))) ∈ flatC (Jvm.Cond.and given_1 narrow_1) ∨ Cond.not (.eq (.string RX1 (80 + 2 * j)) (.string RX1 (80 + 2 * i))) ∈ flatC (Jvm.Cond.and given_1 narrow_1) := by decide +kernel
theorem fl_sr : ∀ i, i < 12 → Cond.stringRef RX1 (80 + 2 * i) (mSt.getD i "") ∈ tables_1 := by decide +kernel
theorem fl_mi : ∀ j, j < 8 → Cond.eq (.elem (.static RX4 "LEAST_SETTINGS" "[I") (.int (Int32.ofNat j))) (.int (mLeast.getD j 0)) ∈ flatC (Jvm.Cond.and given_1 narrow_1) ∧ Cond.eq (.elem (.static RX4 "MOST_SETTINGS" "[I") (.int (Int32.ofNat j))) (.int (mMost.getD j 0)) ∈ flatC (Jvm.Cond.and given_1 narrow_1) := by decide +kernel
theorem vk_cg {N : Nat} {len : List Nat} {byt : List (List Int32)} {k1 v1 k2 v2 : Nat → Nat} {A : Nat → Prop} {U : State} {H : Heap} (h : vk_S N len byt k1 v1 A U H) (ek : ∀ i, i < N → k2 i = k1 i) (ev : ∀ i, i < N → v2 i = v1 i) : vk_S N len byt k2 v2 A U H :=
  ⟨fun i hi => by rw [ek i hi, ev i hi]; exact h.1 i hi, fun i j hi hj e => h.2 i j hi hj (by rw [← ek i hi, ← ek j hj]; exact e)⟩
/-- where what lies outside lies -/
def gx (tL tM b : Nat) (aK aV : Nat → Nat) (aN tF : Nat) : Nat → Nat
  | 0 => tL
  | 1 => tM
  | 2 => b
  | k + 3 => if k < 12 then aK k else if k < 24 then aV (k - 12) else if k = 24 then aN else tF

theorem whole_start {p : Program} {e : Env} {s : State} {m : MethodId} {below : List Frame} {meth : Method} {c : Code} (l : Launch) (hflags : l.flags = flags0) {b L : Nat} {xs : Nat → Int32} (hL : L ≤ 3072) (C0 : lw_At p s m meth c b L xs) : W p l e room_1 s m #[Value.ref b] below meth c s.heap [] 0 0 (lw_Z below #[Value.ref b] s) (entryFrame m ([Value.ref b] : List Value).toArray 7) := by
  obtain ⟨hx, hb, hr, hml, hown, hts, hX, hbl, hlocks, hgv, hnm⟩ := id C0
  have hA : ∀ a : Nat, a < s.heap.size → ¬ (fun q : Nat => s.heap.size ≤ q) a := fun a h => Nat.not_le.mpr h
  have hw : ∀ w ∈ tables_1, w.before #[Value.ref b] s = true := fun w h => hts w (List.mem_append_right _ h)
  have hg : ∀ w ∈ mGood, w.before #[Value.ref b] s = true := fun w h => hts w (List.mem_filter.mp h).1
  have hs := flat_of_before _ hgv
  have hlf : l.stackTraces = false := by
    unfold Launch.stackTraces
    rw [hflags]
    decide +kernel
  obtain ⟨c0, i0, k0⟩ := u_known (C := RX0) (T := TX0) (N := 12) (n := 12) hg (mCl_ok 0 (RX0, TX0, 12) rfl).1 (hw _ (List.mem_of_getElem? (i := 150) (by decide +kernel)))
  obtain ⟨c1, i1, k1⟩ := u_known (C := RX1) (T := TX1) (N := 6) (n := 6) hg (mCl_ok 1 (RX1, TX1, 6) rfl).1 (hw _ (List.mem_of_getElem? (i := 86) (by decide +kernel)))
  obtain ⟨c2, i2, k2⟩ := u_known (C := RX2) (T := TX2) (N := 9) (n := 9) hg (mCl_ok 2 (RX2, TX2, 9) rfl).1 (hw _ (List.mem_of_getElem? (i := 80) (by decide +kernel)))
  obtain ⟨c3, i3, k3⟩ := u_known (C := RX3) (T := TX3) (N := 9) (n := 9) hg (mCl_ok 3 (RX3, TX3, 9) rfl).1 (hw _ (List.mem_of_getElem? (i := 26) (by decide +kernel)))
  obtain ⟨c4, i4, k4⟩ := u_known (C := RX4) (T := TX4) (N := 8) (n := 8) hg (mCl_ok 4 (RX4, TX4, 8) rfl).1 (hw _ (List.mem_of_getElem? (i := 18) (by decide +kernel)))
  obtain ⟨c5, i5, k5⟩ := u_known (C := RX5) (T := TX5) (N := 27) (n := 27) hg (mCl_ok 5 (RX5, TX5, 27) rfl).1 (hw _ (List.mem_of_getElem? (i := 712) (by decide +kernel)))
  obtain ⟨dC, dI, hKc⟩ : ∃ (dC : Nat → ClassId) (dI : Nat → Nat → Nat), ∀ (k : Nat) (q : vw_C), mCl[k]? = some q → u_Kn s q.1 q.2.1 q.2.2 (dC k) (dI k) := by
    refine ⟨fun k => if k = 0 then c0 else if k = 1 then c1 else if k = 2 then c2 else if k = 3 then c3 else if k = 4 then c4 else c5, fun k => if k = 0 then i0 else if k = 1 then i1 else if k = 2 then i2 else if k = 3 then i3 else if k = 4 then i4 else i5, ?_⟩
    intro k q hq
    match k, hq with
    | 0, hq => cases hq; exact k0
    | 1, hq => cases hq; exact k1
    | 2, hq => cases hq; exact k2
    | 3, hq => cases hq; exact k3
    | 4, hq => cases hq; exact k4
    | 5, hq => cases hq; exact k5
    | k + 6, hq => simp at hq
  obtain ⟨t0, u0, v0, x0, y0, z0⟩ := Cond.arrayClass_spec (hg _ mW_aint)
  obtain ⟨t1, u1, v1, x1, y1, z1⟩ := Cond.arrayClass_spec (hg _ mW_abyte)
  obtain ⟨t2, u2, v2, x2, y2, z2⟩ := Cond.arrayClass_spec (hg _ mW_aboolean)
  obtain ⟨t3, u3, v3, x3, y3, z3⟩ := Cond.arrayClass_spec (hg _ mW_along)
  have hao : (Cond.arrayOver (.object RX3)).before #[Value.ref b] s = true := (hw _ (List.mem_of_getElem? (i := 78) (by decide +kernel)))
  obtain ⟨v4, t4, u4, w4, -, y4, z4, x4⟩ := Cond.arrayOver_spec hao
  obtain ⟨tL, eL, hTL⟩ := va_Tof (ty := .int) (tm := .static RX4 "LEAST_SETTINGS" "[I") (N := 8) (f := fun j => .int (mLeast.getD j 0)) (by decide) (hs _ (by decide +kernel)) (va_eqt (hs _ (by decide +kernel))) (fun j hj => va_eqt (hs _ (fl_mi j hj).1)) hA
  obtain ⟨tM, eM, hTM⟩ := va_Tof (ty := .int) (tm := .static RX4 "MOST_SETTINGS" "[I") (N := 8) (f := fun j => .int (mMost.getD j 0)) (by decide) (hs _ (by decide +kernel)) (va_eqt (hs _ (by decide +kernel))) (fun j hj => va_eqt (hs _ (fl_mi j hj).2)) hA
  have zL := va_Zof (C := RX4) (n := "LEAST_SETTINGS") (d := "[I") (hw _ (List.mem_of_getElem? (i := 401) (by decide +kernel))) (hw _ (List.mem_of_getElem? (i := 1) (by decide +kernel))) eL hA
  have zM := va_Zof (C := RX4) (n := "MOST_SETTINGS") (d := "[I") (hw _ (List.mem_of_getElem? (i := 403) (by decide +kernel))) (hw _ (List.mem_of_getElem? (i := 1) (by decide +kernel))) eM hA
  obtain ⟨aK, aV, hSt, hEv⟩ := vk_Sof (N := 12) (tm := fun i => .string RX1 (80 + 2 * i)) (len := mSl) (byt := mSb) (fun i hi => by have := sl_lt i hi; omega) (fun i hi => hs _ (fl_ex i hi)) (fun i hi => hs _ (fl_co i hi)) (fun i hi => hs _ (fl_ar i hi)) (fun i hi => hs _ (fl_le i hi)) (fun i hi j hj => hs _ (fl_el i hi j hj)) (fun i j hi hj hij => (fl_no i hi j hj hij).imp (hs _) (hs _)) hA
  obtain ⟨aN, cN, cA, kA, qN, -⟩ := Cond.exactly_spec (args := #[Value.ref b]) (first := s) (o := none) (s := s) (idx := []) (t := .string RX4 134) (cls := "java/lang/String") (hs _ (by decide +kernel))
  have zC := va_Zof (C := "java/lang/String") (n := "COMPACT_STRINGS") (d := "Z") (hw _ (List.mem_of_getElem? (i := 285) (by decide +kernel))) (hw _ (List.mem_of_getElem? (i := 7) (by decide +kernel))) (va_eqt (z := 1) (hs _ (by decide +kernel))) hA
  have zU := vx_Zqof (C := Bundle.tN) (n := "UNASSIGNED_STACK") (d := Bundle.steD) (hw _ (List.mem_of_getElem? (i := 673) (by decide +kernel))) (hw _ (List.mem_of_getElem? (i := 13) (by decide +kernel))) (hs _ (by decide +kernel)) hA
  have zS := vx_Zqof (C := Bundle.tN) (n := "SUPPRESSED_SENTINEL") (d := Bundle.listD) (hw _ (List.mem_of_getElem? (i := 675) (by decide +kernel))) (hw _ (List.mem_of_getElem? (i := 13) (by decide +kernel))) (hs _ (by decide +kernel)) hA
  have zF := va_Zqof (C := "jdk/internal/util/Preconditions") (n := "SIOOBE_FORMATTER") (d := "Ljava/util/function/BiFunction;") (hw _ (List.mem_of_getElem? (i := 301) (by decide +kernel))) (hw _ (List.mem_of_getElem? (i := 9) (by decide +kernel))) (hs _ (by decide +kernel)) hA
  obtain ⟨tF, zF⟩ : ∃ tF : Nat, va_Z "jdk/internal/util/Preconditions" "SIOOBE_FORMATTER" "Ljava/util/function/BiFunction;" .null (fun q : Nat => s.heap.size ≤ q) s s.heap ∨ va_Z "jdk/internal/util/Preconditions" "SIOOBE_FORMATTER" "Ljava/util/function/BiFunction;" (.ref tF) (fun q : Nat => s.heap.size ≤ q) s s.heap := by
    rcases zF with h | ⟨t, h⟩
    · exact ⟨0, Or.inl h⟩
    · exact ⟨t, Or.inr h⟩
  obtain ⟨G, hG⟩ : ∃ G : mG, G = (l, (dC, dI), (fun t => if t = 0 then t0 else if t = 1 then t1 else if t = 2 then t2 else if t = 3 then t3 else t4), s.heap.size, gx tL tM b aK aV aN tF, L, xs) := ⟨_, rfl⟩
  have hwd : mWd G s := by
    subst hG
    refine ⟨⟨hKc, fun k q hq => ?_⟩, fun w h1 h2 => ?_, Nat.le_refl _, ⟨va_AO.of hao, ?_⟩, ⟨zL, hTL⟩, ⟨zM, hTM⟩, ⟨hX, hbl, by show L < 2 ^ 31; omega⟩⟩
    · match k, hq with
      | 0, hq => cases hq; exact ⟨fun n z => ⟨fun k h => (by cases h), u0, y0, v0, z0⟩, x0⟩
      | 1, hq => cases hq; exact ⟨fun n z => ⟨fun k h => (by cases h), u1, y1, v1, z1⟩, x1⟩
      | 2, hq => cases hq; exact ⟨fun n z => ⟨fun k h => (by cases h), u2, y2, v2, z2⟩, x2⟩
      | 3, hq => cases hq; exact ⟨fun n z => ⟨fun k h => (by cases h), u3, y3, v3, z3⟩, x3⟩
      | 4, hq => cases hq; exact ⟨fun n z => ⟨fun k h => (by cases h), u4, y4, v4, z4⟩, u4, v4, y4, z4, w4, x4⟩
      | k + 5, hq => simp [mTys] at hq
    · have h3 := hw w h1
      have h4 : w.onTables = true := by
        cases w <;> first | (simp [mIsNest] at h2; done) | rfl
      exact va_Nw.of h4 h3
    · refine ⟨fun i hi => ?_, ?_, ?_, zC, zU, zS, zF⟩
      · have e9 : gx tL tM b aK aV aN tF (i + 3) = aK i := if_pos hi
        show vk_R RX1 (80 + 2 * i) (mSt.getD i "") (gx tL tM b aK aV aN tF (i + 3)) s
        rw [e9]
        exact vk_R.of (A := #[Value.ref b]) (hw _ (fl_sr i hi)) (hEv i hi)
      · exact vk_R.of (A := #[Value.ref b]) (hw _ (List.mem_of_getElem? (i := 685) (by decide +kernel))) qN
      · refine vk_cg hSt (fun i hi => if_pos hi) (fun i hi => ?_)
        show gx tL tM b aK aV aN tF (i + 12 + 3) = aV i
        show (if i + 12 < 12 then aK (i + 12) else if i + 12 < 24 then aV (i + 12 - 12) else if i + 12 = 24 then aN else tF) = aV i
        rw [if_neg (by omega), if_pos (by omega), Nat.add_sub_cancel]
  have F : mFix G mL_law p s m #[Value.ref b] meth c := ⟨hx, hb, hr, hlocks, hml, hown, hnm, hg, hwd⟩
  have hl := lv_entry ([.ref b]) (n := 7) (Nat.le_of_ble_eq_true rfl)
  rw [lg_entry_eq]
  generalize (lg_sl ([.ref b]) ++ List.replicate (7 - (lg_sl ([.ref b])).length) Slot.unset).toArray = ls at hl ⊢
  have hl7 : lv_has ls 7 (mPr G [some (.ref 2), none, none, none, none, none, none]) := by
    subst hG
    exact hl
  have hGl : gL G = l := by rw [hG]
  have hGb : gB G = s.heap.size := by rw [hG]
  have hGn : gN G = L := by rw [hG]
  have hk := lw_begin (G := G) (Q := fun r _ _ => r = some (.int (nI 1))) (by rw [hGl]; exact hlf) (by rw [hGn]; exact hL) (fun _ => rfl) p e s m #[Value.ref b] below meth c s.heap [] ls F (fun k q h => by simp [mWs] at h) va_S.rf (fun _ => ⟨by rw [hGb]; rfl, rfl⟩) hl7 rfl (fun v hv => by simp at hv; rw [hv]; rfl)
  rw [hGl] at hk
  refine W_room (R' := mRoom 1399 601024 7293034) (Nat.le_of_ble_eq_true rfl) (Nat.le_of_ble_eq_true rfl) (Nat.le_of_ble_eq_true rfl) (Nat.le_of_ble_eq_true rfl) ?_
  intro T hT X
  obtain ⟨t, a1, o, b1, b2, ⟨⟨r, μ, ex, hq, ho, -⟩, -⟩, Ls, ⟨f1, f2, f3⟩, f4⟩ := hk T hT X
  refine ⟨t, a1, o, b1, b2, ?_, f1, f2, ?_⟩
  · rw [ho, hq]
    rfl
  · exact f3.weaken (fun y hy hlt => absurd hlt (Nat.not_lt.mpr (by have h9 : gB G ≤ y.base := f4 y hy; rw [hGb] at h9; exact h9))) (Nat.le_refl _) (Nat.le_refl _)
set_option maxHeartbeats 4000000 in
theorem lw_walk (l : Launch) (hflags : l.flags = flags0) (b : Addr) (xs : List Int32) : MetFree l x (headSpec (Jvm.Cond.code x code maxLocals ret :: tables_1) room_1) (lw_P b xs) (fun _ _ _ _ _ => True) lw_Q := by
  refine MetFree.of_bodyS (code := code) (maxLocals := maxLocals) (ret := ret) (by decide) ?_ ?_
  · intro args s m h hn
    obtain ⟨meth, c, h1, h2, h3, h4, h5, h6, -, -⟩ := Cond.code_spec hn (atoms_spec (ws := Jvm.Cond.code x code maxLocals ret :: tables_1) h _ List.mem_cons_self)
    exact ⟨meth, c, h1, h2, h3, h4, h5, h6⟩
  · intro p e s m args below meth c s₁ B hml0 hP _
    obtain ⟨rfl, hx, hbd, hgv⟩ := hP
    obtain ⟨scr, harrAt, hlist, hof, hsmall⟩ := hx
    obtain ⟨hcb, hkn, -, -⟩ := State.arrayAt?_spec harrAt
    have hown : s.vm.findClass R_law = some m.cls := findClass_of_methodNamed B.named
    have hts0 : ∀ c ∈ (Jvm.Cond.code x code maxLocals ret :: tables_1), c.before #[Value.ref b] s = true := atoms_spec (ws := Jvm.Cond.code x code maxLocals ret :: tables_1) B.pre
    have hts : ∀ w ∈ lw_tbl, w.before #[Value.ref b] s = true := k2_hts_sels lw_privs (fun w hw => hts0 w (List.mem_cons_of_mem _ hw)) lw_privs_ok
    have hml : c.maxLocals = 7 := B.maxLocals_eq (hts0 _ List.mem_cons_self)
    have X₀ : Stand p l e room_1 s m #[Value.ref b] below meth c s₁ [] 0 0 := Stand.of_body B
    have hh0 : s₁.heap = s.heap := by rw [B.state]; rfl
    have hsz : scr.slots.size = xs.length := by rw [← Array.length_toList, hlist, List.length_map]
    have hval : ∀ j : Nat, j < xs.length → scr.slots[j]? = some (.int (xs.getD j 0)) := fun j hj => by
      rw [← Array.getElem?_toList, hlist]
      simp [hj]
    have hbl : b < s.heap.size := (Array.getElem?_eq_some_iff.mp hcb).1
    have hX : va_X b xs.length (fun j => xs.getD j 0) s s.heap := ⟨scr, hcb, hof, hkn, hsz, hval⟩
    have K : W p l e room_1 s m #[Value.ref b] below meth c s₁.heap [] 0 0 (lw_Z below #[Value.ref b] s) (entryFrame m ([Value.ref b] : List Value).toArray 7) := by
      rw [hh0]
      exact whole_start l hflags hbd ⟨B.exec, B.bytes, B.returns, hml, hown, hts, hX, hbl, B.notSynchronized, hgv, (name_of_methodNamed B.named B.method).1⟩
    obtain ⟨t, a1, o, b1, b2, b3⟩ := K s₁ rfl X₀
    exact ⟨t, o, a1, b1, b2, b3⟩
theorem lw_pre_spec {args : Array Value} {s : State} (h : (Jvm.Cond.and given_1 narrow_1).before args s = true) (hr : rest_1_c.before args s = true) : ∃ (b : Addr) (xs : List Int32), lw_P b xs args s := by
  have hs := flat_of_before _ h
  have hq := flat_of_before _ hr
  have hc : (Cond.count 1).before args s = true := hs _ (by decide +kernel)
  have harr : (Cond.arrayOf (.arg 0) .int).before args s = true := hs _ (by decide +kernel)
  have hle : (Cond.le (.length (.arg 0)) (.int 3072)).before args s = true := hs _ (by decide +kernel)
  have hlen : (Cond.isInt (.length (.arg 0))).before args s = true := hq _ (by decide +kernel)
  have hall : (Cond.all (.arg 0) (.isInt (.elem (.arg 0) (.index 0)))).before args s = true := hq _ (by decide +kernel)
  obtain ⟨b, xs, hb, hx⟩ := State.ints_of_pre rfl harr hlen hall
  have hsm : xs.length < 2 ^ 31 := hx.choose_spec.2.2.2
  have hev : (Term.length (.arg 0)).eval args s none [] s = some (.int xs.length.toInt32) := hx.length_eval hb
  have hv := Cond.le_ints hev (show (Term.int 3072).eval args s none [] s = some (.int 3072) from rfl)
  have hd : xs.length.toInt32 ≤ 3072 := by
    simpa [Cond.before, Cond.holds, hv] using hle
  have hN : xs.length ≤ 3072 := (Int32.ofNat_le_ofNat hsm (by decide)).mp (show Int32.ofNat xs.length ≤ Int32.ofNat 3072 from hd)
  exact ⟨b, xs, Cond.one_arg hc (show args[0]? = some (.ref b) from hb), hx, hN, h⟩
theorem lw_comes (l : Launch) (hflags : l.flags = flags0) : Comes l x (Jvm.Cond.code x code maxLocals ret :: tables_1) room_1 (fun tb e args s => Calls_1 tb e args s ∧ rest_1 tb e args s ∧ Pre_1 tb e args s)
    (fun _ _ args s o t => lw_Q args s o t) := by
  intro p e ha hc hk s m args below hf hfit hheap happ hpre
  obtain ⟨b, xs, hP⟩ := lw_pre_spec hpre.2.2 hpre.2.1
  obtain ⟨k, o, h1, h2, h3, hQ⟩ := lw_walk l hflags b xs p e ha hc hk s m args below hf ((Spec.applies_iff_loose hf).mp happ).1 hP trivial
  exact ⟨k, o, h1, h2, h3, hQ⟩
theorem lw_frame {s t : State} {o : Outcome} {args : Array Value} (h : Framed s o t [] 601024 7293034) :
    Framed s o t (fieldLocs frame_1_writes args s ++ arrayLocs frame_1_arrays args s ++ staticLocs frame_1_statics s) 601024 7293034 := h
theorem lw_limb (L : Cond) (hL : ∀ (args : Array Value) (s t : State), L.after args s (.returned (some (.int 1))) t = true) :
    ArmFor flags0 classFile x code maxLocals ret World_1 tables_1 room_1 Calls_1 rest_1 Pre_1
      (fun tb e a s o t => postC L tb e a s o t ∧ Framed s o t (fieldLocs frame_1_writes a s ++ arrayLocs frame_1_arrays a s ++ staticLocs frame_1_statics s) 601024 7293034) := by
  intro l hflags _ _ p e ha hc hk s m args below hf hfit hheap happ hpre
  obtain ⟨k, o, h1, h2, h3, rfl, hF⟩ := lw_comes l hflags p e ha hc hk s m args below hf hfit hheap happ hpre
  exact ⟨k, _, h1, h2, h3, hL args s _, lw_frame hF⟩
theorem i_vc : Claimed_1_1 ∧ Claimed_1_2 := ⟨lw_limb limb_1_1 (fun args s t => by simp [limb_1_1, Cond.after, Cond.holds, Cond.value]), lw_limb limb_1_2 (fun args s t => Cond.after_iff.mpr (by
  first | (rw [show limb_1_2 = Cond.eq .result (.int 1) from rfl, Cond.eq_ints (x := 1) (y := 1) rfl rfl]; simp; done) | (simp [limb_1_2, Cond.value, Term.eval]; done)))⟩
