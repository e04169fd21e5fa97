/-! ===== the small machine: what a place of a method's walk says, for every machine state that it stands for ===== -/
/-- launch; classes and slots; array classes by tag; base; places of the three rows from outside; the script -/
abbrev mG : Type := Launch × va_G × (Nat → ClassId) × Nat × (Nat → Nat) × Nat × (Nat → Int32)
abbrev gL (G : mG) : Launch := G.1
abbrev gD (G : mG) : va_G := G.2.1
abbrev gC (G : mG) : Nat → ClassId := G.2.2.1
abbrev gB (G : mG) : Nat := G.2.2.2.1
abbrev gX (G : mG) : Nat → Nat := G.2.2.2.2.1
abbrev gN (G : mG) : Nat := G.2.2.2.2.2.1
abbrev gS (G : mG) : Nat → Int32 := G.2.2.2.2.2.2
abbrev mA (G : mG) : Nat → Prop := fun q => gB G ≤ q
def mAd (G : mG) (a : Nat) : Nat := if a < 3 then gX G a else gB G + (a - 3)
def mTr (G : mG) : Value → Value
  | .ref a => .ref (mAd G a)
  | .retAddr i => .ref (gX G (i + 3))
  | v => v
def mTrC (G : mG) : ((Nat → Int32) ⊕ (Nat → Int64) ⊕ (Nat → UInt32) ⊕ (Nat → UInt64) ⊕ (Nat → Option Nat)) → ((Nat → Int32) ⊕ (Nat → Int64) ⊕ (Nat → UInt32) ⊕ (Nat → UInt64) ⊕ (Nat → Option Nat))
  | .inr (.inr (.inr (.inr f))) => .inr (.inr (.inr (.inr (fun j => (f j).map (mAd G)))))
  | c => c
def mTrE (G : mG) : va_E → va_E
  | .inl (t, n, c) => .inl (gC G t, n, mTrC G c)
  | .inr (ci, fs) => .inr (ci, fs.map (mTr G))
def mWs (G : mG) (μ : List va_E) : va_W := μ.mapIdx (fun k e => (gB G + k, mTrE G e))
def mPr (G : mG) (lo : List (Option Value)) : List (Nat × Value) := (lo.zipIdx).filterMap (fun q => q.1.map (fun v => (q.2, mTr G v)))
def mTys (G : mG) : List (ClassId × FieldType) := [(gC G 0, .int), (gC G 1, .byte), (gC G 2, .boolean), (gC G 3, .long), (gC G 4, .object RX3)]
def mGood : List Cond := lw_tbl.filter goodWord
def mIsNest : Cond → Bool
  | .fieldLinkNest .. => true
  | .methodLinkNest .. => true
  | .declares .. => true
  | .castable .. => true
  | _ => false
def mLeast : List Int32 := [2, 2, 1, 1, 100, 1, 0, 100]
def mMost : List Int32 := [99, 99, 9, 9, 400, 14, 2100, 300]
/-- the words' texts and their lengths; the Strings lie at gX 3 .. 14, their bytes at gX 15 .. 26, the throw's text at gX 27 -/
def mSt : List String := ["rest", "easy", "steady", "hard", "long", "race", "group", "load", "camp", "set", "plan", "again"]
def mSl : List Nat := [4, 4, 6, 4, 4, 4, 5, 4, 4, 3, 4, 5]
def mSb : List (List Int32) := [[114, 101, 115, 116], [101, 97, 115, 121], [115, 116, 101, 97, 100, 121], [104, 97, 114, 100], [108, 111, 110, 103], [114, 97, 99, 101], [103, 114, 111, 117, 112], [108, 111, 97, 100], [99, 97, 109, 112], [115, 101, 116], [112, 108, 97, 110], [97, 103, 97, 105, 110]]
/-- what is known of the Strings, of what a throw asks for, and of the static that a check of an index loads (gX 28) -/
def mStr (G : mG) (U : State) : Prop :=
  (∀ i, i < 12 → vk_R RX1 (80 + 2 * i) (mSt.getD i "") (gX G (i + 3)) U) ∧ vk_R RX4 134 "no such camp" (gX G 27) U ∧ vk_S 12 mSl mSb (fun i => gX G (i + 3)) (fun i => gX G (i + 15)) (mA G) U U.heap ∧
  va_Z "java/lang/String" "COMPACT_STRINGS" "Z" (.int 1) (mA G) U U.heap ∧ vx_Zq Bundle.tN "UNASSIGNED_STACK" Bundle.steD (mA G) U U.heap ∧ vx_Zq Bundle.tN "SUPPRESSED_SENTINEL" Bundle.listD (mA G) U U.heap ∧
  (va_Z "jdk/internal/util/Preconditions" "SIOOBE_FORMATTER" "Ljava/util/function/BiFunction;" .null (mA G) U U.heap ∨ va_Z "jdk/internal/util/Preconditions" "SIOOBE_FORMATTER" "Ljava/util/function/BiFunction;" (.ref (gX G 28)) (mA G) U U.heap)
/-- what is known of the world at a method's entry -/
def mWd (G : mG) (U : State) : Prop :=
  va_K (gD G) mCl (mTys G) U ∧ (∀ w ∈ tables_1, mIsNest w = true → va_Nw w U) ∧ gB G ≤ U.heap.size ∧ (va_AO RX3 U ∧ mStr G U) ∧
  (va_Z RX4 "LEAST_SETTINGS" "[I" (.ref (gX G 0)) (mA G) U U.heap ∧ va_T .int (gX G 0) 8 (fun j => .int (mLeast.getD j 0)) (mA G) U U.heap) ∧
  (va_Z RX4 "MOST_SETTINGS" "[I" (.ref (gX G 1)) (mA G) U U.heap ∧ va_T .int (gX G 1) 8 (fun j => .int (mMost.getD j 0)) (mA G) U U.heap) ∧
  (va_X (gX G 2) (gN G) (gS G) U U.heap ∧ gX G 2 < gB G ∧ gN G < 2 ^ 31)
def mRoom (d mc ms : Nat) : Room := { frames := d + 1, cells := mc, slots := ms, locals := 60 * (d + 1) }
abbrev mQ : Type := Option Value → List va_E → Bool → Prop
def mQc (G : mG) (Q : mQ) : Array Value → State → Outcome → State → Prop := fun _ st o t =>
  (∃ (r : Option Value) (μ : List va_E) (ex : Bool), Q r μ ex ∧ o = .returned (r.map (mTr G)) ∧ va_P (gD G) mCl (mWs G μ) t.heap ∧ (ex = true → t.heap.size = gB G + μ.length)) ∧ va_F (mA G) st t
def mFix (G : mG) (I : mI) (p : Program) (s : State) (m : MethodId) (args : Array Value) (meth : Method) (c : Code) : Prop :=
  p.tables.exec = Jvm.exec ∧ c.code = I.2.1 ∧ meth.sig.returnType = I.2.2.2.1 ∧ meth.locks = false ∧ c.maxLocals = I.2.2.1 ∧ s.vm.findClass I.1.cls = some m.cls ∧ meth.name = I.1.name ∧ (∀ w ∈ mGood, w.before args s = true) ∧ mWd G s
/-- at pc of the method I, with these locals and this stack, over this memory: the method comes to its end, with Q; d calls deep, mc cells of ms slots at the most -/
def mT (G : mG) (I : mI) (d mc ms pc : Nat) (lo : List (Option Value)) (st : List Value) (μ : List va_E) (ex : Bool) (nc ns : Nat) (Q : mQ) : Prop :=
  ∀ (p : Program) (e : Env) (s : State) (m : MethodId) (args : Array Value) (below : List Frame) (meth : Method) (c : Code) (H : Heap) (locs : List Loc) (ls : Array Slot),
    mFix G I p s m args meth c → va_P (gD G) mCl (mWs G μ) H → va_S (mA G) s.heap H locs → (ex = true → H.size = gB G + μ.length ∧ H.size = s.heap.size + nc) → lv_has ls I.2.2.1 (mPr G lo) → lo.length = I.2.2.1 → (∀ v, some v ∈ lo → v.category = 1) →
    W p (gL G) e (mRoom d mc ms) s m args below meth c H locs nc ns (MQ below (mQc G Q) args s mc ms (mA G)) (F0 m pc ls (st.map (mTr G)))
/-- where a method begins -/
def mLo (I : mI) (as : List Value) : List (Option Value) := as.map some ++ List.replicate (I.2.2.1 - as.length) none
def mC (G : mG) (I : mI) (d mc ms : Nat) (as : List Value) (μ : List va_E) (ex : Bool) (Q : mQ) : Prop := mT G I d mc ms 0 (mLo I as) [] μ ex 0 0 Q
-- the memory's rows
theorem mWs_get (G : mG) (μ : List va_E) (k : Nat) : (mWs G μ)[k]? = (μ[k]?).map (fun e => (gB G + k, mTrE G e)) := by
  simp [mWs, List.getElem?_mapIdx]
theorem mWs_at {G : mG} {μ : List va_E} {k : Nat} {e : va_E} (h : μ[k]? = some e) : (mWs G μ)[k]? = some (gB G + k, mTrE G e) := by
  rw [mWs_get, h]; rfl
theorem mWs_len (G : mG) (μ : List va_E) : (mWs G μ).length = μ.length := by simp [mWs]
theorem mWs_set (G : mG) (μ : List va_E) (k : Nat) (e : va_E) : mWs G (μ.set k e) = (mWs G μ).set k (gB G + k, mTrE G e) := by
  apply List.ext_getElem?
  intro j
  rw [mWs_get, List.getElem?_set, List.getElem?_set, mWs_get, mWs_len]
  by_cases h : k = j
  · subst h
    by_cases hl : k < μ.length
    · simp [hl]
    · simp [hl]
  · simp [h]
theorem mWs_push (G : mG) (μ : List va_E) (e : va_E) : mWs G (μ ++ [e]) = mWs G μ ++ [(gB G + μ.length, mTrE G e)] := by
  simp [mWs, List.mapIdx_append]
theorem mWs_D (G : mG) (μ : List va_E) : va_D (mA G) (mWs G μ) := by
  refine ⟨fun i j x y hi hj hxy => ?_, fun k q hk => ?_⟩
  · rw [mWs_get] at hi hj
    obtain ⟨a, -, rfl⟩ := Option.map_eq_some_iff.mp hi
    obtain ⟨b, -, rfl⟩ := Option.map_eq_some_iff.mp hj
    have : gB G + i = gB G + j := hxy
    omega
  · rw [mWs_get] at hk
    obtain ⟨a, -, rfl⟩ := Option.map_eq_some_iff.mp hk
    exact Nat.le_add_right _ _
theorem mAd_c (G : mG) (k : Nat) : mAd G (k + 3) = gB G + k := by
  unfold mAd
  rw [if_neg (by omega)]
  rfl
theorem mPr_mem {G : mG} {lo : List (Option Value)} {i : Nat} {v : Value} (h : lo[i]? = some (some v)) : (i, mTr G v) ∈ mPr G lo := by
  refine List.mem_filterMap.mpr ⟨(some v, i), ?_, rfl⟩
  exact List.mk_mem_zipIdx_iff_getElem?.mpr h
theorem mPr_inv {G : mG} {lo : List (Option Value)} {q : Nat × Value} (h : q ∈ mPr G lo) : ∃ v, lo[q.1]? = some (some v) ∧ q.2 = mTr G v := by
  obtain ⟨⟨o, i⟩, h1, h2⟩ := List.mem_filterMap.mp h
  have h3 := List.mk_mem_zipIdx_iff_getElem?.mp h1
  cases o with
  | none => cases h2
  | some v =>
    cases h2
    exact ⟨v, h3, rfl⟩
theorem mPr_at {G : mG} {lo : List (Option Value)} {ls : Array Slot} {nL i : Nat} {v : Value} (h : lv_has ls nL (mPr G lo)) (hi : lo[i]? = some (some v)) : ls[i]? = some (.val (mTr G v)) := h.2.2 (i, mTr G v) (mPr_mem hi)
theorem mTr_cat (G : mG) (v : Value) : (mTr G v).category = v.category := by cases v <;> rfl
/-- storing into a local -/
theorem mPr_set {G : mG} {lo : List (Option Value)} {ls : Array Slot} {nL i : Nat} {v : Value} (hc : ∀ v, some v ∈ lo → v.category = 1) (hi : i < lo.length) (h : lv_has ls nL ((i, mTr G v) :: (mPr G lo).filter (fun q => !(q.1 == i) && !(q.1 + 1 == i && q.2.category == 2)))) : lv_has ls nL (mPr G (lo.set i (some v))) := by
  refine ⟨h.1, h.2.1, fun q hq => ?_⟩
  obtain ⟨w, h1, h2⟩ := mPr_inv hq
  rw [List.getElem?_set] at h1
  by_cases hqi : i = q.1
  · rw [if_pos hqi, if_pos (by omega)] at h1
    cases h1
    have := h.2.2 (i, mTr G v) List.mem_cons_self
    rw [← hqi, h2]
    exact this
  · rw [if_neg hqi] at h1
    have hm : (q.1, mTr G w) ∈ mPr G lo := mPr_mem h1
    have hcat : (mTr G w).category = 1 := by rw [mTr_cat]; exact hc w (List.mem_of_getElem? h1)
    have hf : (q.1, mTr G w) ∈ (mPr G lo).filter (fun q => !(q.1 == i) && !(q.1 + 1 == i && q.2.category == 2)) := by
      refine List.mem_filter.mpr ⟨hm, ?_⟩
      have h9 : ¬ q.1 = i := fun z => hqi z.symm
      simp [hcat, h9]
    rw [h2]
    exact h.2.2 _ (List.mem_cons_of_mem _ hf)
theorem mCat_set {lo : List (Option Value)} {i : Nat} {v : Value} (hc : ∀ v, some v ∈ lo → v.category = 1) (hv : v.category = 1) : ∀ w, some w ∈ lo.set i (some v) → w.category = 1 := by
  intro w hw
  rcases List.mem_or_eq_of_mem_set hw with h | h
  · exact hc w h
  · cases h; exact hv
