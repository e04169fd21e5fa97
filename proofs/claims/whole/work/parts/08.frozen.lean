/-! ===== the memory once all objects are made: only numbers change ===== -/
abbrev mS : Type := Nat → Nat → Int32
/-- an object: its class, its fields (a number, or a reference that stays); an array of numbers: its tag, its length; the row of references -/
abbrev mSE : Type := (Nat × List (Option Nat)) ⊕ (Nat × Nat) ⊕ (List Nat)
def mSh : List mSE := [
  .inl (4, [some 4, some 12, none, none, some 13, some 29, some 40, some 51]),
  .inl (3, [none, some 5, some 6, some 7, none, some 8, some 9, some 10, some 11]),
  .inr (.inl (0, 6)),
  .inr (.inl (0, 6)),
  .inr (.inl (0, 420)),
  .inr (.inl (0, 4)),
  .inr (.inl (0, 4)),
  .inr (.inl (0, 6)),
  .inr (.inl (0, 8)),
  .inr (.inr [52, 60, 68, 76, 84, 92, 100, 108]),
  .inl (2, [some 14, some 19, none, none, none, none, none, some 27, some 28]),
  .inl (1, [some 15, none, some 16, some 17, some 18, none]),
  .inr (.inl (1, 400)),
  .inr (.inl (0, 401)),
  .inr (.inl (0, 401)),
  .inr (.inl (0, 401)),
  .inl (3, [none, some 20, some 21, some 22, none, some 23, some 24, some 25, some 26]),
  .inr (.inl (0, 6)),
  .inr (.inl (0, 6)),
  .inr (.inl (0, 420)),
  .inr (.inl (0, 4)),
  .inr (.inl (0, 4)),
  .inr (.inl (0, 6)),
  .inr (.inl (0, 8)),
  .inr (.inl (0, 4)),
  .inr (.inl (0, 4)),
  .inl (0, [some 30, some 31, some 32, some 33, some 34, some 35, some 36, some 37, some 38, some 39, none, none]),
  .inr (.inl (0, 8)),
  .inr (.inl (0, 6)),
  .inr (.inl (0, 70)),
  .inr (.inl (2, 70)),
  .inr (.inl (0, 70)),
  .inr (.inl (0, 71)),
  .inr (.inl (0, 71)),
  .inr (.inl (0, 71)),
  .inr (.inl (0, 71)),
  .inr (.inl (2, 70)),
  .inl (0, [some 41, some 42, some 43, some 44, some 45, some 46, some 47, some 48, some 49, some 50, none, none]),
  .inr (.inl (0, 8)),
  .inr (.inl (0, 6)),
  .inr (.inl (0, 70)),
  .inr (.inl (2, 70)),
  .inr (.inl (0, 70)),
  .inr (.inl (0, 71)),
  .inr (.inl (0, 71)),
  .inr (.inl (0, 71)),
  .inr (.inl (0, 71)),
  .inr (.inl (2, 70)),
  .inr (.inl (0, 6)),
  .inl (3, [none, some 53, some 54, some 55, none, some 56, some 57, some 58, some 59]),
  .inr (.inl (0, 6)),
  .inr (.inl (0, 6)),
  .inr (.inl (0, 420)),
  .inr (.inl (0, 4)),
  .inr (.inl (0, 4)),
  .inr (.inl (0, 6)),
  .inr (.inl (0, 8)),
  .inl (3, [none, some 61, some 62, some 63, none, some 64, some 65, some 66, some 67]),
  .inr (.inl (0, 6)),
  .inr (.inl (0, 6)),
  .inr (.inl (0, 420)),
  .inr (.inl (0, 4)),
  .inr (.inl (0, 4)),
  .inr (.inl (0, 6)),
  .inr (.inl (0, 8)),
  .inl (3, [none, some 69, some 70, some 71, none, some 72, some 73, some 74, some 75]),
  .inr (.inl (0, 6)),
  .inr (.inl (0, 6)),
  .inr (.inl (0, 420)),
  .inr (.inl (0, 4)),
  .inr (.inl (0, 4)),
  .inr (.inl (0, 6)),
  .inr (.inl (0, 8)),
  .inl (3, [none, some 77, some 78, some 79, none, some 80, some 81, some 82, some 83]),
  .inr (.inl (0, 6)),
  .inr (.inl (0, 6)),
  .inr (.inl (0, 420)),
  .inr (.inl (0, 4)),
  .inr (.inl (0, 4)),
  .inr (.inl (0, 6)),
  .inr (.inl (0, 8)),
  .inl (3, [none, some 85, some 86, some 87, none, some 88, some 89, some 90, some 91]),
  .inr (.inl (0, 6)),
  .inr (.inl (0, 6)),
  .inr (.inl (0, 420)),
  .inr (.inl (0, 4)),
  .inr (.inl (0, 4)),
  .inr (.inl (0, 6)),
  .inr (.inl (0, 8)),
  .inl (3, [none, some 93, some 94, some 95, none, some 96, some 97, some 98, some 99]),
  .inr (.inl (0, 6)),
  .inr (.inl (0, 6)),
  .inr (.inl (0, 420)),
  .inr (.inl (0, 4)),
  .inr (.inl (0, 4)),
  .inr (.inl (0, 6)),
  .inr (.inl (0, 8)),
  .inl (3, [none, some 101, some 102, some 103, none, some 104, some 105, some 106, some 107]),
  .inr (.inl (0, 6)),
  .inr (.inl (0, 6)),
  .inr (.inl (0, 420)),
  .inr (.inl (0, 4)),
  .inr (.inl (0, 4)),
  .inr (.inl (0, 6)),
  .inr (.inl (0, 8)),
  .inl (3, [none, some 109, some 110, some 111, none, some 112, some 113, some 114, some 115]),
  .inr (.inl (0, 6)),
  .inr (.inl (0, 6)),
  .inr (.inl (0, 420)),
  .inr (.inl (0, 4)),
  .inr (.inl (0, 4)),
  .inr (.inl (0, 6)),
  .inr (.inl (0, 8)),
  .inl (5, [none, some 117, some 118, some 119, none, some 120, none, none, none, none, none, some 121, some 122, some 123, none, none, none, some 124, some 125, some 126, some 127, some 128, some 129, none, none, none, some 130]),
  .inr (.inl (0, 460)),
  .inr (.inl (0, 3680)),
  .inr (.inl (0, 460)),
  .inr (.inl (1, 400)),
  .inr (.inl (0, 70)),
  .inr (.inl (0, 5)),
  .inr (.inl (0, 5)),
  .inr (.inl (0, 70)),
  .inr (.inl (0, 70)),
  .inr (.inl (0, 70)),
  .inr (.inl (0, 71)),
  .inr (.inl (2, 70)),
  .inr (.inl (2, 70)),
  .inr (.inl (0, 70)),
  .inr (.inl (0, 14)),
  .inr (.inl (3, 1))]
def sh (a : Nat) : Option mSE := if a < 3 then none else mSh[a - 3]?
def mCell (σ : mS) (a : Nat) : mSE → va_E
  | .inl (ci, fs) => .inr (ci, fs.mapIdx (fun i f => match f with | none => .int (σ a i) | some r => .ref r))
  | .inr (.inl (t, n)) => if t = 3 then .inl (3, n, .inr (.inl (fun j => (σ a j).toInt64))) else .inl (t, n, .inl (σ a))
  | .inr (.inr rs) => .inl (4, rs.length, .inr (.inr (.inr (.inr (fun j => rs[j]?)))))
def mFz (σ : mS) : List va_E := mSh.mapIdx (fun k e => mCell σ (k + 3) e)
def upR (σ : mS) (a : Nat) (f : Nat → Int32) : mS := fun b => if b = a then f else σ b
def up (σ : mS) (a i : Nat) (v : Int32) : mS := upR σ a (upd (σ a) i v)
theorem upR_s (σ : mS) (a : Nat) (f : Nat → Int32) : upR σ a f a = f := by simp [upR]
theorem upR_n (σ : mS) {a b : Nat} (f : Nat → Int32) (h : b ≠ a) : upR σ a f b = σ b := by simp [upR, h]
theorem up_s (σ : mS) (a i : Nat) (v : Int32) : up σ a i v a i = v := by simp [up, upR, upd]
theorem up_r (σ : mS) (a : Nat) (v : Int32) {i j : Nat} (h : j ≠ i) : up σ a i v a j = σ a j := by simp [up, upR, upd, h]
theorem up_n (σ : mS) {a b : Nat} (i : Nat) (v : Int32) (h : b ≠ a) : up σ a i v b = σ b := by simp [up, upR, h]
theorem sh_c {a : Nat} {e : mSE} (h : sh a = some e) : ∃ k, a = k + 3 ∧ mSh[k]? = some e := by
  unfold sh at h
  split at h
  · cases h
  · exact ⟨a - 3, by omega, h⟩
theorem mFz_get {σ : mS} {k : Nat} {e : mSE} (h : mSh[k]? = some e) : (mFz σ)[k]? = some (mCell σ (k + 3) e) := by
  simp [mFz, List.getElem?_mapIdx, h]
theorem mFz_set {σ : mS} {k : Nat} {e : mSE} (h : mSh[k]? = some e) (f : Nat → Int32) : (mFz σ).set k (mCell (upR σ (k + 3) f) (k + 3) e) = mFz (upR σ (k + 3) f) := by
  have hk : k < mSh.length := (List.getElem?_eq_some_iff.mp h).1
  apply List.ext_getElem?
  intro j
  rw [List.getElem?_set]
  by_cases hj : k = j
  · subst hj
    rw [if_pos rfl, mFz_get h, if_pos (by simp [mFz, hk])]
  · rw [if_neg hj]
    have hc : ∀ e : mSE, mCell (upR σ (k + 3) f) (j + 3) e = mCell σ (j + 3) e := by
      intro e
      have hr : upR σ (k + 3) f (j + 3) = σ (j + 3) := upR_n σ f (by omega)
      unfold mCell
      rw [hr]
    simp only [mFz, List.getElem?_mapIdx]
    cases mSh[j]? with
    | none => rfl
    | some e => simp [hc e]
/-- the walk over such a memory -/
def mF (G : mG) (I : mI) (d pc : Nat) (lo : List (Option Value)) (st : List Value) (σ : mS) (Q : Option Value → mS → Prop) : Prop := mT G I d 0 0 pc lo st (mFz σ) false 0 0 (fun r μ ex => ex = false ∧ ∃ σ' : mS, μ = mFz σ' ∧ Q r σ')
/-- the method J, called with as over σ, answers r and leaves σ1 -/
def mV (G : mG) (J : mI) (d : Nat) (as : List Value) (σ : mS) (r : Option Value) (σ1 : mS) : Prop := mF G J d 0 (mLo J as) [] σ (fun r' σ' => r' = r ∧ σ' = σ1)
theorem nI_mul (a b : Nat) : nI a * nI b = nI (a * b) := by simp [nI, Int32.ofNat_mul]
theorem nI_sub {a b : Nat} (h : b ≤ a) : nI a - nI b = nI (a - b) := by
  have : nI (a - b) + nI b = nI a := by rw [nI_add]; congr 1; omega
  rw [← this]
  exact Int32.add_sub_cancel _ _
theorem nI_inj {a b : Nat} (ha : a < 2 ^ 31) (hb : b < 2 ^ 31) (h : nI a = nI b) : a = b := by
  have := congrArg Int32.toNatClampNeg h
  rwa [nI_clamp ha, nI_clamp hb] at this
theorem nI_le_iff {a b : Nat} (ha : a < 2 ^ 31) (hb : b < 2 ^ 31) : nI a ≤ nI b ↔ a ≤ b := by
  rw [Int32.le_iff_toInt_le, nI_toInt ha, nI_toInt hb]; omega
theorem nI_lt_iff {a b : Nat} (ha : a < 2 ^ 31) (hb : b < 2 ^ 31) : nI a < nI b ↔ a < b := by
  rw [Int32.lt_iff_toInt_lt, nI_toInt ha, nI_toInt hb]; omega
theorem nI_eq_iff {a b : Nat} (ha : a < 2 ^ 31) (hb : b < 2 ^ 31) : nI a = nI b ↔ a = b := ⟨nI_inj ha hb, fun h => by rw [h]⟩
theorem nI_in2 {j n : Nat} (h : j < n) (hn : n < 2 ^ 31) : vp_in (nI j) n := vp_in_nI h (by omega)
section FR
variable {G : mG} {I : mI} {d pc : Nat} {lo : List (Option Value)} {st : List Value} {σ : mS} {Q : Option Value → mS → Prop}
theorem F_iconst {n : Int} {v : Int32} (hd : decode I.2.1 pc = .ok (.iconst n, 1)) (hv : Int32.ofInt n = v) (k : mF G I d (pc + 1) lo (.int v :: st) σ Q) : mF G I d pc lo st σ Q := T_iconst hd hv k
theorem F_bipush {n : Int} {v : Int32} (hd : decode I.2.1 pc = .ok (.bipush n, 2)) (hv : (Int8.ofInt n).toInt32 = v) (k : mF G I d (pc + 2) lo (.int v :: st) σ Q) : mF G I d pc lo st σ Q := T_bipush hd hv k
theorem F_sipush {n : Int} {v : Int32} (hd : decode I.2.1 pc = .ok (.sipush n, 3)) (hv : (Int16.ofInt n).toInt32 = v) (k : mF G I d (pc + 3) lo (.int v :: st) σ Q) : mF G I d pc lo st σ Q := T_sipush hd hv k
theorem F_iload_n {k0 : Fin 4} {x : Int32} (hd : decode I.2.1 pc = .ok (.iload_n k0, 1)) (hx : lo[(k0 : Nat)]? = some (some (.int x))) (k : mF G I d (pc + 1) lo (.int x :: st) σ Q) : mF G I d pc lo st σ Q := T_iload_n hd hx k
theorem F_iload {i : Nat} {x : Int32} (hd : decode I.2.1 pc = .ok (.iload i, 2)) (hx : lo[i]? = some (some (.int x))) (k : mF G I d (pc + 2) lo (.int x :: st) σ Q) : mF G I d pc lo st σ Q := T_iload hd hx k
theorem F_aload_n {k0 : Fin 4} {x : Nat} (hd : decode I.2.1 pc = .ok (.aload_n k0, 1)) (hx : lo[(k0 : Nat)]? = some (some (.ref x))) (k : mF G I d (pc + 1) lo (.ref x :: st) σ Q) : mF G I d pc lo st σ Q := T_aload_n hd hx k
theorem F_aload {i : Nat} {x : Nat} (hd : decode I.2.1 pc = .ok (.aload i, 2)) (hx : lo[i]? = some (some (.ref x))) (k : mF G I d (pc + 2) lo (.ref x :: st) σ Q) : mF G I d pc lo st σ Q := T_aload hd hx k
theorem F_iadd {x y : Int32} (hd : decode I.2.1 pc = .ok (.iadd, 1))  (k : mF G I d (pc + 1) lo (.int (x + y) :: st) σ Q) : mF G I d pc lo (.int y :: .int x :: st) σ Q := T_iadd hd k
theorem F_isub {x y : Int32} (hd : decode I.2.1 pc = .ok (.isub, 1))  (k : mF G I d (pc + 1) lo (.int (x - y) :: st) σ Q) : mF G I d pc lo (.int y :: .int x :: st) σ Q := T_isub hd k
theorem F_imul {x y : Int32} (hd : decode I.2.1 pc = .ok (.imul, 1))  (k : mF G I d (pc + 1) lo (.int (x * y) :: st) σ Q) : mF G I d pc lo (.int y :: .int x :: st) σ Q := T_imul hd k
theorem F_iand {x y : Int32} (hd : decode I.2.1 pc = .ok (.iand, 1))  (k : mF G I d (pc + 1) lo (.int (x &&& y) :: st) σ Q) : mF G I d pc lo (.int y :: .int x :: st) σ Q := T_iand hd k
theorem F_ior {x y : Int32} (hd : decode I.2.1 pc = .ok (.ior, 1))  (k : mF G I d (pc + 1) lo (.int (x ||| y) :: st) σ Q) : mF G I d pc lo (.int y :: .int x :: st) σ Q := T_ior hd k
theorem F_ishl {x y : Int32} (hd : decode I.2.1 pc = .ok (.ishl, 1))  (k : mF G I d (pc + 1) lo (.int (x <<< (y &&& 31)) :: st) σ Q) : mF G I d pc lo (.int y :: .int x :: st) σ Q := T_ishl hd k
theorem F_ishr {x y : Int32} (hd : decode I.2.1 pc = .ok (.ishr, 1))  (k : mF G I d (pc + 1) lo (.int (x >>> (y &&& 31)) :: st) σ Q) : mF G I d pc lo (.int y :: .int x :: st) σ Q := T_ishr hd k
theorem F_idiv {x y : Int32} (hd : decode I.2.1 pc = .ok (.idiv, 1)) (hne : ¬ y = 0) (k : mF G I d (pc + 1) lo (.int (x / y) :: st) σ Q) : mF G I d pc lo (.int y :: .int x :: st) σ Q := T_idiv hd hne k
theorem F_irem {x y : Int32} (hd : decode I.2.1 pc = .ok (.irem, 1)) (hne : ¬ y = 0) (k : mF G I d (pc + 1) lo (.int (x - x / y * y) :: st) σ Q) : mF G I d pc lo (.int y :: .int x :: st) σ Q := T_irem hd hne k
theorem F_i2b {x : Int32} (hd : decode I.2.1 pc = .ok (.i2b, 1))  (k : mF G I d (pc + 1) lo (.int x.toInt8.toInt32 :: st) σ Q) : mF G I d pc lo (.int x :: st) σ Q := T_i2b hd k
theorem F_i2l {x : Int32} (hd : decode I.2.1 pc = .ok (.i2l, 1))  (k : mF G I d (pc + 1) lo (.long x.toInt64 :: st) σ Q) : mF G I d pc lo (.int x :: st) σ Q := T_i2l hd k
theorem F_lcmp {x y : Int64} (hd : decode I.2.1 pc = .ok (.lcmp, 1))  (k : mF G I d (pc + 1) lo (.int (lg_cmp x y) :: st) σ Q) : mF G I d pc lo (.long y :: .long x :: st) σ Q := T_lcmp hd k
theorem F_dup {v : Value} (hd : decode I.2.1 pc = .ok (.dup, 1)) (hv : v.category = 1) (k : mF G I d (pc + 1) lo (v :: v :: st) σ Q) : mF G I d pc lo (v :: st) σ Q := T_dup hd hv k
theorem F_dup2 {v w : Value} (hd : decode I.2.1 pc = .ok (.dup2, 1)) (hv : v.category = 1) (hw : w.category = 1) (k : mF G I d (pc + 1) lo (v :: w :: v :: w :: st) σ Q) : mF G I d pc lo (v :: w :: st) σ Q := T_dup2 hd hv hw k
theorem F_pop {v : Value} (hd : decode I.2.1 pc = .ok (.pop, 1)) (hv : v.category = 1) (k : mF G I d (pc + 1) lo st σ Q) : mF G I d pc lo (v :: st) σ Q := T_pop hd hv k
theorem F_istore_n {k0 : Fin 4} {x : Int32} (hd : decode I.2.1 pc = .ok (.istore_n k0, 1)) (hi : (k0 : Nat) < lo.length) (k : mF G I d (pc + 1) (lo.set (k0 : Nat) (some (.int x))) st σ Q) : mF G I d pc lo (.int x :: st) σ Q := T_istore_n hd hi k
theorem F_istore {i : Nat} {x : Int32} (hd : decode I.2.1 pc = .ok (.istore i, 2)) (hi : i < lo.length) (k : mF G I d (pc + 2) (lo.set i (some (.int x))) st σ Q) : mF G I d pc lo (.int x :: st) σ Q := T_istore hd hi k
theorem F_astore_n {k0 : Fin 4} {x : Nat} (hd : decode I.2.1 pc = .ok (.astore_n k0, 1)) (hi : (k0 : Nat) < lo.length) (k : mF G I d (pc + 1) (lo.set (k0 : Nat) (some (.ref x))) st σ Q) : mF G I d pc lo (.ref x :: st) σ Q := T_astore_n hd hi k
theorem F_astore {i : Nat} {x : Nat} (hd : decode I.2.1 pc = .ok (.astore i, 2)) (hi : i < lo.length) (k : mF G I d (pc + 2) (lo.set i (some (.ref x))) st σ Q) : mF G I d pc lo (.ref x :: st) σ Q := T_astore hd hi k
theorem F_iinc {i : Nat} {n : Int} {x v : Int32} (hd : decode I.2.1 pc = .ok (.iinc i n, 3)) (hx : lo[i]? = some (some (.int x))) (hv : x + Int32.ofInt n = v) (k : mF G I d (pc + 3) (lo.set i (some (.int v))) st σ Q) : mF G I d pc lo st σ Q := T_iinc hd hx hv k
theorem F_iincN {i x : Nat} (hd : decode I.2.1 pc = .ok (.iinc i 1, 3)) (hx : lo[i]? = some (some (.int (nI x)))) (k : mF G I d (pc + 3) (lo.set i (some (.int (nI (x + 1))))) st σ Q) : mF G I d pc lo st σ Q := T_iinc hd hx (by rw [nI_succ]; rfl) k
theorem F_goto {off : Int} {tgt : Nat} (hd : decode I.2.1 pc = .ok (.goto off, 3)) (ht : (pc : Int) + off = (tgt : Int)) (k : mF G I d tgt lo st σ Q) : mF G I d pc lo st σ Q := T_goto hd ht k
theorem F_icmp_eq {x y : Int32} {off : Int} {tgt : Nat} (hd : decode I.2.1 pc = .ok (.if_icmp .eq off, 3)) (ht : (pc : Int) + off = (tgt : Int)) (kt : x = y → mF G I d tgt lo st σ Q) (kf : ¬ x = y → mF G I d (pc + 3) lo st σ Q) : mF G I d pc lo (.int y :: .int x :: st) σ Q := T_icmp_eq hd ht kt kf
theorem F_icmp_eqN {x y : Nat} {off : Int} {tgt : Nat} (hd : decode I.2.1 pc = .ok (.if_icmp .eq off, 3)) (ht : (pc : Int) + off = (tgt : Int)) (hx : x < 2 ^ 31) (hy : y < 2 ^ 31) (kt : x = y → mF G I d tgt lo st σ Q) (kf : ¬ (x = y) → mF G I d (pc + 3) lo st σ Q) : mF G I d pc lo (.int (nI y) :: .int (nI x) :: st) σ Q := by
  exact T_icmp_eq hd ht (fun h => kt ((nI_eq_iff hx hy).mp h)) (fun h => kf (fun z => h ((nI_eq_iff hx hy).mpr z)))
theorem F_if_eq {x : Int32} {off : Int} {tgt : Nat} (hd : decode I.2.1 pc = .ok (.ifCond .eq off, 3)) (ht : (pc : Int) + off = (tgt : Int)) (kt : x = 0 → mF G I d tgt lo st σ Q) (kf : ¬ x = 0 → mF G I d (pc + 3) lo st σ Q) : mF G I d pc lo (.int x :: st) σ Q := T_if_eq hd ht kt kf
theorem F_icmp_ne {x y : Int32} {off : Int} {tgt : Nat} (hd : decode I.2.1 pc = .ok (.if_icmp .ne off, 3)) (ht : (pc : Int) + off = (tgt : Int)) (kt : ¬ x = y → mF G I d tgt lo st σ Q) (kf : x = y → mF G I d (pc + 3) lo st σ Q) : mF G I d pc lo (.int y :: .int x :: st) σ Q := T_icmp_ne hd ht kt kf
theorem F_icmp_neN {x y : Nat} {off : Int} {tgt : Nat} (hd : decode I.2.1 pc = .ok (.if_icmp .ne off, 3)) (ht : (pc : Int) + off = (tgt : Int)) (hx : x < 2 ^ 31) (hy : y < 2 ^ 31) (kt : ¬ x = y → mF G I d tgt lo st σ Q) (kf : ¬ (¬ x = y) → mF G I d (pc + 3) lo st σ Q) : mF G I d pc lo (.int (nI y) :: .int (nI x) :: st) σ Q := by
  exact T_icmp_ne hd ht (fun h => kt (fun z => h ((nI_eq_iff hx hy).mpr z))) (fun h => kf (fun z => z ((nI_eq_iff hx hy).mp h)))
theorem F_if_ne {x : Int32} {off : Int} {tgt : Nat} (hd : decode I.2.1 pc = .ok (.ifCond .ne off, 3)) (ht : (pc : Int) + off = (tgt : Int)) (kt : ¬ x = 0 → mF G I d tgt lo st σ Q) (kf : x = 0 → mF G I d (pc + 3) lo st σ Q) : mF G I d pc lo (.int x :: st) σ Q := T_if_ne hd ht kt kf
theorem F_icmp_lt {x y : Int32} {off : Int} {tgt : Nat} (hd : decode I.2.1 pc = .ok (.if_icmp .lt off, 3)) (ht : (pc : Int) + off = (tgt : Int)) (kt : x < y → mF G I d tgt lo st σ Q) (kf : ¬ x < y → mF G I d (pc + 3) lo st σ Q) : mF G I d pc lo (.int y :: .int x :: st) σ Q := T_icmp_lt hd ht kt kf
theorem F_icmp_ltN {x y : Nat} {off : Int} {tgt : Nat} (hd : decode I.2.1 pc = .ok (.if_icmp .lt off, 3)) (ht : (pc : Int) + off = (tgt : Int)) (hx : x < 2 ^ 31) (hy : y < 2 ^ 31) (kt : x < y → mF G I d tgt lo st σ Q) (kf : ¬ (x < y) → mF G I d (pc + 3) lo st σ Q) : mF G I d pc lo (.int (nI y) :: .int (nI x) :: st) σ Q := by
  exact T_icmp_lt hd ht (fun h => kt ((nI_lt_iff hx hy).mp h)) (fun h => kf (fun z => h ((nI_lt_iff hx hy).mpr z)))
theorem F_if_lt {x : Int32} {off : Int} {tgt : Nat} (hd : decode I.2.1 pc = .ok (.ifCond .lt off, 3)) (ht : (pc : Int) + off = (tgt : Int)) (kt : x < 0 → mF G I d tgt lo st σ Q) (kf : ¬ x < 0 → mF G I d (pc + 3) lo st σ Q) : mF G I d pc lo (.int x :: st) σ Q := T_if_lt hd ht kt kf
theorem F_icmp_ge {x y : Int32} {off : Int} {tgt : Nat} (hd : decode I.2.1 pc = .ok (.if_icmp .ge off, 3)) (ht : (pc : Int) + off = (tgt : Int)) (kt : y ≤ x → mF G I d tgt lo st σ Q) (kf : ¬ y ≤ x → mF G I d (pc + 3) lo st σ Q) : mF G I d pc lo (.int y :: .int x :: st) σ Q := T_icmp_ge hd ht kt kf
theorem F_icmp_geN {x y : Nat} {off : Int} {tgt : Nat} (hd : decode I.2.1 pc = .ok (.if_icmp .ge off, 3)) (ht : (pc : Int) + off = (tgt : Int)) (hx : x < 2 ^ 31) (hy : y < 2 ^ 31) (kt : y ≤ x → mF G I d tgt lo st σ Q) (kf : ¬ (y ≤ x) → mF G I d (pc + 3) lo st σ Q) : mF G I d pc lo (.int (nI y) :: .int (nI x) :: st) σ Q := by
  exact T_icmp_ge hd ht (fun h => kt ((nI_le_iff hy hx).mp h)) (fun h => kf (fun z => h ((nI_le_iff hy hx).mpr z)))
theorem F_if_ge {x : Int32} {off : Int} {tgt : Nat} (hd : decode I.2.1 pc = .ok (.ifCond .ge off, 3)) (ht : (pc : Int) + off = (tgt : Int)) (kt : 0 ≤ x → mF G I d tgt lo st σ Q) (kf : ¬ 0 ≤ x → mF G I d (pc + 3) lo st σ Q) : mF G I d pc lo (.int x :: st) σ Q := T_if_ge hd ht kt kf
theorem F_icmp_gt {x y : Int32} {off : Int} {tgt : Nat} (hd : decode I.2.1 pc = .ok (.if_icmp .gt off, 3)) (ht : (pc : Int) + off = (tgt : Int)) (kt : y < x → mF G I d tgt lo st σ Q) (kf : ¬ y < x → mF G I d (pc + 3) lo st σ Q) : mF G I d pc lo (.int y :: .int x :: st) σ Q := T_icmp_gt hd ht kt kf
theorem F_icmp_gtN {x y : Nat} {off : Int} {tgt : Nat} (hd : decode I.2.1 pc = .ok (.if_icmp .gt off, 3)) (ht : (pc : Int) + off = (tgt : Int)) (hx : x < 2 ^ 31) (hy : y < 2 ^ 31) (kt : y < x → mF G I d tgt lo st σ Q) (kf : ¬ (y < x) → mF G I d (pc + 3) lo st σ Q) : mF G I d pc lo (.int (nI y) :: .int (nI x) :: st) σ Q := by
  exact T_icmp_gt hd ht (fun h => kt ((nI_lt_iff hy hx).mp h)) (fun h => kf (fun z => h ((nI_lt_iff hy hx).mpr z)))
theorem F_if_gt {x : Int32} {off : Int} {tgt : Nat} (hd : decode I.2.1 pc = .ok (.ifCond .gt off, 3)) (ht : (pc : Int) + off = (tgt : Int)) (kt : 0 < x → mF G I d tgt lo st σ Q) (kf : ¬ 0 < x → mF G I d (pc + 3) lo st σ Q) : mF G I d pc lo (.int x :: st) σ Q := T_if_gt hd ht kt kf
theorem F_icmp_le {x y : Int32} {off : Int} {tgt : Nat} (hd : decode I.2.1 pc = .ok (.if_icmp .le off, 3)) (ht : (pc : Int) + off = (tgt : Int)) (kt : x ≤ y → mF G I d tgt lo st σ Q) (kf : ¬ x ≤ y → mF G I d (pc + 3) lo st σ Q) : mF G I d pc lo (.int y :: .int x :: st) σ Q := T_icmp_le hd ht kt kf
theorem F_icmp_leN {x y : Nat} {off : Int} {tgt : Nat} (hd : decode I.2.1 pc = .ok (.if_icmp .le off, 3)) (ht : (pc : Int) + off = (tgt : Int)) (hx : x < 2 ^ 31) (hy : y < 2 ^ 31) (kt : x ≤ y → mF G I d tgt lo st σ Q) (kf : ¬ (x ≤ y) → mF G I d (pc + 3) lo st σ Q) : mF G I d pc lo (.int (nI y) :: .int (nI x) :: st) σ Q := by
  exact T_icmp_le hd ht (fun h => kt ((nI_le_iff hx hy).mp h)) (fun h => kf (fun z => h ((nI_le_iff hx hy).mpr z)))
theorem F_if_le {x : Int32} {off : Int} {tgt : Nat} (hd : decode I.2.1 pc = .ok (.ifCond .le off, 3)) (ht : (pc : Int) + off = (tgt : Int)) (kt : x ≤ 0 → mF G I d tgt lo st σ Q) (kf : ¬ x ≤ 0 → mF G I d (pc + 3) lo st σ Q) : mF G I d pc lo (.int x :: st) σ Q := T_if_le hd ht kt kf
theorem F_if_eqN {x : Nat} {off : Int} {tgt : Nat} (hd : decode I.2.1 pc = .ok (.ifCond .eq off, 3)) (ht : (pc : Int) + off = (tgt : Int)) (hx : x < 2 ^ 31) (kt : x = 0 → mF G I d tgt lo st σ Q) (kf : ¬ x = 0 → mF G I d (pc + 3) lo st σ Q) : mF G I d pc lo (.int (nI x) :: st) σ Q := T_if_eq hd ht (fun h => kt ((nI_eq_iff hx (by omega)).mp h)) (fun h => kf (fun z => h (by rw [z]; rfl)))
theorem F_if_neN {x : Nat} {off : Int} {tgt : Nat} (hd : decode I.2.1 pc = .ok (.ifCond .ne off, 3)) (ht : (pc : Int) + off = (tgt : Int)) (hx : x < 2 ^ 31) (kt : ¬ x = 0 → mF G I d tgt lo st σ Q) (kf : x = 0 → mF G I d (pc + 3) lo st σ Q) : mF G I d pc lo (.int (nI x) :: st) σ Q := T_if_ne hd ht (fun h => kt (fun z => h (by rw [z]; rfl))) (fun h => kf ((nI_eq_iff hx (by omega)).mp h))
theorem F_if_gtN {x : Nat} {off : Int} {tgt : Nat} (hd : decode I.2.1 pc = .ok (.ifCond .gt off, 3)) (ht : (pc : Int) + off = (tgt : Int)) (hx : x < 2 ^ 31) (kt : 0 < x → mF G I d tgt lo st σ Q) (kf : x = 0 → mF G I d (pc + 3) lo st σ Q) : mF G I d pc lo (.int (nI x) :: st) σ Q := T_if_gt hd ht (fun h => kt ((nI_lt_iff (a := 0) (by decide) hx).mp h)) (fun h => kf (Nat.eq_zero_of_not_pos fun z => h ((nI_lt_iff (a := 0) (by decide) hx).mpr z)))
theorem F_if_leN {x : Nat} {off : Int} {tgt : Nat} (hd : decode I.2.1 pc = .ok (.ifCond .le off, 3)) (ht : (pc : Int) + off = (tgt : Int)) (hx : x < 2 ^ 31) (kt : x = 0 → mF G I d tgt lo st σ Q) (kf : 0 < x → mF G I d (pc + 3) lo st σ Q) : mF G I d pc lo (.int (nI x) :: st) σ Q := T_if_le hd ht (fun h => kt (Nat.le_zero.mp ((nI_le_iff (b := 0) hx (by decide)).mp h))) (fun h => kf (Nat.pos_of_ne_zero fun z => h ((nI_le_iff (b := 0) hx (by decide)).mpr (by omega))))
theorem F_if_ltN {x : Nat} {off : Int} {tgt : Nat} (hd : decode I.2.1 pc = .ok (.ifCond .lt off, 3)) (ht : (pc : Int) + off = (tgt : Int)) (hx : x < 2 ^ 31) (kf : mF G I d (pc + 3) lo st σ Q) : mF G I d pc lo (.int (nI x) :: st) σ Q := T_if_lt hd ht (fun h => absurd h (nI_pos hx)) (fun _ => kf)
theorem F_if_geN {x : Nat} {off : Int} {tgt : Nat} (hd : decode I.2.1 pc = .ok (.ifCond .ge off, 3)) (ht : (pc : Int) + off = (tgt : Int)) (hx : x < 2 ^ 31) (kt : mF G I d tgt lo st σ Q) : mF G I d pc lo (.int (nI x) :: st) σ Q := T_if_ge hd ht (fun _ => kt) (fun h => absurd (nI_pos' hx) h)
theorem F_iaddN {x y : Nat} (hd : decode I.2.1 pc = .ok (.iadd, 1)) (k : mF G I d (pc + 1) lo (.int (nI (x + y)) :: st) σ Q) : mF G I d pc lo (.int (nI y) :: .int (nI x) :: st) σ Q := T_iadd hd (by rw [nI_add]; exact k)
theorem F_imulN {x y : Nat} (hd : decode I.2.1 pc = .ok (.imul, 1)) (k : mF G I d (pc + 1) lo (.int (nI (x * y)) :: st) σ Q) : mF G I d pc lo (.int (nI y) :: .int (nI x) :: st) σ Q := T_imul hd (by rw [nI_mul]; exact k)
theorem F_isubN {x y : Nat} (hd : decode I.2.1 pc = .ok (.isub, 1)) (h : y ≤ x) (k : mF G I d (pc + 1) lo (.int (nI (x - y)) :: st) σ Q) : mF G I d pc lo (.int (nI y) :: .int (nI x) :: st) σ Q := T_isub hd (by rw [nI_sub h]; exact k)
theorem F_top {x y : Int32} (h : x = y) (k : mF G I d pc lo (.int y :: st) σ Q) : mF G I d pc lo (.int x :: st) σ Q := by rw [h]; exact k
theorem F_lo {lo2 : List (Option Value)} (h : lo = lo2) (k : mF G I d pc lo2 st σ Q) : mF G I d pc lo st σ Q := by rw [h]; exact k
theorem F_sg {σ2 : mS} (h : σ = σ2) (k : mF G I d pc lo st σ2 Q) : mF G I d pc lo st σ Q := by rw [h]; exact k
theorem F_q {Q2 : Option Value → mS → Prop} (h : ∀ r σ1, Q2 r σ1 → Q r σ1) (k : mF G I d pc lo st σ Q2) : mF G I d pc lo st σ Q := by
  intro p e s m args below meth c H locs ls F hP hS hX hl hn hc T hT X
  obtain ⟨t, h1, o, h2, h3, h4, h5⟩ := k p e s m args below meth c H locs ls F hP hS hX hl hn hc T hT X
  refine ⟨t, h1, o, h2, h3, ?_, h5⟩
  obtain ⟨⟨r, μ, ex, ⟨hex, σ1, hμ, hq⟩, h6⟩, h7⟩ := h4
  exact ⟨⟨r, μ, ex, ⟨hex, σ1, hμ, h r σ1 hq⟩, h6⟩, h7⟩
theorem F_tableIn {dflt l0 hi : Int} {offs : Array Int} {len : Nat} {x : Int32} {off : Int} {tgt : Nat} (hd : decode I.2.1 pc = .ok (.tableswitch dflt l0 hi offs, len)) (h1 : ¬ x.toInt < l0) (h2 : ¬ hi < x.toInt) (ho : offs[(x.toInt - l0).toNat]? = some off) (ht : (pc : Int) + off = (tgt : Int)) (k : mF G I d tgt lo st σ Q) : mF G I d pc lo (.int x :: st) σ Q := T_tableIn hd h1 h2 ho ht k
theorem F_tableOut {dflt l0 hi : Int} {offs : Array Int} {len : Nat} {x : Int32} {tgt : Nat} (hd : decode I.2.1 pc = .ok (.tableswitch dflt l0 hi offs, len)) (h : x.toInt < l0 ∨ hi < x.toInt) (ht : (pc : Int) + dflt = (tgt : Int)) (k : mF G I d tgt lo st σ Q) : mF G I d pc lo (.int x :: st) σ Q := T_tableOut hd h ht k
theorem F_lookup {dflt : Int} {ps : Array (Int × Int)} {len : Nat} {x : Int32} {off : Int} {tgt : Nat} (hd : decode I.2.1 pc = .ok (.lookupswitch dflt ps, len)) (hp : (ps.toList.zip (ps.toList.drop 1)).all (fun (a, next) => a.1 < next.1) = true) (ho : Op.lookupswitch.offset ps.toList dflt x.toInt = off) (ht : (pc : Int) + off = (tgt : Int)) (k : mF G I d tgt lo st σ Q) : mF G I d pc lo (.int x :: st) σ Q := T_lookup hd hp ho ht k
theorem F_ldc {i : Nat} {v : Int32} (hd : decode I.2.1 pc = .ok (.ldc i, 2)) (ho : mOwn.getD I.2.2.2.2.1 "" = I.1.cls) (hf : (mCo I.2.2.2.2.1).lookup i = some v) (k : mF G I d (pc + 2) lo (.int v :: st) σ Q) : mF G I d pc lo st σ Q := T_ldc hd ho hf k
theorem F_getstatic {i q : Nat} {nest : Bool} (hd : decode I.2.1 pc = .ok (.getstatic i, 3)) (ho : mOwn.getD I.2.2.2.2.1 "" = I.1.cls) (hf : (mGs I.2.2.2.2.1).lookup i = some (q, nest)) (k : mF G I d (pc + 3) lo (.ref q :: st) σ Q) : mF G I d pc lo st σ Q := T_getstatic hd ho hf k
theorem F_geti {a i ci k0 : Nat} {nest : Bool} {fs : List (Option Nat)} (hd : decode I.2.1 pc = .ok (.getfield i, 3)) (ho : mOwn.getD I.2.2.2.2.1 "" = I.1.cls) (hf : (mFl I.2.2.2.2.1).lookup i = some (ci, k0, nest)) (hs : sh a = some (.inl (ci, fs))) (hk : fs[k0]? = some none) (k : mF G I d (pc + 3) lo (.int (σ a k0) :: st) σ Q) : mF G I d pc lo (.ref a :: st) σ Q := by
  obtain ⟨n, rfl, hn⟩ := sh_c hs
  exact T_get hd ho hf (mFz_get hn) (v := .int (σ (n + 3) k0)) (by rw [List.getElem?_mapIdx, hk]; rfl) k
theorem F_getr {r a i ci k0 : Nat} {nest : Bool} {fs : List (Option Nat)} (hd : decode I.2.1 pc = .ok (.getfield i, 3)) (ho : mOwn.getD I.2.2.2.2.1 "" = I.1.cls) (hf : (mFl I.2.2.2.2.1).lookup i = some (ci, k0, nest)) (hs : sh a = some (.inl (ci, fs))) (hk : fs[k0]? = some (some r)) (k : mF G I d (pc + 3) lo (.ref r :: st) σ Q) : mF G I d pc lo (.ref a :: st) σ Q := by
  obtain ⟨n, rfl, hn⟩ := sh_c hs
  exact T_get hd ho hf (mFz_get hn) (v := .ref r) (by rw [List.getElem?_mapIdx, hk]; rfl) k
theorem F_put {a i ci k0 : Nat} {nest : Bool} {fs : List (Option Nat)} {x : Int32} {r : vw_C} (hd : decode I.2.1 pc = .ok (.putfield i, 3)) (ho : mOwn.getD I.2.2.2.2.1 "" = I.1.cls) (hf : (mFl I.2.2.2.2.1).lookup i = some (ci, k0, nest)) (hs : sh a = some (.inl (ci, fs))) (hr : mCl[ci]? = some r) (hfi : (r.2.1 k0).2.2.2 = false) (hty : (r.2.1 k0).2.2.1 = "I") (hk : fs[k0]? = some none) (k : mF G I d (pc + 3) lo st (up σ a k0 x) Q) : mF G I d pc lo (.int x :: .ref a :: st) σ Q := by
  obtain ⟨n, rfl, hn⟩ := sh_c hs
  have hk2 : k0 < fs.length := (List.getElem?_eq_some_iff.mp hk).1
  refine T_put hd ho hf hr hfi hty (mFz_get hn) (by simp [hk2]) ?_
  have e9 : (.inr (ci, (fs.mapIdx (fun i f => match f with | none => Value.int (σ (n + 3) i) | some r => .ref r)).set k0 (.int x)) : va_E) = mCell (upR σ (n + 3) (upd (σ (n + 3)) k0 x)) (n + 3) (.inl (ci, fs)) := by
    simp only [mCell]
    congr 2
    apply List.ext_getElem?
    intro j
    rw [List.getElem?_set, List.getElem?_mapIdx, List.getElem?_mapIdx, upR_s]
    by_cases hj : k0 = j
    · subst hj
      rw [if_pos rfl, if_pos (by simp [hk2]), hk]
      simp [upd]
    · rw [if_neg hj]
      cases fs[j]? with
      | none => rfl
      | some f =>
        cases f with
        | none => simp [upd, Ne.symm hj]
        | some r => rfl
  rw [e9, mFz_set hn]
  exact k
theorem F_iald {a n j : Nat} (hd : decode I.2.1 pc = .ok (.iaload, 1)) (hs : sh a = some (.inr (.inl (0, n)))) (hn : n < 2 ^ 31) (hj : j < n) (k : mF G I d (pc + 1) lo (.int (σ a j) :: st) σ Q) : mF G I d pc lo (.int (nI j) :: .ref a :: st) σ Q := by
  obtain ⟨m, rfl, hm⟩ := sh_c hs
  refine T_iaload hd (mFz_get hm) (nI_in2 hj hn) ?_
  rw [nI_clamp (by omega)]
  exact k
theorem F_bald {a n j : Nat} (hd : decode I.2.1 pc = .ok (.baload, 1)) (hs : sh a = some (.inr (.inl (1, n)))) (hn : n < 2 ^ 31) (hj : j < n) (k : mF G I d (pc + 1) lo (.int (σ a j) :: st) σ Q) : mF G I d pc lo (.int (nI j) :: .ref a :: st) σ Q := by
  obtain ⟨m, rfl, hm⟩ := sh_c hs
  refine T_baload hd (mFz_get hm) (nI_in2 hj hn) ?_
  rw [nI_clamp (by omega)]
  exact k
theorem F_zald {a n j : Nat} (hd : decode I.2.1 pc = .ok (.baload, 1)) (hs : sh a = some (.inr (.inl (2, n)))) (hn : n < 2 ^ 31) (hj : j < n) (k : mF G I d (pc + 1) lo (.int (σ a j) :: st) σ Q) : mF G I d pc lo (.int (nI j) :: .ref a :: st) σ Q := by
  obtain ⟨m, rfl, hm⟩ := sh_c hs
  refine T_zaload hd (mFz_get hm) (nI_in2 hj hn) ?_
  rw [nI_clamp (by omega)]
  exact k
theorem F_lald {a n j : Nat} (hd : decode I.2.1 pc = .ok (.laload, 1)) (hs : sh a = some (.inr (.inl (3, n)))) (hn : n < 2 ^ 31) (hj : j < n) (k : mF G I d (pc + 1) lo (.long (σ a j).toInt64 :: st) σ Q) : mF G I d pc lo (.int (nI j) :: .ref a :: st) σ Q := by
  obtain ⟨m, rfl, hm⟩ := sh_c hs
  refine T_laload hd (mFz_get hm) (nI_in2 hj hn) ?_
  rw [nI_clamp (by omega)]
  exact k
theorem F_aald {a j q : Nat} {rs : List Nat} (hd : decode I.2.1 pc = .ok (.aaload, 1)) (hs : sh a = some (.inr (.inr rs))) (hn : rs.length < 2 ^ 31) (hj : rs[j]? = some q) (k : mF G I d (pc + 1) lo (.ref q :: st) σ Q) : mF G I d pc lo (.int (nI j) :: .ref a :: st) σ Q := by
  obtain ⟨m, rfl, hm⟩ := sh_c hs
  have hl : j < rs.length := (List.getElem?_eq_some_iff.mp hj).1
  exact T_aaload hd (mFz_get hm) (nI_in2 hl hn) (by rw [nI_clamp (by omega)]; exact hj) k
theorem F_iast {a n j : Nat} {x : Int32} (hd : decode I.2.1 pc = .ok (.iastore, 1)) (hs : sh a = some (.inr (.inl (0, n)))) (hn : n < 2 ^ 31) (hj : j < n) (k : mF G I d (pc + 1) lo st (up σ a j x) Q) : mF G I d pc lo (.int x :: .int (nI j) :: .ref a :: st) σ Q := by
  obtain ⟨m, rfl, hm⟩ := sh_c hs
  refine T_iastore hd (mFz_get hm) (nI_in2 hj hn) ?_
  rw [nI_clamp (by omega)]
  have e9 : (.inl (0, n, .inl (upd (σ (m + 3)) j x)) : va_E) = mCell (upR σ (m + 3) (upd (σ (m + 3)) j x)) (m + 3) (.inr (.inl (0, n))) := by
    simp only [mCell, upR_s]
    rfl
  rw [e9, mFz_set hm]
  exact k
theorem F_bast {a n j : Nat} {x : Int32} (hd : decode I.2.1 pc = .ok (.bastore, 1)) (hs : sh a = some (.inr (.inl (1, n)))) (hn : n < 2 ^ 31) (hj : j < n) (k : mF G I d (pc + 1) lo st (up σ a j (vp_nar .byte x)) Q) : mF G I d pc lo (.int x :: .int (nI j) :: .ref a :: st) σ Q := by
  obtain ⟨m, rfl, hm⟩ := sh_c hs
  refine T_bastore hd (mFz_get hm) (nI_in2 hj hn) ?_
  rw [nI_clamp (by omega)]
  have e9 : (.inl (1, n, .inl (upd (σ (m + 3)) j (vp_nar .byte x))) : va_E) = mCell (upR σ (m + 3) (upd (σ (m + 3)) j (vp_nar .byte x))) (m + 3) (.inr (.inl (1, n))) := by
    simp only [mCell, upR_s]
    rfl
  rw [e9, mFz_set hm]
  exact k
theorem F_zast {a n j : Nat} {x : Int32} (hd : decode I.2.1 pc = .ok (.bastore, 1)) (hs : sh a = some (.inr (.inl (2, n)))) (hn : n < 2 ^ 31) (hj : j < n) (k : mF G I d (pc + 1) lo st (up σ a j (vp_nar .boolean x)) Q) : mF G I d pc lo (.int x :: .int (nI j) :: .ref a :: st) σ Q := by
  obtain ⟨m, rfl, hm⟩ := sh_c hs
  refine T_zastore hd (mFz_get hm) (nI_in2 hj hn) ?_
  rw [nI_clamp (by omega)]
  have e9 : (.inl (2, n, .inl (upd (σ (m + 3)) j (vp_nar .boolean x))) : va_E) = mCell (upR σ (m + 3) (upd (σ (m + 3)) j (vp_nar .boolean x))) (m + 3) (.inr (.inl (2, n))) := by
    simp only [mCell, upR_s]
    rfl
  rw [e9, mFz_set hm]
  exact k
theorem F_copy {i a b n0 n1 sp dp n : Nat} (hd : decode I.2.1 pc = .ok (.invokestatic i, 3)) (ho : mOwn.getD I.2.2.2.2.1 "" = I.1.cls) (hf : (mLi I.2.2.2.2.1).lookup i = some 3) (hst : (st.map fun v => v.category).sum ≤ 8) (hs : sh a = some (.inr (.inl (0, n0)))) (hs2 : sh b = some (.inr (.inl (0, n1)))) (hn0 : n0 < 2 ^ 31) (hn1 : n1 < 2 ^ 31) (h4 : sp + n ≤ n0) (h5 : dp + n ≤ n1) (k : mF G I d (pc + 3) lo st (upR σ b (va_cpy (σ a) (σ b) sp dp n)) Q) : mF G I d pc lo (.int (nI n) :: .int (nI dp) :: .ref b :: .int (nI sp) :: .ref a :: st) σ Q := by
  obtain ⟨m, rfl, hm⟩ := sh_c hs
  obtain ⟨m2, rfl, hm2⟩ := sh_c hs2
  refine T_copy hd ho hf hst (mFz_get hm) (mFz_get hm2) (nI_pos (by omega)) (nI_pos (by omega)) (nI_pos (by omega)) (by rw [nI_clamp (by omega), nI_clamp (by omega)]; exact h4) (by rw [nI_clamp (by omega), nI_clamp (by omega)]; exact h5) ?_
  rw [nI_clamp (by omega), nI_clamp (by omega), nI_clamp (by omega)]
  have e9 : (.inl (0, n1, .inl (va_cpy (σ (m + 3)) (σ (m2 + 3)) sp dp n)) : va_E) = mCell (upR σ (m2 + 3) (va_cpy (σ (m + 3)) (σ (m2 + 3)) sp dp n)) (m2 + 3) (.inr (.inl (0, n1))) := by
    simp only [mCell, upR_s]
    rfl
  rw [e9, mFz_set hm2]
  exact k
theorem F_getE {a i ci k0 : Nat} {nest : Bool} {v : Int32} {fs : List (Option Nat)} (hd : decode I.2.1 pc = .ok (.getfield i, 3)) (ho : mOwn.getD I.2.2.2.2.1 "" = I.1.cls) (hf : (mFl I.2.2.2.2.1).lookup i = some (ci, k0, nest)) (hs : sh a = some (.inl (ci, fs))) (hk : fs[k0]? = some none) (he : σ a k0 = v) (k : mF G I d (pc + 3) lo (.int v :: st) σ Q) : mF G I d pc lo (.ref a :: st) σ Q := F_geti hd ho hf hs hk (by rw [he]; exact k)
theorem F_ialdE {a n j : Nat} {v : Int32} (hd : decode I.2.1 pc = .ok (.iaload, 1)) (hs : sh a = some (.inr (.inl (0, n)))) (hn : n < 2 ^ 31) (hj : j < n) (he : σ a j = v) (k : mF G I d (pc + 1) lo (.int v :: st) σ Q) : mF G I d pc lo (.int (nI j) :: .ref a :: st) σ Q := F_iald hd hs hn hj (by rw [he]; exact k)
theorem F_baldE {a n j : Nat} {v : Int32} (hd : decode I.2.1 pc = .ok (.baload, 1)) (hs : sh a = some (.inr (.inl (1, n)))) (hn : n < 2 ^ 31) (hj : j < n) (he : σ a j = v) (k : mF G I d (pc + 1) lo (.int v :: st) σ Q) : mF G I d pc lo (.int (nI j) :: .ref a :: st) σ Q := F_bald hd hs hn hj (by rw [he]; exact k)
theorem F_zaldE {a n j : Nat} {v : Int32} (hd : decode I.2.1 pc = .ok (.baload, 1)) (hs : sh a = some (.inr (.inl (2, n)))) (hn : n < 2 ^ 31) (hj : j < n) (he : σ a j = v) (k : mF G I d (pc + 1) lo (.int v :: st) σ Q) : mF G I d pc lo (.int (nI j) :: .ref a :: st) σ Q := F_zald hd hs hn hj (by rw [he]; exact k)
theorem F_ialdX {a j : Nat} (hd : decode I.2.1 pc = .ok (.iaload, 1)) (ha : a < 3) (hj : j < (mXr G a).1) (hn : (mXr G a).1 < 2 ^ 31) (k : mF G I d (pc + 1) lo (.int ((mXr G a).2 j) :: st) σ Q) : mF G I d pc lo (.int (nI j) :: .ref a :: st) σ Q := T_ialoadX hd ha (nI_in2 hj hn) (by rw [nI_clamp (by omega)]; exact k)
theorem F_alenX (hd : decode I.2.1 pc = .ok (.arraylength, 1)) (k : mF G I d (pc + 1) lo (.int (nI (gN G)) :: st) σ Q) : mF G I d pc lo (.ref 2 :: st) σ Q := T_alenX hd k
theorem F_min {i : Nat} {x y : Int32} (hd : decode I.2.1 pc = .ok (.invokestatic i, 3)) (ho : mOwn.getD I.2.2.2.2.1 "" = I.1.cls) (hf : (mLi I.2.2.2.2.1).lookup i = some 1) (hst : (st.map fun v => v.category).sum ≤ 8) (k : mF G I d (pc + 3) lo (.int (if y < x then y else x) :: st) σ Q) : mF G I d pc lo (.int y :: .int x :: st) σ Q := T_min hd ho hf hst (Nat.le_refl 0) (Nat.le_refl 0) k
theorem F_max {i : Nat} {x y : Int32} (hd : decode I.2.1 pc = .ok (.invokestatic i, 3)) (ho : mOwn.getD I.2.2.2.2.1 "" = I.1.cls) (hf : (mLi I.2.2.2.2.1).lookup i = some 2) (hst : (st.map fun v => v.category).sum ≤ 8) (k : mF G I d (pc + 3) lo (.int (if x < y then y else x) :: st) σ Q) : mF G I d pc lo (.int y :: .int x :: st) σ Q := T_max hd ho hf hst (Nat.le_refl 0) (Nat.le_refl 0) k
theorem F_iret {v : Int32} (hd : decode I.2.1 pc = .ok (.ireturn, 1)) (hr : I.2.2.2.1 = some .int) (hq : Q (some (.int v)) σ) : mF G I d pc lo [.int v] σ Q := T_iret hd hr (Nat.le_refl 0) (Nat.le_refl 0) ⟨rfl, σ, rfl, hq⟩
theorem F_zret {v : Int32} (hd : decode I.2.1 pc = .ok (.ireturn, 1)) (hr : I.2.2.2.1 = some .boolean) (hv : v = 0 ∨ v = 1) (hq : Q (some (.int v)) σ) : mF G I d pc lo [.int v] σ Q := T_zret hd hr hv (Nat.le_refl 0) (Nat.le_refl 0) ⟨rfl, σ, rfl, hq⟩
theorem F_vret (hd : decode I.2.1 pc = .ok (.return_, 1)) (hr : I.2.2.2.1 = none) (hq : Q none σ) : mF G I d pc lo [] σ Q := T_vret hd hr (Nat.le_refl 0) (Nat.le_refl 0) ⟨rfl, σ, rfl, hq⟩
theorem F_callV {a ci kd i d1 : Nat} {as : List Value} {J : mI} {fs : List (Option Nat)} {r0 : vw_C} {r : Option Value} {σ1 : mS} (hC : mV G J d1 (.ref a :: as) σ r σ1) (hd : decode I.2.1 pc = .ok (.invokevirtual i, 3)) (ho : mOwn.getD I.2.2.2.2.1 "" = I.1.cls) (hf : (mCa I.2.2.2.2.1).lookup i = some (kd, J)) (hkd : kd = 1 ∨ kd = 4) (hs : sh a = some (.inl (ci, fs))) (hci : mCl[ci]? = some r0) (hcl : r0.1 = J.1.cls) (hnp : as.length = J.2.2.2.2.2) (hml : as.length + 1 ≤ J.2.2.1 ∧ J.2.2.1 ≤ 40) (hcat : ∀ v ∈ as, v.category = 1) (hst : (st.map fun v => v.category).sum ≤ 8) (hdd : d1 < d) (k : mF G I d (pc + 3) lo (r.toList ++ st) σ1 Q) : mF G I d pc lo (as.reverse ++ .ref a :: st) σ Q := by
  obtain ⟨n, rfl, hn⟩ := sh_c hs
  refine T_callV hd ho hf hkd (mFz_get hn) hci hcl hnp hml hcat hst hdd (Nat.le_refl 0) (Nat.le_refl 0) hC ?_ ?_
  · intro r1 μ1 ex1 h1 h2
    rw [h1.1] at h2
    cases h2
  · intro r1 μ1 ex1 h1
    obtain ⟨h2, σ2, h3, h4, h5⟩ := h1
    rw [h2, h3, h4, h5]
    exact k
theorem F_callS {i d1 : Nat} {as : List Value} {J : mI} {r : Option Value} {σ1 : mS} (hC : mV G J d1 as σ r σ1) (hd : decode I.2.1 pc = .ok (.invokestatic i, 3)) (ho : mOwn.getD I.2.2.2.2.1 "" = I.1.cls) (hf : (mCa I.2.2.2.2.1).lookup i = some (0, J)) (hnp : as.length = J.2.2.2.2.2) (hml : as.length ≤ J.2.2.1 ∧ J.2.2.1 ≤ 40) (hcat : ∀ v ∈ as, v.category = 1) (hst : (st.map fun v => v.category).sum ≤ 8) (hdd : d1 < d) (k : mF G I d (pc + 3) lo (r.toList ++ st) σ1 Q) : mF G I d pc lo (as.reverse ++ st) σ Q := by
  refine T_callS hd ho hf hnp hml hcat hst hdd (Nat.le_refl 0) (Nat.le_refl 0) hC ?_ ?_
  · intro r1 μ1 ex1 h1 h2
    rw [h1.1] at h2
    cases h2
  · intro r1 μ1 ex1 h1
    obtain ⟨h2, σ2, h3, h4, h5⟩ := h1
    rw [h2, h3, h4, h5]
    exact k
theorem F_cV0i {a ci kd i d1 : Nat}  {J : mI} {fs : List (Option Nat)} {r0 : vw_C} {v : Value} {σ1 : mS} (hC : mV G J d1 (.ref a :: []) σ (some v) σ1) (hd : decode I.2.1 pc = .ok (.invokevirtual i, 3)) (ho : mOwn.getD I.2.2.2.2.1 "" = I.1.cls) (hf : (mCa I.2.2.2.2.1).lookup i = some (kd, J)) (hkd : kd = 1 ∨ kd = 4) (hs : sh a = some (.inl (ci, fs))) (hci : mCl[ci]? = some r0) (hcl : r0.1 = J.1.cls) (hnp : 0 = J.2.2.2.2.2) (hml : 0 + 1 ≤ J.2.2.1 ∧ J.2.2.1 ≤ 40) (hst : (st.map fun v => v.category).sum ≤ 8) (hdd : d1 < d) (k : mF G I d (pc + 3) lo (v :: st) σ1 Q) : mF G I d pc lo (.ref a :: st) σ Q := F_callV hC hd ho hf hkd hs hci hcl hnp hml (by intro v hv; cases hv) hst hdd k
theorem F_cV0v {a ci kd i d1 : Nat}  {J : mI} {fs : List (Option Nat)} {r0 : vw_C}  {σ1 : mS} (hC : mV G J d1 (.ref a :: []) σ none σ1) (hd : decode I.2.1 pc = .ok (.invokevirtual i, 3)) (ho : mOwn.getD I.2.2.2.2.1 "" = I.1.cls) (hf : (mCa I.2.2.2.2.1).lookup i = some (kd, J)) (hkd : kd = 1 ∨ kd = 4) (hs : sh a = some (.inl (ci, fs))) (hci : mCl[ci]? = some r0) (hcl : r0.1 = J.1.cls) (hnp : 0 = J.2.2.2.2.2) (hml : 0 + 1 ≤ J.2.2.1 ∧ J.2.2.1 ≤ 40) (hst : (st.map fun v => v.category).sum ≤ 8) (hdd : d1 < d) (k : mF G I d (pc + 3) lo st σ1 Q) : mF G I d pc lo (.ref a :: st) σ Q := F_callV hC hd ho hf hkd hs hci hcl hnp hml (by intro v hv; cases hv) hst hdd k
theorem F_cV1i {a ci kd i d1 : Nat} {x1 : Int32} {J : mI} {fs : List (Option Nat)} {r0 : vw_C} {v : Value} {σ1 : mS} (hC : mV G J d1 (.ref a :: [.int x1]) σ (some v) σ1) (hd : decode I.2.1 pc = .ok (.invokevirtual i, 3)) (ho : mOwn.getD I.2.2.2.2.1 "" = I.1.cls) (hf : (mCa I.2.2.2.2.1).lookup i = some (kd, J)) (hkd : kd = 1 ∨ kd = 4) (hs : sh a = some (.inl (ci, fs))) (hci : mCl[ci]? = some r0) (hcl : r0.1 = J.1.cls) (hnp : 1 = J.2.2.2.2.2) (hml : 1 + 1 ≤ J.2.2.1 ∧ J.2.2.1 ≤ 40) (hst : (st.map fun v => v.category).sum ≤ 8) (hdd : d1 < d) (k : mF G I d (pc + 3) lo (v :: st) σ1 Q) : mF G I d pc lo (.int x1 :: .ref a :: st) σ Q := F_callV hC hd ho hf hkd hs hci hcl hnp hml (by intro v hv; simp at hv; rw [hv]; rfl) hst hdd k
theorem F_cV1v {a ci kd i d1 : Nat} {x1 : Int32} {J : mI} {fs : List (Option Nat)} {r0 : vw_C}  {σ1 : mS} (hC : mV G J d1 (.ref a :: [.int x1]) σ none σ1) (hd : decode I.2.1 pc = .ok (.invokevirtual i, 3)) (ho : mOwn.getD I.2.2.2.2.1 "" = I.1.cls) (hf : (mCa I.2.2.2.2.1).lookup i = some (kd, J)) (hkd : kd = 1 ∨ kd = 4) (hs : sh a = some (.inl (ci, fs))) (hci : mCl[ci]? = some r0) (hcl : r0.1 = J.1.cls) (hnp : 1 = J.2.2.2.2.2) (hml : 1 + 1 ≤ J.2.2.1 ∧ J.2.2.1 ≤ 40) (hst : (st.map fun v => v.category).sum ≤ 8) (hdd : d1 < d) (k : mF G I d (pc + 3) lo st σ1 Q) : mF G I d pc lo (.int x1 :: .ref a :: st) σ Q := F_callV hC hd ho hf hkd hs hci hcl hnp hml (by intro v hv; simp at hv; rw [hv]; rfl) hst hdd k
theorem F_cV2i {a ci kd i d1 : Nat} {x1 x2 : Int32} {J : mI} {fs : List (Option Nat)} {r0 : vw_C} {v : Value} {σ1 : mS} (hC : mV G J d1 (.ref a :: [.int x1, .int x2]) σ (some v) σ1) (hd : decode I.2.1 pc = .ok (.invokevirtual i, 3)) (ho : mOwn.getD I.2.2.2.2.1 "" = I.1.cls) (hf : (mCa I.2.2.2.2.1).lookup i = some (kd, J)) (hkd : kd = 1 ∨ kd = 4) (hs : sh a = some (.inl (ci, fs))) (hci : mCl[ci]? = some r0) (hcl : r0.1 = J.1.cls) (hnp : 2 = J.2.2.2.2.2) (hml : 2 + 1 ≤ J.2.2.1 ∧ J.2.2.1 ≤ 40) (hst : (st.map fun v => v.category).sum ≤ 8) (hdd : d1 < d) (k : mF G I d (pc + 3) lo (v :: st) σ1 Q) : mF G I d pc lo (.int x2 :: .int x1 :: .ref a :: st) σ Q := F_callV hC hd ho hf hkd hs hci hcl hnp hml (by intro v hv; simp at hv; rcases hv with rfl | rfl <;> rfl) hst hdd k
theorem F_cV2v {a ci kd i d1 : Nat} {x1 x2 : Int32} {J : mI} {fs : List (Option Nat)} {r0 : vw_C}  {σ1 : mS} (hC : mV G J d1 (.ref a :: [.int x1, .int x2]) σ none σ1) (hd : decode I.2.1 pc = .ok (.invokevirtual i, 3)) (ho : mOwn.getD I.2.2.2.2.1 "" = I.1.cls) (hf : (mCa I.2.2.2.2.1).lookup i = some (kd, J)) (hkd : kd = 1 ∨ kd = 4) (hs : sh a = some (.inl (ci, fs))) (hci : mCl[ci]? = some r0) (hcl : r0.1 = J.1.cls) (hnp : 2 = J.2.2.2.2.2) (hml : 2 + 1 ≤ J.2.2.1 ∧ J.2.2.1 ≤ 40) (hst : (st.map fun v => v.category).sum ≤ 8) (hdd : d1 < d) (k : mF G I d (pc + 3) lo st σ1 Q) : mF G I d pc lo (.int x2 :: .int x1 :: .ref a :: st) σ Q := F_callV hC hd ho hf hkd hs hci hcl hnp hml (by intro v hv; simp at hv; rcases hv with rfl | rfl <;> rfl) hst hdd k
theorem F_cV3i {a ci kd i d1 : Nat} {x1 x2 x3 : Int32} {J : mI} {fs : List (Option Nat)} {r0 : vw_C} {v : Value} {σ1 : mS} (hC : mV G J d1 (.ref a :: [.int x1, .int x2, .int x3]) σ (some v) σ1) (hd : decode I.2.1 pc = .ok (.invokevirtual i, 3)) (ho : mOwn.getD I.2.2.2.2.1 "" = I.1.cls) (hf : (mCa I.2.2.2.2.1).lookup i = some (kd, J)) (hkd : kd = 1 ∨ kd = 4) (hs : sh a = some (.inl (ci, fs))) (hci : mCl[ci]? = some r0) (hcl : r0.1 = J.1.cls) (hnp : 3 = J.2.2.2.2.2) (hml : 3 + 1 ≤ J.2.2.1 ∧ J.2.2.1 ≤ 40) (hst : (st.map fun v => v.category).sum ≤ 8) (hdd : d1 < d) (k : mF G I d (pc + 3) lo (v :: st) σ1 Q) : mF G I d pc lo (.int x3 :: .int x2 :: .int x1 :: .ref a :: st) σ Q := F_callV hC hd ho hf hkd hs hci hcl hnp hml (by intro v hv; simp at hv; rcases hv with rfl | rfl | rfl <;> rfl) hst hdd k
theorem F_cV3v {a ci kd i d1 : Nat} {x1 x2 x3 : Int32} {J : mI} {fs : List (Option Nat)} {r0 : vw_C}  {σ1 : mS} (hC : mV G J d1 (.ref a :: [.int x1, .int x2, .int x3]) σ none σ1) (hd : decode I.2.1 pc = .ok (.invokevirtual i, 3)) (ho : mOwn.getD I.2.2.2.2.1 "" = I.1.cls) (hf : (mCa I.2.2.2.2.1).lookup i = some (kd, J)) (hkd : kd = 1 ∨ kd = 4) (hs : sh a = some (.inl (ci, fs))) (hci : mCl[ci]? = some r0) (hcl : r0.1 = J.1.cls) (hnp : 3 = J.2.2.2.2.2) (hml : 3 + 1 ≤ J.2.2.1 ∧ J.2.2.1 ≤ 40) (hst : (st.map fun v => v.category).sum ≤ 8) (hdd : d1 < d) (k : mF G I d (pc + 3) lo st σ1 Q) : mF G I d pc lo (.int x3 :: .int x2 :: .int x1 :: .ref a :: st) σ Q := F_callV hC hd ho hf hkd hs hci hcl hnp hml (by intro v hv; simp at hv; rcases hv with rfl | rfl | rfl <;> rfl) hst hdd k
theorem F_cV4i {a ci kd i d1 : Nat} {x1 x2 x3 x4 : Int32} {J : mI} {fs : List (Option Nat)} {r0 : vw_C} {v : Value} {σ1 : mS} (hC : mV G J d1 (.ref a :: [.int x1, .int x2, .int x3, .int x4]) σ (some v) σ1) (hd : decode I.2.1 pc = .ok (.invokevirtual i, 3)) (ho : mOwn.getD I.2.2.2.2.1 "" = I.1.cls) (hf : (mCa I.2.2.2.2.1).lookup i = some (kd, J)) (hkd : kd = 1 ∨ kd = 4) (hs : sh a = some (.inl (ci, fs))) (hci : mCl[ci]? = some r0) (hcl : r0.1 = J.1.cls) (hnp : 4 = J.2.2.2.2.2) (hml : 4 + 1 ≤ J.2.2.1 ∧ J.2.2.1 ≤ 40) (hst : (st.map fun v => v.category).sum ≤ 8) (hdd : d1 < d) (k : mF G I d (pc + 3) lo (v :: st) σ1 Q) : mF G I d pc lo (.int x4 :: .int x3 :: .int x2 :: .int x1 :: .ref a :: st) σ Q := F_callV hC hd ho hf hkd hs hci hcl hnp hml (by intro v hv; simp at hv; rcases hv with rfl | rfl | rfl | rfl <;> rfl) hst hdd k
theorem F_cV4v {a ci kd i d1 : Nat} {x1 x2 x3 x4 : Int32} {J : mI} {fs : List (Option Nat)} {r0 : vw_C}  {σ1 : mS} (hC : mV G J d1 (.ref a :: [.int x1, .int x2, .int x3, .int x4]) σ none σ1) (hd : decode I.2.1 pc = .ok (.invokevirtual i, 3)) (ho : mOwn.getD I.2.2.2.2.1 "" = I.1.cls) (hf : (mCa I.2.2.2.2.1).lookup i = some (kd, J)) (hkd : kd = 1 ∨ kd = 4) (hs : sh a = some (.inl (ci, fs))) (hci : mCl[ci]? = some r0) (hcl : r0.1 = J.1.cls) (hnp : 4 = J.2.2.2.2.2) (hml : 4 + 1 ≤ J.2.2.1 ∧ J.2.2.1 ≤ 40) (hst : (st.map fun v => v.category).sum ≤ 8) (hdd : d1 < d) (k : mF G I d (pc + 3) lo st σ1 Q) : mF G I d pc lo (.int x4 :: .int x3 :: .int x2 :: .int x1 :: .ref a :: st) σ Q := F_callV hC hd ho hf hkd hs hci hcl hnp hml (by intro v hv; simp at hv; rcases hv with rfl | rfl | rfl | rfl <;> rfl) hst hdd k
theorem F_cV5i {a ci kd i d1 : Nat} {x1 x2 x3 x4 x5 : Int32} {J : mI} {fs : List (Option Nat)} {r0 : vw_C} {v : Value} {σ1 : mS} (hC : mV G J d1 (.ref a :: [.int x1, .int x2, .int x3, .int x4, .int x5]) σ (some v) σ1) (hd : decode I.2.1 pc = .ok (.invokevirtual i, 3)) (ho : mOwn.getD I.2.2.2.2.1 "" = I.1.cls) (hf : (mCa I.2.2.2.2.1).lookup i = some (kd, J)) (hkd : kd = 1 ∨ kd = 4) (hs : sh a = some (.inl (ci, fs))) (hci : mCl[ci]? = some r0) (hcl : r0.1 = J.1.cls) (hnp : 5 = J.2.2.2.2.2) (hml : 5 + 1 ≤ J.2.2.1 ∧ J.2.2.1 ≤ 40) (hst : (st.map fun v => v.category).sum ≤ 8) (hdd : d1 < d) (k : mF G I d (pc + 3) lo (v :: st) σ1 Q) : mF G I d pc lo (.int x5 :: .int x4 :: .int x3 :: .int x2 :: .int x1 :: .ref a :: st) σ Q := F_callV hC hd ho hf hkd hs hci hcl hnp hml (by intro v hv; simp at hv; rcases hv with rfl | rfl | rfl | rfl | rfl <;> rfl) hst hdd k
theorem F_cV5v {a ci kd i d1 : Nat} {x1 x2 x3 x4 x5 : Int32} {J : mI} {fs : List (Option Nat)} {r0 : vw_C}  {σ1 : mS} (hC : mV G J d1 (.ref a :: [.int x1, .int x2, .int x3, .int x4, .int x5]) σ none σ1) (hd : decode I.2.1 pc = .ok (.invokevirtual i, 3)) (ho : mOwn.getD I.2.2.2.2.1 "" = I.1.cls) (hf : (mCa I.2.2.2.2.1).lookup i = some (kd, J)) (hkd : kd = 1 ∨ kd = 4) (hs : sh a = some (.inl (ci, fs))) (hci : mCl[ci]? = some r0) (hcl : r0.1 = J.1.cls) (hnp : 5 = J.2.2.2.2.2) (hml : 5 + 1 ≤ J.2.2.1 ∧ J.2.2.1 ≤ 40) (hst : (st.map fun v => v.category).sum ≤ 8) (hdd : d1 < d) (k : mF G I d (pc + 3) lo st σ1 Q) : mF G I d pc lo (.int x5 :: .int x4 :: .int x3 :: .int x2 :: .int x1 :: .ref a :: st) σ Q := F_callV hC hd ho hf hkd hs hci hcl hnp hml (by intro v hv; simp at hv; rcases hv with rfl | rfl | rfl | rfl | rfl <;> rfl) hst hdd k
theorem F_cS1i {i d1 : Nat} {x1 : Int32} {J : mI} {v : Value} {σ1 : mS} (hC : mV G J d1 [.int x1] σ (some v) σ1) (hd : decode I.2.1 pc = .ok (.invokestatic i, 3)) (ho : mOwn.getD I.2.2.2.2.1 "" = I.1.cls) (hf : (mCa I.2.2.2.2.1).lookup i = some (0, J)) (hnp : 1 = J.2.2.2.2.2) (hml : 1 ≤ J.2.2.1 ∧ J.2.2.1 ≤ 40) (hst : (st.map fun v => v.category).sum ≤ 8) (hdd : d1 < d) (k : mF G I d (pc + 3) lo (v :: st) σ1 Q) : mF G I d pc lo (.int x1 :: st) σ Q := F_callS hC hd ho hf hnp hml (by intro v hv; simp at hv; rw [hv]; rfl) hst hdd k
theorem F_cS2i {i d1 : Nat} {x1 x2 : Int32} {J : mI} {v : Value} {σ1 : mS} (hC : mV G J d1 [.int x1, .int x2] σ (some v) σ1) (hd : decode I.2.1 pc = .ok (.invokestatic i, 3)) (ho : mOwn.getD I.2.2.2.2.1 "" = I.1.cls) (hf : (mCa I.2.2.2.2.1).lookup i = some (0, J)) (hnp : 2 = J.2.2.2.2.2) (hml : 2 ≤ J.2.2.1 ∧ J.2.2.1 ≤ 40) (hst : (st.map fun v => v.category).sum ≤ 8) (hdd : d1 < d) (k : mF G I d (pc + 3) lo (v :: st) σ1 Q) : mF G I d pc lo (.int x2 :: .int x1 :: st) σ Q := F_callS hC hd ho hf hnp hml (by intro v hv; simp at hv; rcases hv with rfl | rfl <;> rfl) hst hdd k
theorem F_cS3i {i d1 : Nat} {x1 x2 x3 : Int32} {J : mI} {v : Value} {σ1 : mS} (hC : mV G J d1 [.int x1, .int x2, .int x3] σ (some v) σ1) (hd : decode I.2.1 pc = .ok (.invokestatic i, 3)) (ho : mOwn.getD I.2.2.2.2.1 "" = I.1.cls) (hf : (mCa I.2.2.2.2.1).lookup i = some (0, J)) (hnp : 3 = J.2.2.2.2.2) (hml : 3 ≤ J.2.2.1 ∧ J.2.2.1 ≤ 40) (hst : (st.map fun v => v.category).sum ≤ 8) (hdd : d1 < d) (k : mF G I d (pc + 3) lo (v :: st) σ1 Q) : mF G I d pc lo (.int x3 :: .int x2 :: .int x1 :: st) σ Q := F_callS hC hd ho hf hnp hml (by intro v hv; simp at hv; rcases hv with rfl | rfl | rfl <;> rfl) hst hdd k
theorem F_cS4i {i d1 : Nat} {x1 x2 x3 x4 : Int32} {J : mI} {v : Value} {σ1 : mS} (hC : mV G J d1 [.int x1, .int x2, .int x3, .int x4] σ (some v) σ1) (hd : decode I.2.1 pc = .ok (.invokestatic i, 3)) (ho : mOwn.getD I.2.2.2.2.1 "" = I.1.cls) (hf : (mCa I.2.2.2.2.1).lookup i = some (0, J)) (hnp : 4 = J.2.2.2.2.2) (hml : 4 ≤ J.2.2.1 ∧ J.2.2.1 ≤ 40) (hst : (st.map fun v => v.category).sum ≤ 8) (hdd : d1 < d) (k : mF G I d (pc + 3) lo (v :: st) σ1 Q) : mF G I d pc lo (.int x4 :: .int x3 :: .int x2 :: .int x1 :: st) σ Q := F_callS hC hd ho hf hnp hml (by intro v hv; simp at hv; rcases hv with rfl | rfl | rfl | rfl <;> rfl) hst hdd k
theorem F_cS5i {i d1 : Nat} {x1 x2 x3 x4 x5 : Int32} {J : mI} {v : Value} {σ1 : mS} (hC : mV G J d1 [.int x1, .int x2, .int x3, .int x4, .int x5] σ (some v) σ1) (hd : decode I.2.1 pc = .ok (.invokestatic i, 3)) (ho : mOwn.getD I.2.2.2.2.1 "" = I.1.cls) (hf : (mCa I.2.2.2.2.1).lookup i = some (0, J)) (hnp : 5 = J.2.2.2.2.2) (hml : 5 ≤ J.2.2.1 ∧ J.2.2.1 ≤ 40) (hst : (st.map fun v => v.category).sum ≤ 8) (hdd : d1 < d) (k : mF G I d (pc + 3) lo (v :: st) σ1 Q) : mF G I d pc lo (.int x5 :: .int x4 :: .int x3 :: .int x2 :: .int x1 :: st) σ Q := F_callS hC hd ho hf hnp hml (by intro v hv; simp at hv; rcases hv with rfl | rfl | rfl | rfl | rfl <;> rfl) hst hdd k
theorem F_cS6i {i d1 : Nat} {x1 x2 x3 x4 x5 x6 : Int32} {J : mI} {v : Value} {σ1 : mS} (hC : mV G J d1 [.int x1, .int x2, .int x3, .int x4, .int x5, .int x6] σ (some v) σ1) (hd : decode I.2.1 pc = .ok (.invokestatic i, 3)) (ho : mOwn.getD I.2.2.2.2.1 "" = I.1.cls) (hf : (mCa I.2.2.2.2.1).lookup i = some (0, J)) (hnp : 6 = J.2.2.2.2.2) (hml : 6 ≤ J.2.2.1 ∧ J.2.2.1 ≤ 40) (hst : (st.map fun v => v.category).sum ≤ 8) (hdd : d1 < d) (k : mF G I d (pc + 3) lo (v :: st) σ1 Q) : mF G I d pc lo (.int x6 :: .int x5 :: .int x4 :: .int x3 :: .int x2 :: .int x1 :: st) σ Q := F_callS hC hd ho hf hnp hml (by intro v hv; simp at hv; rcases hv with rfl | rfl | rfl | rfl | rfl | rfl <;> rfl) hst hdd k
end FR
theorem mV_of {G : mG} {J : mI} {d : Nat} {as : List Value} {σ σ1 : mS} {r : Option Value} (h : ∀ Q : Option Value → mS → Prop, Q r σ1 → mF G J d 0 (mLo J as) [] σ Q) : mV G J d as σ r σ1 := h _ ⟨rfl, rfl⟩
