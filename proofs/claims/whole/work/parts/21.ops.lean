/-! ===== the relation, and the calls that tell ===== -/
def RC (σ : mS) : Prop := σ 116 23 = -1 ∧ σ 116 24 = -1 ∧ σ 127 0 = nI 0 ∧ (σ 37 0 = nI 0 ∧ σ 38 0 = nI 0 ∧ ∀ k, 70 ≤ k → σ 33 k = 0) ∧ (σ 48 0 = nI 0 ∧ σ 49 0 = nI 0 ∧ ∀ k, 70 ≤ k → σ 44 k = 0)
/-- what can be undone: k states, the next place j -/
def RU (σ : mS) (k j : Nat) : Prop := k ≤ 8 ∧ j < 8 ∧ σ 116 4 = nI k ∧ σ 3 2 = nI k ∧ σ 3 3 = nI j ∧ ∀ i, i < k → ∃ n c, TR σ (pastB ((j + 8 - k + i) % 8)) (fun x => σ 118 (460 * i + x)) n c
/-- the tape -/
def isByte (v : Int32) : Prop := -128 ≤ v.toInt ∧ v.toInt ≤ 127
def RP (σ : mS) (m : Nat) : Prop := m ≤ 400 ∧ σ 14 1 = nI m ∧ σ 116 6 = nI m ∧ ∀ i, i < m → σ 15 i = σ 120 i ∧ isByte (σ 15 i)
def Rel (σ : mS) : Prop := ∃ n c k j m, TR σ 4 (σ 117) n c ∧ RC σ ∧ RU σ k j ∧ RP σ m ∧ σ 13 3 = σ 116 7
theorem RU.frame {σ τ : mS} {k j : Nat} (h : RU σ k j) (hr : ∀ a, 52 ≤ a → a < 116 → τ a = σ a) (h3 : τ 3 = σ 3) (h8 : τ 118 = σ 118) (h4 : τ 116 4 = σ 116 4) : RU τ k j := by
  obtain ⟨a1, a2, a3, a4, a5, a6⟩ := h
  refine ⟨a1, a2, by rw [h4]; exact a3, by rw [h3]; exact a4, by rw [h3]; exact a5, fun i hi => ?_⟩
  obtain ⟨n, c, hT⟩ := a6 i hi
  refine ⟨n, c, ?_⟩
  rw [h8]
  have hm : (j + 8 - k + i) % 8 < 8 := Nat.mod_lt _ (by decide)
  exact hT.rows (fun q hq => hr _ (by unfold pastB; omega) (by unfold pastB; omega))
theorem Rel.frame {σ τ : mS} (h : Rel σ) (hr : ∀ a, a < 16 ∨ (52 ≤ a ∧ a < 116) ∨ a = 117 ∨ a = 118 ∨ a = 120 → τ a = σ a) (h4 : τ 116 4 = σ 116 4) (h6 : τ 116 6 = σ 116 6) (h7 : τ 116 7 = σ 116 7) (hc : RC τ) : Rel τ := by
  obtain ⟨n, c, k, j, m, hT, -, hU, ⟨p1, p2, p3, p4⟩, hF⟩ := h
  refine ⟨n, c, k, j, m, ?_, hc, hU.frame (fun a h1 h2 => hr a (by omega)) (hr 3 (by omega)) (hr 118 (by omega)) h4, ⟨p1, by rw [hr 14 (by omega)]; exact p2, by rw [h6]; exact p3, fun i hi => ?_⟩, ?_⟩
  · rw [hr 117 (by omega)]
    exact hT.rows (fun q hq => hr _ (by omega))
  · rw [hr 15 (by omega), hr 120 (by omega)]; exact p4 i hi
  · rw [hr 13 (by omega), h7]; exact hF
/-- only the mark of a throw is another -/
theorem Rel.thrown {σ : mS} (h : Rel σ) (v : Int32) : Rel (up σ 116 0 v) := by
  have hc : RC σ := by obtain ⟨n, c, k, j, m, hT, hC, -⟩ := h; exact hC
  exact h.frame (fun a ha => up_n σ _ _ (by omega)) rfl rfl rfl hc
theorem remS_past (σ : mS) {j u a : Nat} (h : 4 ≤ a) : remS σ j u a = copyT σ (pastB j) 4 a := by
  simp only [remS]
  rw [up_n _ _ _ (by omega), up_n _ _ _ (by omega)]
theorem remS_hi (σ : mS) {j u a : Nat} (hj : j < 8) (h : 116 ≤ a) : remS σ j u a = σ a := by
  rw [remS_past _ (by omega), copyT_far _ (by unfold pastB; omega)]
/-- what is remembered on both sides -/
theorem RU.rem {σ τ : mS} {n c k j : Nat} (hT : TR σ 4 (σ 117) n c) (h : RU σ k j) (t4 : τ 116 4 = nI (min k 7 + 1)) (t2 : τ 3 2 = nI (min (k + 1) 8)) (t3 : τ 3 3 = nI ((j + 1) % 8)) (t8 : τ 118 = keptF k (σ 118) (σ 117)) (hr : ∀ a, 52 ≤ a → a < 116 → τ a = remS σ j k a) : RU τ (min k 7 + 1) ((j + 1) % 8) := by
  obtain ⟨a1, a2, a3, a4, a5, a6⟩ := h
  have hk : min (k + 1) 8 = min k 7 + 1 := by omega
  refine ⟨by omega, Nat.mod_lt _ (by decide), t4, by rw [t2, hk], t3, fun i hi => ?_⟩
  by_cases hl : i = min k 7
  · subst hl
    have e : ((j + 1) % 8 + 8 - (min k 7 + 1) + min k 7) % 8 = j := by omega
    rw [e]
    have h1 : TR (copyT σ (pastB j) 4) (pastB j) (σ 117) n c := TR_copy hT (by unfold pastB; omega)
    have h2 : TR τ (pastB j) (σ 117) n c := h1.rows (fun q hq => by rw [hr _ (by unfold pastB; omega) (by unfold pastB; omega), remS_past _ (by unfold pastB; omega)])
    refine ⟨n, c, TRf.congr h2 (fun x hx => ?_)⟩
    rw [t8]
    simp only [keptF, va_cpy]
    rw [if_pos (by omega)]
    congr 1; omega
  · have hi2 : i < min k 7 := by omega
    have hs : ((j + 1) % 8 + 8 - (min k 7 + 1) + i) % 8 = (j + 8 - k + (i + (if k = 8 then 1 else 0))) % 8 := by
      by_cases e : k = 8
      · rw [if_pos e]; omega
      · rw [if_neg e]; omega
    have hi3 : i + (if k = 8 then 1 else 0) < k := by split <;> omega
    obtain ⟨n2, c2, hT2⟩ := a6 _ hi3
    rw [hs]
    have hne : (j + 8 - k + (i + (if k = 8 then 1 else 0))) % 8 ≠ j := by
      by_cases e : k = 8
      · rw [if_pos e]; omega
      · rw [if_neg e]; omega
    have hm : (j + 8 - k + (i + (if k = 8 then 1 else 0))) % 8 < 8 := Nat.mod_lt _ (by decide)
    generalize hz : (j + 8 - k + (i + (if k = 8 then 1 else 0))) % 8 = z at *
    refine ⟨n2, c2, TRf.congr (TR.rows hT2 (fun q hq => ?_)) (fun x hx => ?_)⟩
    · rw [hr _ (by unfold pastB; omega) (by unfold pastB; omega), remS_past _ (by unfold pastB; omega), copyT_far _ (by unfold pastB; omega)]
    · rw [t8]
      simp only [keptF]
      by_cases e : k = 8
      · rw [if_pos e, if_pos e]
        simp only [va_cpy]
        rw [if_neg (by omega), if_pos (by omega)]
        congr 1; omega
      · rw [if_neg e, if_neg e]
        simp only [va_cpy]
        rw [if_neg (by omega)]
        rfl
theorem inR_ex {x : Int32} {n : Nat} (hn : n < 2 ^ 31) (h : inR x (nI 0) (nI n) = true) : ∃ v, v ≤ n ∧ x = nI v := inR_n hn h
/-- a call on both sides: the same answer, and the relation still -/
def Same (G : mG) (I J : mI) (as : List Value) (σ : mS) : Prop := ∃ (r : Int32) (σ1 σ2 : mS), mV G I 12 (.ref 3 :: as) σ (some (.int r)) σ1 ∧ mV G J 12 (.ref 116 :: as) σ1 (some (.int r)) σ2 ∧ Rel σ2
section OPS
variable {G : mG} {σ : mS}
/-- behind a remembering: the book's state τ, the reference's after it -/
theorem Rel.rem {τ : mS} {n c k j m n2 c2 : Nat} {f : Nat → Int32} (hT : TR σ 4 (σ 117) n c) (hC : RC σ) (hU : RU σ k j) (hP : RP σ m) (hF : σ 13 3 = σ 116 7)
    (hr : ∀ a, (12 ≤ a ∧ a < 116) ∨ a = 3 → τ a = remS σ j k a) (h6 : ∀ a, 116 ≤ a → τ a = σ a) (hT2 : TR τ 4 f n2 c2) :
    Rel (upR (up (upR (up τ 116 0 (nI 0)) 118 (keptF k (τ 118) (τ 117))) 116 4 (nI (min k 7 + 1))) 117 f) := by
  have hj := hU.2.1
  have hrem : ∀ a, (12 ≤ a ∧ a < 52) → τ a = σ a := fun a ha => by rw [hr a (by omega), remS_far _ (by omega) (by omega)]
  refine ⟨n2, c2, min k 7 + 1, (j + 1) % 8, m, TR.rows hT2 (fun q hq => ?_), ?_, hU.rem hT rfl ?_ ?_ ?_ (fun a h1 h2 => ?_), ?_, ?_⟩
  · rw [upR_n _ _ (by omega), up_n _ _ _ (by omega), upR_n _ _ (by omega), up_n _ _ _ (by omega)]
  · obtain ⟨c1, c2, c3, c4, c5⟩ := hC
    refine ⟨?_, ?_, ?_, ?_, ?_⟩
    · show τ 116 23 = _; rw [h6 116 (by omega)]; exact c1
    · show τ 116 24 = _; rw [h6 116 (by omega)]; exact c2
    · show τ 127 0 = _; rw [h6 127 (by omega)]; exact c3
    · show τ 37 0 = _ ∧ τ 38 0 = _ ∧ ∀ k, _ → τ 33 k = 0
      rw [hrem 37 (by omega), hrem 38 (by omega), hrem 33 (by omega)]; exact c4
    · show τ 48 0 = _ ∧ τ 49 0 = _ ∧ ∀ k, _ → τ 44 k = 0
      rw [hrem 48 (by omega), hrem 49 (by omega), hrem 44 (by omega)]; exact c5
  · show τ 3 2 = _
    rw [hr 3 (by omega)]
    simp only [remS]
    rw [up_s]
  · show τ 3 3 = _
    rw [hr 3 (by omega)]
    simp only [remS]
    rw [up_r _ _ _ (by decide), up_s]
  · show keptF k (τ 118) (τ 117) = _
    rw [h6 118 (by omega), h6 117 (by omega)]
  · rw [upR_n _ _ (by omega), up_n _ _ _ (by omega), upR_n _ _ (by omega), up_n _ _ _ (by omega), hr a (by omega)]
  · obtain ⟨p1, p2, p3, p4⟩ := hP
    refine ⟨p1, ?_, ?_, fun i hi => ?_⟩
    · show τ 14 1 = _; rw [hrem 14 (by omega)]; exact p2
    · show τ 116 6 = _; rw [h6 116 (by omega)]; exact p3
    · show τ 15 i = τ 120 i ∧ isByte (τ 15 i)
      rw [hrem 15 (by omega), h6 120 (by omega)]; exact p4 i hi
  · show τ 13 3 = τ 116 7
    rw [hrem 13 (by omega), h6 116 (by omega)]; exact hF
theorem op_group (h : Rel σ) (fit tired : Int32) : Same G mX4_group mX5_group [.int fit, .int tired] σ := by
  by_cases hA : (inR fit (nI 0) (nI 9999) && inR tired (nI 0) (nI 9999)) = true
  · obtain ⟨n, c, k, j, m, hT, hC, hU, hP, hF⟩ := id h
    have hb := hT.1
    by_cases h6 : n = 6
    · subst h6
      exact ⟨-2, σ, _, b_groupB (d := 11) fit tired hA hT.2.1, m_groupB (d := 11) fit tired hA hb.2.2.1, h.thrown _⟩
    · have hn6 : n < 6 := by have := hb.1; omega
      obtain ⟨u1, u2, u3, u4, u5, -⟩ := id hU
      have e7 : ∀ a, 116 ≤ a → up (up (up (remS σ j k) 5 n fit) 6 n tired) 4 0 (nI (n + 1)) a = σ a := fun a ha => by
        rw [up_n _ _ _ (by omega), up_n _ _ _ (by omega), up_n _ _ _ (by omega), remS_hi _ u2 ha]
      have hx := Bool.and_eq_true_iff.mp hA
      refine ⟨nI n, _, _, b_groupC (d := 10) fit tired hA hT.2.1 hn6 u5 u2 u4 u1, m_groupC (d := 10) fit tired hA (n := n) (k := k) ?_ hn6 ?_ u1, ?_⟩
      · rw [e7 117 (by omega)]; exact hb.2.2.1
      · rw [e7 116 (by omega)]; exact u3
      · refine Rel.rem hT hC hU hP hF (fun a ha => ?_) e7 (n2 := n + 1) (c2 := c) ?_
        · rw [up_n _ _ _ (by omega), up_n _ _ _ (by omega), up_n _ _ _ (by omega)]
        · have hg := TRf.group hT hn6 (inR_ex (by decide) hx.1) (inR_ex (by decide) hx.2)
          rw [e7 117 (by omega)]
          have q : ∀ a, 4 ≤ a → a < 12 → remS σ j k a = σ a := fun a h1 h2 => remS_far _ h1 (by omega)
          show TRf (upd (remS σ j k 4) 0 _) (upd (remS σ j k 5) n _) (upd (remS σ j k 6) n _) (remS σ j k 7) (remS σ j k 8) (remS σ j k 9) (remS σ j k 10) (remS σ j k 11) _ _ _
          rw [q 4 (by omega) (by omega), q 5 (by omega) (by omega), q 6 (by omega) (by omega), q 7 (by omega) (by omega), q 8 (by omega) (by omega), q 9 (by omega) (by omega), q 10 (by omega) (by omega), q 11 (by omega) (by omega)]
          exact hg
  · have hA := Bool.not_eq_true _ ▸ hA
    exact ⟨-1, σ, _, b_groupA (d := 11) fit tired hA, m_groupA (d := 11) fit tired hA, h.thrown _⟩
theorem op_load (h : Rel σ) (kind v : Int32) : Same G mX4_load mX5_load [.int kind, .int v] σ := by
  by_cases hA : (inR kind (nI 1) (nI 5) && inR v (nI 0) (nI 300)) = true
  · obtain ⟨n, c, k, j, m, hT, hC, hU, hP, hF⟩ := id h
    obtain ⟨hx1, hx2⟩ := Bool.and_eq_true_iff.mp hA
    have hx1' := hx1
    simp only [inR, Bool.and_eq_true, decide_eq_true_eq] at hx1'
    obtain ⟨q, hq, e⟩ := nI_ex (x := kind) (n := 5) (by decide) (Int32.le_trans (nI_le (Nat.zero_le 1) (by decide)) hx1'.1) hx1'.2
    subst e
    have hq0 : 0 < q := by
      have := (nI_le_iff (a := 1) (b := q) (by decide) (by omega)).mp hx1'.1
      omega
    have hs := hT.2.2.2.2.1 q (by omega)
    have hs : σ 10 q = σ 117 q := hs
    by_cases hB : σ 10 q = v
    · exact ⟨nI 0, σ, _, b_loadB (d := 12) v (by omega) hA hB, m_loadB (d := 11) v (by omega) hA (hs ▸ hB), h.thrown _⟩
    · refine ⟨nI 1, _, _, b_loadC (d := 12) v (by omega) hA hB, m_loadC (d := 11) v (by omega) hA (by show ¬ σ 117 q = v; rw [← hs]; exact hB), n, c, k, j, m, ?_, hC, hU.frame (fun a h1 h2 => ?_) rfl rfl rfl, hP, hF⟩
      · exact TRf.load hT (by omega) hq0 (inR_ex (by decide) hx2)
      · rw [upR_n _ _ (by omega), up_n _ _ _ (by omega), up_n _ _ _ (by omega)]
  · have hA := Bool.not_eq_true _ ▸ hA
    exact ⟨nI 0, σ, _, b_loadA (d := 12) kind v hA, m_loadA (d := 11) kind v hA, h.thrown _⟩
theorem op_set (h : Rel σ) (t v : Int32) : Same G mX4_set mX5_set [.int t, .int v] σ := by
  by_cases hA : inR t (nI 0) (nI 7) = true
  · obtain ⟨n, c, k, j, m, hT, hC, hU, hP, hF⟩ := id h
    obtain ⟨q, hq, e⟩ := inR_n (by decide) hA
    subst e
    have hq8 : q < 8 := by omega
    by_cases hB : inR v (mLeast.getD q 0) (mMost.getD q 0) = true
    · have hs : σ 11 q = σ 117 (6 + q) := hT.2.2.2.1 q hq8
      by_cases hD : σ 11 q = v
      · exact ⟨nI 0, σ, _, b_setC (d := 11) v hq8 hB hD, m_setC (d := 10) v hq8 hB (hs ▸ hD), h.thrown _⟩
      · refine ⟨nI 1, _, _, b_setD (d := 11) v hq8 hB hD, m_setD (d := 10) v hq8 hB (by show ¬ σ 117 (6 + q) = v; rw [← hs]; exact hD), n, c, k, j, m, ?_, hC, hU.frame (fun a h1 h2 => ?_) rfl rfl rfl, hP, hF⟩
        · exact TRf.set hT hq8 hB
        · rw [upR_n _ _ (by omega), up_n _ _ _ (by omega), up_n _ _ _ (by omega)]
    · have hB := Bool.not_eq_true _ ▸ hB
      exact ⟨nI 0, σ, _, b_setB (d := 11) v hq8 hB, m_setB (d := 10) v hq8 hB, h.thrown _⟩
  · have hA := Bool.not_eq_true _ ▸ hA
    exact ⟨nI 0, σ, _, b_setA (d := 11) t v hA, m_setA (d := 11) t v hA, h.thrown _⟩
theorem days_n {a b : Int32} (h : (dB a && dB b && decide (a ≤ b)) = true) : ∃ x y, x ≤ y ∧ y < 70 ∧ a = nI x ∧ b = nI y := by
  simp only [Bool.and_eq_true, decide_eq_true_eq] at h
  obtain ⟨x, hx, ex⟩ := dB_n h.1.1
  obtain ⟨y, hy, ey⟩ := dB_n h.1.2
  have := h.2
  rw [ex, ey, nI_le_iff (by omega) (by omega)] at this
  exact ⟨x, y, this, hy, ex, ey⟩
theorem op_camp (h : Rel σ) (a b : Int32) : Same G mX4_camp mX5_camp [.int a, .int b] σ := by
  by_cases hA : (dB a && dB b && decide (a ≤ b)) = true
  · obtain ⟨n, c, k, j, m, hT, hC, hU, hP, hF⟩ := id h
    have hb := hT.1
    by_cases h4 : c = 4
    · subst h4
      exact ⟨-2, σ, _, b_campB (d := 10) a b hA hT.2.2.1, m_campB (d := 10) a b hA hb.2.2.2.1, h.thrown _⟩
    · have hc4 : c < 4 := by have := hb.2.1; omega
      obtain ⟨x, y, hxy, hy, ex, ey⟩ := days_n hA
      subst ex; subst ey
      obtain ⟨u1, u2, u3, u4, u5, -⟩ := id hU
      have e7 : ∀ q, 116 ≤ q → up (up (up (remS σ j k) 8 c (nI x)) 9 c (nI y)) 4 4 (nI (c + 1)) q = σ q := fun q hq => by
        rw [up_n _ _ _ (by omega), up_n _ _ _ (by omega), up_n _ _ _ (by omega), remS_hi _ u2 hq]
      refine ⟨nI c, _, _, b_campC (d := 10) _ _ hA hT.2.2.1 hc4 u5 u2 u4 u1, m_campC (d := 10) _ _ hA (n := c) (k := k) ?_ hc4 ?_ u1, ?_⟩
      · rw [e7 117 (by omega)]; exact hb.2.2.2.1
      · rw [e7 116 (by omega)]; exact u3
      · refine Rel.rem hT hC hU hP hF (fun q hq => ?_) e7 (n2 := n) (c2 := c + 1) ?_
        · rw [up_n _ _ _ (by omega), up_n _ _ _ (by omega), up_n _ _ _ (by omega)]
        · have hg := TRf.camp hT hc4 hxy hy
          rw [e7 117 (by omega)]
          have q : ∀ a, 4 ≤ a → a < 12 → remS σ j k a = σ a := fun a h1 h2 => remS_far _ h1 (by omega)
          show TRf (upd (remS σ j k 4) 4 _) (remS σ j k 5) (remS σ j k 6) (remS σ j k 7) (upd (remS σ j k 8) c _) (upd (remS σ j k 9) c _) (remS σ j k 10) (remS σ j k 11) _ _ _
          rw [q 4 (by omega) (by omega), q 5 (by omega) (by omega), q 6 (by omega) (by omega), q 7 (by omega) (by omega), q 8 (by omega) (by omega), q 9 (by omega) (by omega), q 10 (by omega) (by omega), q 11 (by omega) (by omega)]
          exact hg
  · have hA := Bool.not_eq_true _ ▸ hA
    exact ⟨-1, σ, _, b_campA (d := 10) a b hA, m_campA (d := 10) a b hA, h.thrown _⟩
theorem op_strike (h : Rel σ) (x : Int32) : Same G mX4_strike mX5_strike [.int x] σ := by
  obtain ⟨n, c, k, j, m, hT, hC, hU, hP, hF⟩ := id h
  have hb := hT.1
  have h44 : σ 4 4 = nI c := hT.2.2.1
  have h14 : σ 117 14 = nI c := hb.2.2.2.1
  have hc4 := hb.2.1
  by_cases hA : grB (nI c) x = true
  · obtain ⟨q, hq, e⟩ := grB_n rfl (by omega) hA
    subst e
    obtain ⟨u1, u2, u3, u4, u5, -⟩ := id hU
    have e7 : ∀ a, 116 ≤ a → up (upR (upR (remS σ j k) 8 (va_cpy (σ 8) (σ 8) (q + 1) q (c - 1 - q))) 9 (va_cpy (σ 9) (σ 9) (q + 1) q (c - 1 - q))) 4 4 (nI (c - 1)) a = σ a := fun a ha => by
      rw [up_n _ _ _ (by omega), upR_n _ _ (by omega), upR_n _ _ (by omega), remS_hi _ u2 ha]
    refine ⟨nI (c - 1), _, _, b_strikeB (d := 10) h44 hq hc4 u5 u2 u4 u1, m_strikeB (d := 10) (n := c) (k := k) ?_ hq hc4 ?_ u1, ?_⟩
    · rw [e7 117 (by omega)]; exact h14
    · rw [e7 116 (by omega)]; exact u3
    · refine Rel.rem hT hC hU hP hF (fun a ha => ?_) e7 (n2 := n) (c2 := c - 1) ?_
      · rw [up_n _ _ _ (by omega), upR_n _ _ (by omega), upR_n _ _ (by omega)]
      · have hg := TRf.strike hT hq
        rw [e7 117 (by omega)]
        have q2 : ∀ a, 4 ≤ a → a < 12 → remS σ j k a = σ a := fun a h1 h2 => remS_far _ h1 (by omega)
        show TRf (upd (remS σ j k 4) 4 _) (remS σ j k 5) (remS σ j k 6) (remS σ j k 7) (va_cpy (σ 8) (σ 8) _ _ _) (va_cpy (σ 9) (σ 9) _ _ _) (remS σ j k 10) (remS σ j k 11) _ _ _
        rw [q2 4 (by omega) (by omega), q2 5 (by omega) (by omega), q2 6 (by omega) (by omega), q2 7 (by omega) (by omega), q2 10 (by omega) (by omega), q2 11 (by omega) (by omega)]
        exact hg
  · have hA := Bool.not_eq_true _ ▸ hA
    exact ⟨-1, σ, _, b_strikeA (d := 11) x (by rw [h44]; exact hA), m_strikeA (d := 11) x h14 hc4 (by rw [h14]; exact hA), h.thrown _⟩
theorem op_plan (h : Rel σ) (g a b kind : Int32) : Same G mX4_plan mX5_plan [.int g, .int a, .int b, .int kind] σ := by
  obtain ⟨n, c, k, j, m, hT, hC, hU, hP, hF⟩ := id h
  have hb := hT.1
  have h40 : σ 4 0 = nI n := hT.2.1
  have h23 : σ 117 23 = nI n := hb.2.2.1
  have hn6 := hb.1
  by_cases hA : (grB (nI n) g && dB a && dB b && decide (a ≤ b) && inR kind (nI 0) (nI 5)) = true
  · have hA2 := hA
    simp only [Bool.and_eq_true] at hA2
    obtain ⟨⟨⟨⟨g1, g2⟩, g3⟩, g4⟩, g5⟩ := hA2
    obtain ⟨gn, hgn, eg⟩ := grB_n rfl (by omega) g1
    obtain ⟨x, y, hxy, hy, ex, ey⟩ := days_n (show (dB a && dB b && decide (a ≤ b)) = true by rw [g2, g3, g4]; rfl)
    obtain ⟨kn, hkn, ek⟩ := inR_n (by decide) g5
    subst eg; subst ex; subst ey; subst ek
    obtain ⟨u1, u2, u3, u4, u5, -⟩ := id hU
    have hcc : cntB (fun i => decide (¬ σ 7 (gn * 70 + (x + i)) = nI kn)) (y + 1 - x) = cntB (fun i => decide (¬ σ 117 (40 + 70 * gn + (x + i)) = nI kn)) (y + 1 - x) := by
      refine cntB_congr (fun i hi => ?_)
      rw [show σ 7 (gn * 70 + (x + i)) = σ 117 (40 + 70 * gn + (x + i)) from (hT.2.2.2.2.2.2.1 gn hgn).2.2 (x + i) (by omega)]
    have hpl := TRf.plan hT hgn (a := x) (m := y + 1 - x) (k := kn) (by omega) (by omega)
    by_cases h0 : cntB (fun i => decide (¬ σ 117 (40 + 70 * gn + (x + i)) = nI kn)) (y + 1 - x) = 0
    · refine ⟨nI 0, σ, _, b_planB (d := 10) h40 hn6 hgn hxy hy g5 (hcc.trans h0), m_planB (d := 8) h23 hn6 hgn hxy hy g5 h0, ?_⟩
      have hall : ∀ q, (∀ i, i < q → σ 117 (40 + 70 * gn + (x + i)) = nI kn) ∨ 0 < cntB (fun i => decide (¬ σ 117 (40 + 70 * gn + (x + i)) = nI kn)) q := by
        intro q
        induction q with
        | zero => exact Or.inl (fun i hi => absurd hi (by omega))
        | succ q ih =>
          rcases ih with ih | ih
          · by_cases e : σ 117 (40 + 70 * gn + (x + q)) = nI kn
            · refine Or.inl (fun i hi => ?_)
              by_cases ei : i = q
              · subst ei; exact e
              · exact ih i (by omega)
            · refine Or.inr ?_
              simp only [cntB]
              rw [if_pos (by rw [decide_eq_true_eq]; exact e)]
              omega
          · refine Or.inr ?_
            simp only [cntB]
            omega
      rcases hall (y + 1 - x) with hal | hal
      · have e1 : fillR (σ 117) (40 + 70 * gn + x) (40 + 70 * gn + x + (y + 1 - x)) (nI kn) = σ 117 := by
          funext q
          simp only [fillR]
          split
          · rename_i hq
            have := hal (q - (40 + 70 * gn + x)) (by omega)
            rw [← this]
            congr 1
            omega
          · rfl
        rw [e1]
        exact h.frame (fun q hq => by
          by_cases e : q = 117
          · subst e; exact upR_s _ _ _
          · rw [upR_n _ _ e, up_n _ _ _ (by omega)]) rfl rfl rfl hC
      · omega
    · have h0' : 0 < cntB (fun i => decide (¬ σ 117 (40 + 70 * gn + (x + i)) = nI kn)) (y + 1 - x) := by omega
      have e7 : ∀ q, 116 ≤ q → upR (remS σ j k) 7 (fillR (σ 7) (gn * 70 + x) (gn * 70 + x + (y + 1 - x)) (nI kn)) q = σ q := fun q hq => by
        rw [upR_n _ _ (by omega), remS_hi _ u2 hq]
      have e117 := e7 117 (by omega)
      have bp := b_planC (G := G) (d := 10) h40 hn6 hgn hxy hy g5 (by rw [hcc]; exact h0') u5 u2 u4 u1
      rw [hcc] at bp
      have mp := m_planC (G := G) (d := 8) (σ := upR (remS σ j k) 7 (fillR (σ 7) (gn * 70 + x) (gn * 70 + x + (y + 1 - x)) (nI kn))) (k := k) (n := n) (g := gn) (a := x) (b := y) (kind := nI kn) (by rw [e117]; exact h23) hn6 hgn hxy hy g5 (by rw [e117]; exact h0') (by rw [e7 116 (by omega)]; exact u3) u1
      rw [e117] at mp
      refine ⟨_, _, _, bp, mp, ?_⟩
      have hq := Rel.rem (τ := upR (remS σ j k) 7 (fillR (σ 7) (gn * 70 + x) (gn * 70 + x + (y + 1 - x)) (nI kn))) hT hC hU hP hF (fun q hq => by rw [upR_n _ _ (by omega)]) e7 (f := fillR (σ 117) (40 + 70 * gn + x) (40 + 70 * gn + x + (y + 1 - x)) (nI kn)) (n2 := n) (c2 := c) ?_
      · rw [e117] at hq
        exact hq
      · have q2 : ∀ a, 4 ≤ a → a < 12 → remS σ j k a = σ a := fun a h1 h2 => remS_far _ h1 (by omega)
        show TRf (remS σ j k 4) (remS σ j k 5) (remS σ j k 6) (fillR (σ 7) _ _ _) (remS σ j k 8) (remS σ j k 9) (remS σ j k 10) (remS σ j k 11) _ _ _
        rw [q2 4 (by omega) (by omega), q2 5 (by omega) (by omega), q2 6 (by omega) (by omega), q2 8 (by omega) (by omega), q2 9 (by omega) (by omega), q2 10 (by omega) (by omega), q2 11 (by omega) (by omega)]
        exact hpl
  · have hA := Bool.not_eq_true _ ▸ hA
    exact ⟨-1, σ, _, b_planA (d := 10) g a b kind (by rw [h40]; exact hA), m_planA (d := 8) g a b kind h23 (by omega) (by rw [h23]; exact hA), h.thrown _⟩
theorem op_undo (h : Rel σ) : Same G mX4_undo mX5_undo [] σ := by
  obtain ⟨n, c, k, j, m, hT, hC, hU, hP, hF⟩ := id h
  obtain ⟨u1, u2, u3, u4, u5, u6⟩ := id hU
  cases k with
  | zero => exact ⟨-1, σ, _, b_undoA (d := 11) u4, m_undoA (d := 12) u3, h.thrown _⟩
  | succ k =>
    have hm : (j + 7) % 8 < 8 := Nat.mod_lt _ (by decide)
    have hp := pastB_ge ((j + 7) % 8)
    obtain ⟨n2, c2, hT2⟩ := u6 k (by omega)
    have es : (j + 8 - (k + 1) + k) % 8 = (j + 7) % 8 := by omega
    rw [es] at hT2
    have e7 : ∀ a, 12 ≤ a → copyT (up (up σ 3 2 (nI k)) 3 3 (nI ((j + 7) % 8))) 4 (pastB ((j + 7) % 8)) a = σ a := fun a ha => by
      rw [copyT_far _ (by omega), up_n _ _ _ (by omega), up_n _ _ _ (by omega)]
    have e3 : copyT (up (up σ 3 2 (nI k)) 3 3 (nI ((j + 7) % 8))) 4 (pastB ((j + 7) % 8)) 3 = upd (upd (σ 3) 2 (nI k)) 3 (nI ((j + 7) % 8)) := by
      rw [copyT_far _ (by omega)]; simp [up, upR]
    have mu := m_undoB (G := G) (d := 12) (σ := copyT (up (up σ 3 2 (nI k)) 3 3 (nI ((j + 7) % 8))) 4 (pastB ((j + 7) % 8))) (k := k) (by rw [e7 116 (by omega)]; exact u3) (by omega)
    refine ⟨nI k, _, _, b_undoB (d := 11) u5 u2 u4 (by omega), mu, n2, c2, k, (j + 7) % 8, m, ?_, ?_, ?_, ?_, ?_⟩
    · have h1 : TR (up (up σ 3 2 (nI k)) 3 3 (nI ((j + 7) % 8))) (pastB ((j + 7) % 8)) (fun x => σ 118 (460 * k + x)) n2 c2 := hT2.rows (fun q hq => by rw [up_n _ _ _ (by omega), up_n _ _ _ (by omega)])
      have h2 := TR_copy (b := 4) h1 (by omega)
      refine TRf.congr (TR.rows h2 (fun q hq => ?_)) (fun x hx => ?_)
      · rw [upR_n _ _ (by omega), up_n _ _ _ (by omega), up_n _ _ _ (by omega)]
      · rw [upR_s, e7 118 (by omega)]
        simp only [va_cpy]
        rw [if_pos (by omega)]
        congr 1
    · obtain ⟨c1, c2, c3, c4, c5⟩ := hC
      refine ⟨?_, ?_, ?_, ?_, ?_⟩
      · show copyT (up (up σ 3 2 (nI k)) 3 3 (nI ((j + 7) % 8))) 4 (pastB ((j + 7) % 8)) 116 23 = _; rw [e7 116 (by omega)]; exact c1
      · show copyT (up (up σ 3 2 (nI k)) 3 3 (nI ((j + 7) % 8))) 4 (pastB ((j + 7) % 8)) 116 24 = _; rw [e7 116 (by omega)]; exact c2
      · show copyT (up (up σ 3 2 (nI k)) 3 3 (nI ((j + 7) % 8))) 4 (pastB ((j + 7) % 8)) 127 0 = _; rw [e7 127 (by omega)]; exact c3
      · show copyT (up (up σ 3 2 (nI k)) 3 3 (nI ((j + 7) % 8))) 4 (pastB ((j + 7) % 8)) 37 0 = _ ∧ copyT (up (up σ 3 2 (nI k)) 3 3 (nI ((j + 7) % 8))) 4 (pastB ((j + 7) % 8)) 38 0 = _ ∧ ∀ q, 70 ≤ q → copyT (up (up σ 3 2 (nI k)) 3 3 (nI ((j + 7) % 8))) 4 (pastB ((j + 7) % 8)) 33 q = 0
        rw [e7 37 (by omega), e7 38 (by omega), e7 33 (by omega)]; exact c4
      · show copyT (up (up σ 3 2 (nI k)) 3 3 (nI ((j + 7) % 8))) 4 (pastB ((j + 7) % 8)) 48 0 = _ ∧ copyT (up (up σ 3 2 (nI k)) 3 3 (nI ((j + 7) % 8))) 4 (pastB ((j + 7) % 8)) 49 0 = _ ∧ ∀ q, 70 ≤ q → copyT (up (up σ 3 2 (nI k)) 3 3 (nI ((j + 7) % 8))) 4 (pastB ((j + 7) % 8)) 44 q = 0
        rw [e7 48 (by omega), e7 49 (by omega), e7 44 (by omega)]; exact c5
    · refine ⟨by omega, hm, rfl, ?_, ?_, fun i hi => ?_⟩
      · show copyT (up (up σ 3 2 (nI k)) 3 3 (nI ((j + 7) % 8))) 4 (pastB ((j + 7) % 8)) 3 2 = _; rw [e3]; simp [upd]
      · show copyT (up (up σ 3 2 (nI k)) 3 3 (nI ((j + 7) % 8))) 4 (pastB ((j + 7) % 8)) 3 3 = _; rw [e3]; simp [upd]
      · obtain ⟨n3, c3, hT3⟩ := u6 i (by omega)
        have e5 : ((j + 7) % 8 + 8 - k + i) % 8 = (j + 8 - (k + 1) + i) % 8 := by omega
        rw [e5]
        refine ⟨n3, c3, TRf.congr (TR.rows hT3 (fun q hq => ?_)) (fun x hx => ?_)⟩
        · have hp2 := pastB_ge ((j + 8 - (k + 1) + i) % 8)
          have hm2 : (j + 8 - (k + 1) + i) % 8 < 8 := Nat.mod_lt _ (by decide)
          have hp3 : pastB ((j + 8 - (k + 1) + i) % 8) ≤ 108 := by unfold pastB; omega
          rw [upR_n _ _ (by omega), up_n _ _ _ (by omega), up_n _ _ _ (by omega), e7 _ (by omega)]
        · show _ = copyT (up (up σ 3 2 (nI k)) 3 3 (nI ((j + 7) % 8))) 4 (pastB ((j + 7) % 8)) 118 _
          rw [e7 118 (by omega)]
    · obtain ⟨p1, p2, p3, p4⟩ := hP
      refine ⟨p1, ?_, ?_, fun i hi => ?_⟩
      · show copyT (up (up σ 3 2 (nI k)) 3 3 (nI ((j + 7) % 8))) 4 (pastB ((j + 7) % 8)) 14 1 = _; rw [e7 14 (by omega)]; exact p2
      · show copyT (up (up σ 3 2 (nI k)) 3 3 (nI ((j + 7) % 8))) 4 (pastB ((j + 7) % 8)) 116 6 = _; rw [e7 116 (by omega)]; exact p3
      · show copyT (up (up σ 3 2 (nI k)) 3 3 (nI ((j + 7) % 8))) 4 (pastB ((j + 7) % 8)) 15 i = copyT (up (up σ 3 2 (nI k)) 3 3 (nI ((j + 7) % 8))) 4 (pastB ((j + 7) % 8)) 120 i ∧ isByte (copyT (up (up σ 3 2 (nI k)) 3 3 (nI ((j + 7) % 8))) 4 (pastB ((j + 7) % 8)) 15 i)
        rw [e7 15 (by omega), e7 120 (by omega)]; exact p4 i hi
    · show copyT (up (up σ 3 2 (nI k)) 3 3 (nI ((j + 7) % 8))) 4 (pastB ((j + 7) % 8)) 13 3 = copyT (up (up σ 3 2 (nI k)) 3 3 (nI ((j + 7) % 8))) 4 (pastB ((j + 7) % 8)) 116 7
      rw [e7 13 (by omega), e7 116 (by omega)]; exact hF
theorem op_count (h : Rel σ) (w : Int32) : Same G mX4_count mX5_count [.int w] σ := by
  obtain ⟨n, c, k, j, m, hT, hC, hU, hP, hF⟩ := id h
  by_cases h1 : inR w (nI 10) (nI 15) = true
  · have h1' := h1
    simp only [inR, Bool.and_eq_true, decide_eq_true_eq] at h1'
    obtain ⟨q, hq, e⟩ := nI_ex (x := w) (n := 15) (by decide) (Int32.le_trans (nI_le (Nat.zero_le 10) (by decide)) h1'.1) h1'.2
    subst e
    have h10 := (nI_le_iff (a := 10) (b := q) (by decide) (by omega)).mp h1'.1
    obtain ⟨i, rfl⟩ : ∃ i, q = 10 + i := ⟨q - 10, by omega⟩
    exact ⟨_, σ, _, b_count10 (d := 11) (k := i) (by omega), by rw [show σ 10 i = σ 117 i from hT.2.2.2.2.1 i (by omega)]; exact m_count10 (d := 11) (by omega), h.thrown _⟩
  · have h1 := Bool.not_eq_true _ ▸ h1
    by_cases h2 : inR w (nI 20) (nI 27) = true
    · have h2' := h2
      simp only [inR, Bool.and_eq_true, decide_eq_true_eq] at h2'
      obtain ⟨q, hq, e⟩ := nI_ex (x := w) (n := 27) (by decide) (Int32.le_trans (nI_le (Nat.zero_le 20) (by decide)) h2'.1) h2'.2
      subst e
      have h20 := (nI_le_iff (a := 20) (b := q) (by decide) (by omega)).mp h2'.1
      obtain ⟨i, rfl⟩ : ∃ i, q = 20 + i := ⟨q - 20, by omega⟩
      exact ⟨_, σ, _, b_count20 (d := 11) (k := i) (by omega), by rw [show σ 11 i = σ 117 (6 + i) from hT.2.2.2.1 i (by omega)]; exact m_count20 (d := 11) (by omega), h.thrown _⟩
    · have h2 := Bool.not_eq_true _ ▸ h2
      by_cases e0 : w = nI 0
      · subst e0
        exact ⟨_, σ, _, b_count0 (d := 11), by rw [show σ 4 0 = σ 117 23 from hT.2.1.trans hT.1.2.2.1.symm]; exact m_count0 (d := 11), h.thrown _⟩
      · by_cases e1 : w = nI 1
        · subst e1
          exact ⟨_, σ, _, b_count1 (d := 11), by rw [show σ 4 4 = σ 117 14 from hT.2.2.1.trans hT.1.2.2.2.1.symm]; exact m_count1 (d := 11), h.thrown _⟩
        · by_cases e2 : w = nI 2
          · subst e2
            exact ⟨_, σ, _, b_count2 (d := 11), by rw [show σ 14 1 = σ 116 6 from hP.2.1.trans hP.2.2.1.symm]; exact m_count2 (d := 11), h.thrown _⟩
          · by_cases e3 : w = nI 3
            · subst e3
              exact ⟨_, σ, _, b_count3 (d := 11), by rw [show σ 3 2 = σ 116 4 from hU.2.2.2.1.trans hU.2.2.1.symm]; exact m_count3 (d := 11), h.thrown _⟩
            · exact ⟨-1, σ, _, b_countX (d := 11) w h1 h2 e0 e1 e2 e3, m_countX (d := 11) w h1 h2 e0 e1 e2 e3, h.thrown _⟩
theorem isByte_nar (x : Int32) : isByte (vp_nar .byte x) := by
  show isByte x.toInt8.toInt32
  unfold isByte
  rw [Int8.toInt_toInt32]
  have h1 := Int8.le_toInt x.toInt8
  have h2 := Int8.toInt_lt x.toInt8
  omega
theorem op_feed (h : Rel σ) (a b c e f : Int32) : Same G mX4_feed mX5_feed [.int a, .int b, .int c, .int e, .int f] σ := by
  obtain ⟨n, cc, k, j, m, hT, hC, hU, hP, hF⟩ := id h
  obtain ⟨p1, p2, p3, p4⟩ := hP
  by_cases hf : m + 20 ≤ 400
  · refine ⟨nI (m + 20), _, _, b_feedB (d := 11) a b c e f p2 hf, m_feedB (d := 11) a b c e f p3 hf, n, cc, k, j, m + 20, ?_, hC, hU.frame (fun q h1 h2 => ?_) rfl rfl rfl, ⟨hf, rfl, rfl, fun i hi => ?_⟩, hF⟩
    · exact TR.rows hT (fun q hq => by rw [up_n _ _ _ (by omega), upR_n _ _ (by omega), up_n _ _ _ (by omega), up_n _ _ _ (by omega), upR_n _ _ (by omega)])
    · rw [up_n _ _ _ (by omega), upR_n _ _ (by omega), up_n _ _ _ (by omega), up_n _ _ _ (by omega), upR_n _ _ (by omega)]
    · show put4 (put4 (put4 (put4 (put4 (σ 15) m a) (m + 4) b) (m + 8) c) (m + 12) e) (m + 16) f i = put4 (put4 (put4 (put4 (put4 (σ 120) m a) (m + 4) b) (m + 8) c) (m + 12) e) (m + 16) f i ∧ isByte (put4 (put4 (put4 (put4 (put4 (σ 15) m a) (m + 4) b) (m + 8) c) (m + 12) e) (m + 16) f i)
      have step : ∀ (F1 F2 : Nat → Int32) (q : Nat) (w : Int32), (∀ i, i < q → F1 i = F2 i ∧ isByte (F1 i)) → ∀ i, i < q + 4 → put4 F1 q w i = put4 F2 q w i ∧ isByte (put4 F1 q w i) := by
        intro F1 F2 q w hq i hi
        simp only [put4, upd]
        by_cases e3 : i = q + 3
        · rw [if_pos e3, if_pos e3]; exact ⟨rfl, isByte_nar _⟩
        · rw [if_neg e3, if_neg e3]
          by_cases e2 : i = q + 2
          · rw [if_pos e2, if_pos e2]; exact ⟨rfl, isByte_nar _⟩
          · rw [if_neg e2, if_neg e2]
            by_cases e1 : i = q + 1
            · rw [if_pos e1, if_pos e1]; exact ⟨rfl, isByte_nar _⟩
            · rw [if_neg e1, if_neg e1]
              by_cases e0 : i = q
              · rw [if_pos e0, if_pos e0]; exact ⟨rfl, isByte_nar _⟩
              · rw [if_neg e0, if_neg e0]; exact hq i (by omega)
      exact step _ _ (m + 16) f (step _ _ (m + 12) e (step _ _ (m + 8) c (step _ _ (m + 4) b (step _ _ m a p4)))) i hi
  · exact ⟨-1, σ, _, b_feedA (d := 11) a b c e f p2 p1 (by omega), m_feedA (d := 11) a b c e f p3 p1 (by omega), h.thrown _⟩
theorem op_end (h : Rel σ) (x : Int32) : Same G mX4_end mX5_end [.int x] σ := by
  obtain ⟨n, cc, k, j, m, hT, hC, hU, hP, hF⟩ := id h
  obtain ⟨p1, p2, p3, p4⟩ := hP
  by_cases hA : inR x (nI 0) (nI m) = true
  · obtain ⟨q, hq, e⟩ := inR_n (by omega) hA
    subst e
    refine ⟨nI 1, _, _, b_endB (d := 12) (nI q) (by rw [p2]; exact hA), m_endB (d := 11) (nI q) (by show inR (nI q) (nI 0) (σ 116 6) = true; rw [p3]; exact hA), n, cc, k, j, q, ?_, hC, hU.frame (fun a h1 h2 => ?_) rfl rfl rfl, ⟨by omega, rfl, rfl, fun i hi => p4 i (by omega)⟩, hF⟩
    · exact TR.rows hT (fun a ha => by rw [up_n _ _ _ (by omega), up_n _ _ _ (by omega), up_n _ _ _ (by omega)])
    · rw [up_n _ _ _ (by omega), up_n _ _ _ (by omega), up_n _ _ _ (by omega)]
  · have hA := Bool.not_eq_true _ ▸ hA
    exact ⟨nI 0, σ, _, b_endA (d := 12) x (by rw [p2]; exact hA), m_endA (d := 11) x (by rw [p3]; exact hA), h.thrown _⟩
theorem op_fault (h : Rel σ) : Same G mX4_fault mX5_fault [] σ := by
  obtain ⟨n, cc, k, j, m, hT, hC, hU, hP, hF⟩ := id h
  exact ⟨_, σ, _, b_fault (d := 12), by rw [hF]; exact m_fault (d := 12), h.thrown _⟩
end OPS
