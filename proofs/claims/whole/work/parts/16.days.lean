/-! ===== day by day: what comes out, as numbers ===== -/
/-- settings, what is planned a day, days in camps, fit and tired as day 0 begins -/
abbrev sP : Type := (Nat → Int32) × (Nat → Int32) × (Nat → Bool) × Int32 × Int32
def sLd (p : sP) (n : Nat) (S : Nat → Int32) (h : Nat) : Int32 :=
  if n < h then nI 0 else
    if p.1 6 - (S n - S (n - n % 7)) < (if p.2.2.1 n = true then p.2.1 n * p.1 7 / nI 100 else p.2.1 n) then p.1 6 - (S n - S (n - n % 7)) else (if p.2.2.1 n = true then p.2.1 n * p.1 7 / nI 100 else p.2.1 n)
def sIj (p : sP) (n : Nat) (S : Nat → Int32) (h : Nat) : Bool :=
  !decide (n < h) && decide (20 ≤ n) && decide (p.1 4 * (S (n + 1) - S (n + 1 - 28)) < (S (n + 1) - S (n + 1 - 7)) * nI 400)
def sSt (p : sP) : Nat → (Nat → Int32) × Int32 × Int32 × Nat
  | 0 => (fun _ => nI 0, p.2.2.2.1, p.2.2.2.2, 0)
  | n + 1 =>
    (upd (sSt p n).1 (n + 1) ((sSt p n).1 n + sLd p n (sSt p n).1 (sSt p n).2.2.2),
     ((sSt p n).2.1 - (sSt p n).2.1 / p.1 0) + nI 10 * sLd p n (sSt p n).1 (sSt p n).2.2.2,
     ((sSt p n).2.2.1 - (sSt p n).2.2.1 / p.1 1) + nI 10 * sLd p n (sSt p n).1 (sSt p n).2.2.2,
     if sIj p n (upd (sSt p n).1 (n + 1) ((sSt p n).1 n + sLd p n (sSt p n).1 (sSt p n).2.2.2)) (sSt p n).2.2.2 = true then n + 1 + (p.1 5).toNatClampNeg else (sSt p n).2.2.2)
def sSum (p : sP) (k : Nat) : Int32 := (sSt p k).1 k
def sFit (p : sP) (k : Nat) : Int32 := (sSt p k).2.1
def sTir (p : sP) (k : Nat) : Int32 := (sSt p k).2.2.1
def sHl (p : sP) (k : Nat) : Nat := (sSt p k).2.2.2
theorem sSt_le (p : sP) : ∀ n k, k ≤ n → (sSt p n).1 k = sSum p k := by
  intro n
  induction n with
  | zero =>
    intro k hk
    have : k = 0 := by omega
    subst this
    rfl
  | succ n ih =>
    intro k hk
    by_cases h : k = n + 1
    · subst h; rfl
    · have h1 : (sSt p (n + 1)).1 k = (sSt p n).1 k := by simp only [sSt, upd]; rw [if_neg h]
      rw [h1]
      exact ih k (by omega)
/-- the load of a day, whether one is injured on it -/
def sLoad (p : sP) (n : Nat) : Int32 := sLd p n (sSum p) (sHl p n)
def sInj (p : sP) (n : Nat) : Bool := sIj p n (sSum p) (sHl p n)
theorem sLd_eq (p : sP) (n : Nat) (h : Nat) : sLd p n (sSt p n).1 h = sLd p n (sSum p) h := by
  simp only [sLd]
  rw [sSt_le p n n (Nat.le_refl n), sSt_le p n (n - n % 7) (Nat.sub_le _ _)]
theorem sSum_0 (p : sP) : sSum p 0 = nI 0 := rfl
theorem sSum_s (p : sP) (n : Nat) : sSum p (n + 1) = sSum p n + sLoad p n := by
  show upd (sSt p n).1 (n + 1) _ (n + 1) = _
  simp only [upd, if_true]
  rw [sLd_eq]
  rfl
theorem sFit_s (p : sP) (n : Nat) : sFit p (n + 1) = (sFit p n - sFit p n / p.1 0) + nI 10 * sLoad p n := by
  show ((sSt p n).2.1 - (sSt p n).2.1 / p.1 0) + nI 10 * _ = _
  rw [sLd_eq]
  rfl
theorem sTir_s (p : sP) (n : Nat) : sTir p (n + 1) = (sTir p n - sTir p n / p.1 1) + nI 10 * sLoad p n := by
  show ((sSt p n).2.2.1 - (sSt p n).2.2.1 / p.1 1) + nI 10 * _ = _
  rw [sLd_eq]
  rfl
theorem sIj_eq (p : sP) (n : Nat) (h : Nat) : sIj p n (upd (sSt p n).1 (n + 1) ((sSt p n).1 n + sLd p n (sSt p n).1 (sSt p n).2.2.2)) h = sIj p n (sSum p) h := by
  have e : ∀ k, k ≤ n + 1 → upd (sSt p n).1 (n + 1) ((sSt p n).1 n + sLd p n (sSt p n).1 (sSt p n).2.2.2) k = sSum p k := fun k hk => sSt_le p (n + 1) k hk
  simp only [sIj]
  rw [e (n + 1) (Nat.le_refl _), e (n + 1 - 28) (Nat.sub_le _ _), e (n + 1 - 7) (Nat.sub_le _ _)]
theorem sHl_0 (p : sP) : sHl p 0 = 0 := rfl
theorem sHl_s (p : sP) (n : Nat) : sHl p (n + 1) = if sInj p n = true then n + 1 + (p.1 5).toNatClampNeg else sHl p n := by
  show (if sIj p n (upd (sSt p n).1 (n + 1) ((sSt p n).1 n + sLd p n (sSt p n).1 (sSt p n).2.2.2)) (sSt p n).2.2.2 = true then n + 1 + (p.1 5).toNatClampNeg else (sSt p n).2.2.2) = _
  rw [sIj_eq]
  rfl
/-- the same settings, plans and camps for the first n days -/
def sEq (p q : sP) (n : Nat) : Prop := (∀ k, k < 8 → p.1 k = q.1 k) ∧ (∀ k, k < n → p.2.1 k = q.2.1 k ∧ p.2.2.1 k = q.2.2.1 k) ∧ p.2.2.2.1 = q.2.2.2.1 ∧ p.2.2.2.2 = q.2.2.2.2
theorem sSt_congr {p q : sP} {n : Nat} (h : sEq p q n) : sSt p n = sSt q n := by
  induction n with
  | zero => simp only [sSt]; rw [h.2.2.1, h.2.2.2]
  | succ n ih =>
    have ih := ih ⟨h.1, fun k hk => h.2.1 k (by omega), h.2.2⟩
    have e1 : ∀ S hh, sLd p n S hh = sLd q n S hh := by
      intro S hh
      simp only [sLd]
      rw [(h.2.1 n (by omega)).1, (h.2.1 n (by omega)).2, h.1 6 (by omega), h.1 7 (by omega)]
    have e2 : ∀ S hh, sIj p n S hh = sIj q n S hh := by
      intro S hh
      simp only [sIj]
      rw [h.1 4 (by omega)]
    simp only [sSt]
    rw [ih, e1, e2, h.1 0 (by omega), h.1 1 (by omega), h.1 5 (by omega)]
theorem sEq.mono {p q : sP} {n k : Nat} (h : sEq p q n) (hk : k ≤ n) : sEq p q k := ⟨h.1, fun j hj => h.2.1 j (by omega), h.2.2⟩
theorem sEq.fit {p q : sP} {n : Nat} (h : sEq p q n) : sFit p n = sFit q n := by unfold sFit; rw [sSt_congr h]
theorem sEq.tir {p q : sP} {n : Nat} (h : sEq p q n) : sTir p n = sTir q n := by unfold sTir; rw [sSt_congr h]
theorem sEq.hl {p q : sP} {n : Nat} (h : sEq p q n) : sHl p n = sHl q n := by unfold sHl; rw [sSt_congr h]
theorem sEq.sum {p q : sP} {n : Nat} (h : sEq p q n) : sSum p n = sSum q n := by unfold sSum; rw [sSt_congr h]
theorem sEq.load {p q : sP} {n k : Nat} (h : sEq p q n) (hk : k < n) : sLoad p k = sLoad q k := by
  have h1 := (h.mono (show k ≤ n by omega)).sum
  have h2 := (h.mono (show k - k % 7 ≤ n by omega)).sum
  have h3 := (h.mono (show k ≤ n by omega)).hl
  simp only [sLoad, sLd]
  rw [h1, h2, h3, (h.2.1 k hk).1, (h.2.1 k hk).2, h.1 6 (by omega), h.1 7 (by omega)]
theorem sEq.inj {p q : sP} {n k : Nat} (h : sEq p q n) (hk : k < n) : sInj p k = sInj q k := by
  simp only [sInj, sIj]
  rw [(h.mono (show k + 1 ≤ n by omega)).sum, (h.mono (show k + 1 - 28 ≤ n by omega)).sum, (h.mono (show k + 1 - 7 ≤ n by omega)).sum, (h.mono (show k ≤ n by omega)).hl, h.1 4 (by omega)]
/-- form as a day ends -/
def sForm (p : sP) (n : Nat) : Int32 := p.1 2 * sFit p (n + 1) - p.1 3 * sTir p (n + 1)
theorem sEq.form {p q : sP} {n k : Nat} (h : sEq p q n) (hk : k < n) : sForm p k = sForm q k := by
  simp only [sForm]
  rw [(h.mono (show k + 1 ≤ n by omega)).fit, (h.mono (show k + 1 ≤ n by omega)).tir, h.1 2 (by omega), h.1 3 (by omega)]
theorem sEq.sym {p q : sP} {n : Nat} (h : sEq p q n) : sEq q p n := ⟨fun k hk => (h.1 k hk).symm, fun k hk => ⟨(h.2.1 k hk).1.symm, (h.2.1 k hk).2.symm⟩, h.2.2.1.symm, h.2.2.2.symm⟩
/-- what settings may be -/
def sOk (s : Nat → Int32) : Prop := ∀ k, k < 8 → inR (s k) (mLeast.getD k 0) (mMost.getD k 0) = true
theorem sOk_n {s : Nat → Int32} (h : sOk s) {k a b : Nat} (hk : k < 8) (ha : mLeast.getD k 0 = nI a) (hb : mMost.getD k 0 = nI b) (hab : b < 2 ^ 31) (haa : a < 2 ^ 31) : ∃ v, a ≤ v ∧ v ≤ b ∧ s k = nI v := by
  have h1 := h k hk
  rw [ha, hb] at h1
  simp only [inR, Bool.and_eq_true, decide_eq_true_eq] at h1
  have h0 : nI 0 ≤ s k := Int32.le_trans (nI_le (Nat.zero_le a) haa) h1.1
  obtain ⟨v, hv, e⟩ := nI_ex hab h0 h1.2
  refine ⟨v, ?_, hv, e⟩
  have := h1.1
  rw [e] at this
  exact (nI_le_iff haa (by omega)).mp this
theorem sHl_le (p : sP) (h : sOk p.1) : ∀ n, sHl p n ≤ n + 14 := by
  obtain ⟨v, -, hv, e⟩ := sOk_n h (k := 5) (a := 1) (b := 14) (by omega) (by decide +kernel) (by decide +kernel) (by decide) (by decide)
  intro n
  induction n with
  | zero => exact Nat.zero_le _
  | succ n ih =>
    rw [sHl_s]
    split
    · rw [e, nI_clamp (by omega)]; omega
    · omega
