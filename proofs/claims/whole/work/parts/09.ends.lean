
/-! ===== truth values, ends ===== -/
def bI (b : Bool) : Int32 := if b = true then 1 else 0
theorem bI_t : bI true = nI 1 := rfl
theorem bI_f : bI false = nI 0 := rfl
theorem bI_01 (b : Bool) : bI b = 0 ∨ bI b = 1 := by cases b <;> simp [bI]
theorem bI_0 {b : Bool} : bI b = 0 ↔ b = false := by cases b <;> simp [bI]
section EN
variable {G : mG} {I : mI} {d pc : Nat} {lo : List (Option Value)} {st : List Value} {σ σ2 : mS} {Q : Option Value → mS → Prop}
theorem F_if_eqB {b : Bool} {off : Int} {tgt : Nat} (hd : decode I.2.1 pc = .ok (.ifCond .eq off, 3)) (ht : (pc : Int) + off = (tgt : Int)) (kt : b = false → mF G I d tgt lo st σ Q) (kf : b = true → mF G I d (pc + 3) lo st σ Q) : mF G I d pc lo (.int (bI b) :: st) σ Q := F_if_eq hd ht (fun h => kt (bI_0.mp h)) (fun h => kf (by cases b with | true => rfl | false => exact absurd rfl h))
theorem F_if_neB {b : Bool} {off : Int} {tgt : Nat} (hd : decode I.2.1 pc = .ok (.ifCond .ne off, 3)) (ht : (pc : Int) + off = (tgt : Int)) (kt : b = true → mF G I d tgt lo st σ Q) (kf : b = false → mF G I d (pc + 3) lo st σ Q) : mF G I d pc lo (.int (bI b) :: st) σ Q := F_if_ne hd ht (fun h => kt (by cases b with | true => rfl | false => exact absurd rfl h)) (fun h => kf (bI_0.mp h))
theorem Qr {v w : Int32} (hQ : Q (some (.int v)) σ) (h : w = v) (hs : σ2 = σ) : Q (some (.int w)) σ2 := by rw [h, hs]; exact hQ
theorem Qb1 {b : Bool} (hQ : Q (some (.int (bI b))) σ) (h : b = true) : Q (some (.int (nI 1))) σ := by rw [h] at hQ; exact hQ
theorem Qb0 {b : Bool} (hQ : Q (some (.int (bI b))) σ) (h : b = false) : Q (some (.int (nI 0))) σ := by rw [h] at hQ; exact hQ
theorem Qn {r : Option Value} (hQ : Q r σ) (hs : σ2 = σ) : Q r σ2 := by rw [hs]; exact hQ
theorem Qv {r r2 : Option Value} (hQ : Q r σ) (hr : r2 = r) (hs : σ2 = σ) : Q r2 σ2 := by rw [hr, hs]; exact hQ
end EN
def inR (v a b : Int32) : Bool := decide (a ≤ v) && decide (v ≤ b)
theorem nI_ex {x : Int32} {n : Nat} (hn : n < 2 ^ 31) (h0 : nI 0 ≤ x) (h1 : x ≤ nI n) : ∃ j, j ≤ n ∧ x = nI j := by
  refine nI_of2 (M := nI n) (nI_toInt hn) ?_ h1
  rw [Int32.not_lt]; exact h0
theorem inR_n {v : Int32} {n : Nat} (hn : n < 2 ^ 31) (h : inR v (nI 0) (nI n) = true) : ∃ j, j ≤ n ∧ v = nI j := by
  simp only [inR, Bool.and_eq_true, decide_eq_true_eq] at h
  exact nI_ex hn h.1 h.2
theorem inR_nI {a b j : Nat} (hb : b < 2 ^ 31) (ha : a < 2 ^ 31) (hj : j < 2 ^ 31) : inR (nI j) (nI a) (nI b) = (decide (a ≤ j) && decide (j ≤ b)) := by
  simp only [inR]
  rw [decide_eq_decide.mpr (nI_le_iff ha hj), decide_eq_decide.mpr (nI_le_iff hj hb)]
theorem lt_nI {x : Int32} {n : Nat} (hn : n + 1 < 2 ^ 31) : x < nI (n + 1) ↔ x ≤ nI n := by
  rw [Int32.lt_iff_toInt_lt, Int32.le_iff_toInt_le, nI_toInt hn, nI_toInt (by omega)]; omega

section CR
variable {G : mG} {I : mI} {d pc : Nat} {lo : List (Option Value)} {st : List Value} {σ : mS} {Q : Option Value → mS → Prop}
theorem F_cV_r_v {a ci kd i d1 : Nat} {x1 : Nat} {J : mI} {fs : List (Option Nat)} {r0 : vw_C}  {σ1 : mS} (hC : mV G J d1 (.ref a :: [.ref x1]) σ none σ1) (hd : decode I.2.1 pc = .ok (.invokevirtual i, 3)) (ho : mOwn.getD I.2.2.2.2.1 "" = I.1.cls) (hf : (mCa I.2.2.2.2.1).lookup i = some (kd, J)) (hkd : kd = 1 ∨ kd = 4) (hs : sh a = some (.inl (ci, fs))) (hci : mCl[ci]? = some r0) (hcl : r0.1 = J.1.cls) (hnp : 1 = J.2.2.2.2.2) (hml : 1 + 1 ≤ J.2.2.1 ∧ J.2.2.1 ≤ 40) (hst : (st.map fun v => v.category).sum ≤ 8) (hdd : d1 < d) (k : mF G I d (pc + 3) lo st σ1 Q) : mF G I d pc lo (.ref x1 :: .ref a :: st) σ Q := F_callV hC hd ho hf hkd hs hci hcl hnp hml (by intro v hv; simp at hv; rw [hv]; rfl) hst hdd k
theorem F_cV_r_i {a ci kd i d1 : Nat} {x1 : Nat} {J : mI} {fs : List (Option Nat)} {r0 : vw_C} {v : Value} {σ1 : mS} (hC : mV G J d1 (.ref a :: [.ref x1]) σ (some v) σ1) (hd : decode I.2.1 pc = .ok (.invokevirtual i, 3)) (ho : mOwn.getD I.2.2.2.2.1 "" = I.1.cls) (hf : (mCa I.2.2.2.2.1).lookup i = some (kd, J)) (hkd : kd = 1 ∨ kd = 4) (hs : sh a = some (.inl (ci, fs))) (hci : mCl[ci]? = some r0) (hcl : r0.1 = J.1.cls) (hnp : 1 = J.2.2.2.2.2) (hml : 1 + 1 ≤ J.2.2.1 ∧ J.2.2.1 ≤ 40) (hst : (st.map fun v => v.category).sum ≤ 8) (hdd : d1 < d) (k : mF G I d (pc + 3) lo (v :: st) σ1 Q) : mF G I d pc lo (.ref x1 :: .ref a :: st) σ Q := F_callV hC hd ho hf hkd hs hci hcl hnp hml (by intro v hv; simp at hv; rw [hv]; rfl) hst hdd k
theorem F_cV_riii_v {a ci kd i d1 : Nat} {x1 : Nat} {x2 : Int32} {x3 : Int32} {x4 : Int32} {J : mI} {fs : List (Option Nat)} {r0 : vw_C}  {σ1 : mS} (hC : mV G J d1 (.ref a :: [.ref x1, .int x2, .int x3, .int x4]) σ none σ1) (hd : decode I.2.1 pc = .ok (.invokevirtual i, 3)) (ho : mOwn.getD I.2.2.2.2.1 "" = I.1.cls) (hf : (mCa I.2.2.2.2.1).lookup i = some (kd, J)) (hkd : kd = 1 ∨ kd = 4) (hs : sh a = some (.inl (ci, fs))) (hci : mCl[ci]? = some r0) (hcl : r0.1 = J.1.cls) (hnp : 4 = J.2.2.2.2.2) (hml : 4 + 1 ≤ J.2.2.1 ∧ J.2.2.1 ≤ 40) (hst : (st.map fun v => v.category).sum ≤ 8) (hdd : d1 < d) (k : mF G I d (pc + 3) lo st σ1 Q) : mF G I d pc lo (.int x4 :: .int x3 :: .int x2 :: .ref x1 :: .ref a :: st) σ Q := F_callV hC hd ho hf hkd hs hci hcl hnp hml (by intro v hv; simp at hv; rcases hv with rfl | rfl | rfl | rfl <;> rfl) hst hdd k
end CR
theorem cpy0 (f g : Nat → Int32) (sp dp : Nat) : va_cpy f g sp dp 0 = g := by
  funext j; simp only [va_cpy]; rw [if_neg (by omega)]
theorem cpyS (f g : Nat → Int32) (sp dp n : Nat) : upd (va_cpy f g sp dp n) (dp + n) (f (sp + n)) = va_cpy f g sp dp (n + 1) := by
  funext j; simp only [va_cpy, upd]
  by_cases h1 : j = dp + n
  · rw [if_pos h1, if_pos (by omega)]; congr 1; omega
  · rw [if_neg h1]
    by_cases h2 : dp ≤ j ∧ j < dp + n
    · rw [if_pos h2, if_pos (by omega)]
    · rw [if_neg h2, if_neg (by omega)]
