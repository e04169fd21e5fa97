/-! ===== both sides read: the book in σB by tokens, the reference in σM by bytes ===== -/
def LB (τ : mS) (b : Nat → Int32) (L s i : Nat) (f : Nat → Int32) (n c : Nat) : Prop := TC τ b L s ∧ τ 13 2 = nI i ∧ i ≤ s ∧ τ 13 3 = nI 0 ∧ TR τ 19 f n c
def LM (τ : mS) (b : Nat → Int32) (L p : Nat) (f : Nat → Int32) : Prop := τ 116 8 = nI L ∧ (∃ a, a ≤ L ∧ τ 116 9 = nI a ∧ p = rn isBl b L a) ∧ τ 116 7 = nI 0 ∧ τ 117 = f ∧ τ 120 = b
def BFr (σ τ : mS) : Prop := ∀ z, z ≠ 13 → z < 19 ∨ 28 < z → τ z = σ z
def MFr (σ τ : mS) : Prop := (∀ z, z ≠ 116 → z ≠ 117 → z < 121 ∨ 123 < z → τ z = σ z) ∧ ∀ k, k ≠ 7 → k ≠ 9 → k ≠ 10 → k ≠ 14 → k ≠ 15 → k ≠ 16 → τ 116 k = σ 116 k
theorem BFr.trans {σ τ υ : mS} (h : BFr σ τ) (h2 : BFr τ υ) : BFr σ υ := fun z z1 z2 => (h2 z z1 z2).trans (h z z1 z2)
theorem MFr.trans {σ τ υ : mS} (h : MFr σ τ) (h2 : MFr τ υ) : MFr σ υ := ⟨fun z z1 z2 z3 => (h2.1 z z1 z2 z3).trans (h.1 z z1 z2 z3), fun k a b c e f g => (h2.2 k a b c e f g).trans (h.2 k a b c e f g)⟩
theorem MFr.rfl {σ : mS} : MFr σ σ := ⟨fun _ _ _ _ => Eq.refl _, fun _ _ _ _ _ _ _ => Eq.refl _⟩
theorem MFr.atS (σ : mS) (q p : Nat) : MFr σ (atS σ q p) := by
  refine ⟨fun z z1 z2 z3 => ?_, fun k a b c e f g => ?_⟩
  · show up (up σ 116 10 (nI p)) 116 9 (nI q) z = σ z
    rw [up_n _ _ _ z1, up_n _ _ _ z1]
  · show up (up σ 116 10 (nI p)) 116 9 (nI q) 116 k = σ 116 k
    rw [up_r _ _ _ b, up_r _ _ _ c]
theorem MFr.fault (σ : mS) (v : Int32) : MFr σ (up σ 116 7 v) := ⟨fun z z1 z2 z3 => up_n _ _ _ z1, fun k a b c e f g => up_r _ _ _ a⟩
theorem MFr.pl (σ : mS) (f : Nat → Int32) : MFr σ (upR σ 117 f) := ⟨fun z z1 z2 z3 => upR_n _ _ z2, fun k a b c e f g => by rw [upR_n _ _ (by decide)]⟩
theorem MFr.atq (σ : mS) (v : Int32) : MFr σ (up σ 116 9 v) := ⟨fun z z1 z2 z3 => up_n _ _ _ z1, fun k a b c e f g => up_r _ _ _ b⟩
theorem nv_lt (b : Nat → Int32) (p : Nat) : ∀ m, (∀ k, k < m → isDg (b (p + k)) = true) → nv b p m ≤ 10000 ∧ (m ≤ 4 → nv b p m < 10 ^ m) := by
  intro m
  induction m with
  | zero => intro _; exact ⟨Nat.zero_le _, fun _ => Nat.one_pos⟩
  | succ m ih =>
    intro h
    obtain ⟨h1, h2⟩ := ih (fun k hk => h k (by omega))
    by_cases h4 : m < 4
    · obtain ⟨t, t1, t2, et, ed⟩ := dg_n (h m (by omega))
      have h3 := h2 (by omega)
      have hp : 10 ^ (m + 1) ≤ 10 ^ 4 := Nat.pow_le_pow_right (by decide) (by omega)
      have e : nv b p (m + 1) < 10 ^ (m + 1) := by
        rw [nv_s _ _ h4, ed, Nat.pow_succ]
        omega
      exact ⟨by omega, fun _ => e⟩
    · rw [nv_big _ _ (by omega)]
      exact ⟨Nat.le_refl _, fun h => absurd h (by omega)⟩
theorem tkv_le (b : Nat → Int32) (L p : Nat) : tkv b L p ≤ 10000 := by
  unfold tkv
  split
  · exact (nv_lt b p _ (fun k hk => rn_in (L := L) (a := p) (by omega) (by omega))).1
  · omega
theorem nI_n1 {v : Nat} (h : v < 2 ^ 31) : ¬ nI v = (-1 : Int32) := fun z => by
  have := congrArg Int32.toInt z
  rw [nI_toInt h] at this
  have e2 : (-1 : Int32).toInt = -1 := by decide
  omega

def wcd (t : Nat) : Nat := [595572, 165497, 658670745, 263748, 409031, 590949, 7945904, 408612, 99760, 19636, 536622, 1279278].getD t 0
theorem wtok_inv {v t : Nat} (h : wtok v = t) (ht : t < 12) : v = wcd t := by
  unfold wtok at h
  by_cases e0 : v = 595572
  · rw [if_pos e0] at h; subst h; exact e0
  rw [if_neg e0] at h
  by_cases e1 : v = 165497
  · rw [if_pos e1] at h; subst h; exact e1
  rw [if_neg e1] at h
  by_cases e2 : v = 658670745
  · rw [if_pos e2] at h; subst h; exact e2
  rw [if_neg e2] at h
  by_cases e3 : v = 263748
  · rw [if_pos e3] at h; subst h; exact e3
  rw [if_neg e3] at h
  by_cases e4 : v = 409031
  · rw [if_pos e4] at h; subst h; exact e4
  rw [if_neg e4] at h
  by_cases e5 : v = 590949
  · rw [if_pos e5] at h; subst h; exact e5
  rw [if_neg e5] at h
  by_cases e6 : v = 7945904
  · rw [if_pos e6] at h; subst h; exact e6
  rw [if_neg e6] at h
  by_cases e7 : v = 408612
  · rw [if_pos e7] at h; subst h; exact e7
  rw [if_neg e7] at h
  by_cases e8 : v = 99760
  · rw [if_pos e8] at h; subst h; exact e8
  rw [if_neg e8] at h
  by_cases e9 : v = 19636
  · rw [if_pos e9] at h; subst h; exact e9
  rw [if_neg e9] at h
  by_cases e10 : v = 536622
  · rw [if_pos e10] at h; subst h; exact e10
  rw [if_neg e10] at h
  by_cases e11 : v = 1279278
  · rw [if_pos e11] at h; subst h; exact e11
  rw [if_neg e11] at h
  omega
theorem tkn_12 {b : Nat → Int32} {L p : Nat} (h : tkn b L p = 12) : p < L ∧ isLt (b p) = false ∧ isDg (b p) = true := by
  unfold tkn at h
  by_cases hp : p < L
  · rw [if_pos hp] at h
    by_cases hl : isLt (b p) = true
    · rw [if_pos hl] at h
      rcases wtok_ne (wv b p (rn isLt b L p - p)) with h2 | h2 <;> omega
    · rw [if_neg hl] at h
      by_cases hd : isDg (b p) = true
      · exact ⟨hp, Bool.not_eq_true _ ▸ hl, hd⟩
      · rw [if_neg hd] at h
        rcases sgn_ge (b p) with h2 | h2 | h2 | h2 <;> omega
  · rw [if_neg hp] at h
    omega
theorem tkn_n12 {b : Nat → Int32} {L p : Nat} (h : tkn b L p ≠ 12) : (decide (p < L) && isDg (b p)) = false := by
  by_cases hp : p < L
  · rw [decide_eq_true hp, Bool.true_and]
    cases hd : isDg (b p) with
    | false => rfl
    | true =>
      exfalso
      have hl : isLt (b p) = false := by
        obtain ⟨t, t1, t2, et, -⟩ := dg_n hd
        rw [et]
        simp only [isLt]
        rw [inR_nI (by decide) (by decide) (by omega), decide_eq_false (show ¬ 97 ≤ t by omega), Bool.false_and]
      refine h ?_
      unfold tkn
      rw [if_pos hp, if_neg (by rw [hl]; decide), if_pos hd]
  · rw [decide_eq_false hp, Bool.false_and]
section LS
variable {G : mG} {d : Nat} {b : Nat → Int32} {L s i n c : Nat} {f : Nat → Int32} {σB : mS}
theorem LB.step (h : LB σB b L s i f n c) (hi : i < s) : LB (up σB 13 2 (nI (i + 1))) b L s (i + 1) f n c := by
  obtain ⟨h1, h2, h3, h4, h5⟩ := h
  exact ⟨h1.rows (fun z z1 z2 => up_n _ _ _ (by omega)), rfl, hi, h4, h5.rows (fun q hq => up_n _ _ _ (by omega))⟩
theorem LB.le (h : LB σB b L s i f n c) : tps b L i ≤ L := tps_le b L i
/-- a number on both sides -/
theorem num (h4 : L ≤ 400) (hby : ∀ k, k < L → isByte (b k)) (hB : LB σB b L s i f n c) (le mo : Int32) :
    (tkn b L (tps b L i) = 12 ∧ inR (nI (tkv b L (tps b L i))) le mo = true ∧ i < s ∧ mV G mX2_takeInt (d + 1) [.ref 13, .int le, .int mo] σB (some (.int (nI (tkv b L (tps b L i))))) (up σB 13 2 (nI (i + 1))) ∧ LB (up σB 13 2 (nI (i + 1))) b L s (i + 1) f n c ∧ ∀ fm σM, LM σM b L (tps b L i) fm → ∃ q, mV G mX5_number (d + 2) [.ref 116, .int le, .int mo] σM (some (.int (nI (tkv b L (tps b L i))))) (atS σM q (tps b L i)) ∧ LM (atS σM q (tps b L i)) b L (tps b L (i + 1)) fm)
    ∨ ∃ k, 0 < k ∧ k < 3 ∧ k = (if tkn b L (tps b L i) = 12 then 2 else 1) ∧ (¬ (tkn b L (tps b L i) = 12 ∧ inR (nI (tkv b L (tps b L i))) le mo = true)) ∧ mV G mX2_takeInt (d + 1) [.ref 13, .int le, .int mo] σB (some (.int (-1))) (up σB 13 3 (nI (k + 8 * tps b L i))) ∧ ∀ fm σM, LM σM b L (tps b L i) fm → ∃ v τ, mV G mX5_number (d + 2) [.ref 116, .int le, .int mo] σM (some (.int v)) τ ∧ τ 116 7 = nI (k + 8 * tps b L i) ∧ τ 116 10 = nI (tps b L i) ∧ τ 117 = fm ∧ MFr σM τ := by
  obtain ⟨h1, h2, h3, h5, h6⟩ := id hB
  by_cases ht : tkn b L (tps b L i) = 12
  · obtain ⟨hpL, hl, hd⟩ := tkn_12 ht
    have hlt := h1.lt h3 (by rw [ht]; decide)
    have ev : tkv b L (tps b L i) = nv b (tps b L i) (rn isDg b L (tps b L i) - tps b L i) := if_pos ⟨hpL, hd⟩
    have ee : ten b L (tps b L i) = rn isDg b L (tps b L i) := by unfold ten; rw [if_neg (by rw [hl]; decide), if_pos hd]
    by_cases hr : inR (nI (tkv b L (tps b L i))) le mo = true
    · refine Or.inl ⟨ht, hr, hlt, v_takeIntC (d := d) h1 h2 h3 ht hr, hB.step hlt, fun fm σM hM => ?_⟩
      obtain ⟨m1, ⟨a, m2, m3, m4⟩, m5, m6, m7⟩ := hM
      refine ⟨rn isDg b L (tps b L i), v_numberB (d := d) m1 h4 m2 m3 (by rw [m7]; exact hby) m5 le mo (p := tps b L i) (q := rn isDg b L (tps b L i)) (by rw [m7]; exact m4) hpL (by rw [m7]; exact hd) (by rw [m7]) (by rw [m7]; exact ev) (Or.inl ⟨hr, rfl⟩), m1, ⟨rn isDg b L (tps b L i), rn_le (by omega), rfl, ?_⟩, m5, m6, m7⟩
      rw [h1.next hlt]
      unfold nxt
      rw [ee]
    · have hr := Bool.not_eq_true _ ▸ hr
      refine Or.inr ⟨2, by omega, by omega, (if_pos ht).symm, fun z => (by rw [hr] at z; cases z.2), v_takeIntB (d := d) h1 h2 h3 ht hr, fun fm σM hM => ?_⟩
      obtain ⟨m1, ⟨a, m2, m3, m4⟩, m5, m6, m7⟩ := hM
      exact ⟨_, up (atS σM (rn isDg b L (tps b L i)) (tps b L i)) 116 7 (nI (2 + 8 * tps b L i)), v_numberB (d := d) m1 h4 m2 m3 (by rw [m7]; exact hby) m5 le mo (p := tps b L i) (q := rn isDg b L (tps b L i)) (v := tkv b L (tps b L i)) (by rw [m7]; exact m4) hpL (by rw [m7]; exact hd) (by rw [m7]) (by rw [m7]; exact ev) (Or.inr ⟨hr, rfl⟩), rfl, rfl, m6, (MFr.atS _ _ _).trans (MFr.fault _ _)⟩
  · refine Or.inr ⟨1, by omega, by omega, (if_neg ht).symm, fun z => ht z.1, v_takeIntA (d := d) h1 h2 h3 le mo ht, fun fm σM hM => ?_⟩
    obtain ⟨m1, ⟨a, m2, m3, m4⟩, m5, m6, m7⟩ := hM
    exact ⟨le, _, v_numberA (d := d) m1 h4 m2 m3 (by rw [m7]; exact hby) m5 le mo (p := tps b L i) (by rw [m7]; exact m4) (by rw [m7]; exact tkn_n12 ht), rfl, rfl, m6, (MFr.atS _ _ _).trans (MFr.fault _ _)⟩
/-- a word on the reference's side -/
theorem wrd (h4 : L ≤ 400) {σM : mS} {p : Nat} (hM : LM σM b L p f) : ∃ v q, v < 2 ^ 31 ∧ mV G mX5_word (d + 1) [.ref 116] σM (some (.int (nI v))) (atS σM q p) ∧ wtok v = (if tkn b L p < 12 then tkn b L p else 17) ∧ (tkn b L p < 12 → LM (atS σM q p) b L (nxt b L p) f) ∧ q ≤ L := by
  obtain ⟨m1, ⟨a, m2, m3, m4⟩, m5, m6, m7⟩ := hM
  have hpL : p ≤ L := by rw [m4]; exact rn_le m2
  refine ⟨wv b p (rn isLt b L p - p), rn isLt b L p, wv_lt2 _ _ _ (fun k hk => rn_in (L := L) (a := p) (by omega) (by omega)), ?_, ?_, fun ht => ?_, rn_le hpL⟩
  · have := v_word (G := G) (d := d) (σ := σM) (p := p) (q := rn isLt b L p) m1 h4 m2 m3 (by rw [m7]; exact m4) (by rw [m7])
    rw [m7] at this
    exact this
  · by_cases hp : p < L
    · by_cases hl : isLt (b p) = true
      · have e : tkn b L p = wtok (wv b p (rn isLt b L p - p)) := by unfold tkn; rw [if_pos hp, if_pos hl]
        rw [e]
        rcases wtok_ne (wv b p (rn isLt b L p - p)) with h | h
        · rw [if_pos h]
        · rw [h]; rfl
      · have hl := Bool.not_eq_true _ ▸ hl
        rw [rn_f hl, Nat.sub_self, if_neg]
        · rfl
        · unfold tkn
          rw [if_pos hp, if_neg (by rw [hl]; decide)]
          split
          · decide
          · rcases sgn_ge (b p) with h | h | h | h <;> omega
    · rw [rn_end (by omega), Nat.sub_self, if_neg]
      · rfl
      · unfold tkn; rw [if_neg hp]; decide
  · refine ⟨m1, ⟨rn isLt b L p, rn_le hpL, rfl, ?_⟩, m5, m6, m7⟩
    unfold nxt ten
    by_cases hl : isLt (b p) = true
    · rw [if_pos hl]
    · exfalso
      unfold tkn at ht
      rw [if_neg hl] at ht
      (repeat' split at ht)
      · omega
      · rcases sgn_ge (b p) with h | h | h | h <;> omega
      · omega
end LS
