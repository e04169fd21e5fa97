/-! ===== Course: live, pitch, follow ===== -/
theorem le_pred {a n : Nat} (ha : a < 2 ^ 31) (hn : n < 2 ^ 31) : nI a ≤ nI n - nI 1 ↔ a < n := by
  cases n with
  | zero =>
    have : (nI 0 - nI 1 : Int32) = -1 := by decide
    rw [this, Int32.le_iff_toInt_le, nI_toInt ha]
    have : (-1 : Int32).toInt = -1 := by decide
    rw [this]; omega
  | succ k =>
    rw [nI_sub (by omega), Nat.add_sub_cancel, nI_le_iff ha (by omega)]
    omega
/-- m days more, from day n on -/
def lvS (σ : mS) (c : Nat) (p : sP) (n : Nat) : Nat → mS
  | 0 => σ
  | m + 1 => livS (lvS σ c p n m) c (n + m) p
theorem lvS_far (σ : mS) {c n a : Nat} (p : sP) (h : a < c + 5 ∨ c + 10 < a) : ∀ m, lvS σ c p n m a = σ a := by
  intro m
  induction m with
  | zero => rfl
  | succ m ih => simp only [lvS]; rw [livS_far _ _ h]; exact ih
theorem Lived.nexts {σ : mS} {c n : Nat} {p : sP} (h : Lived σ c p n) : ∀ m, Lived (lvS σ c p n m) c p (n + m) := by
  intro m
  induction m with
  | zero => exact h
  | succ m ih => exact ih.next
section CL
variable {G : mG} {d c : Nat} {σ : mS}
theorem v_live (hc : isCourse c) {n N : Nat} {x : Int32} {p : sP} (hx : x = nI N - nI 1) (hnN : n ≤ N) (hN : N ≤ 70) (hL : Lived σ c p n) (hs : sOk p.1) (hk : ∀ k, n ≤ k → k < N → ∃ j, j < 6 ∧ σ (c + 3) k = nI j ∧ σ (c + 2) j = p.2.1 k) : mV G mX0_live (d + 3) [.ref c, .int (nI n), .int x] σ none (lvS σ c p n (N - n)) := by
  refine mV_of fun Q hQ => ?_
  have hl : ∀ m, m ≤ N - n → mF G mX0_live (d + 3) 2 [some (.ref c), some (.int (nI n)), some (.int x), some (.int (nI (n + m)))] [] (lvS σ c p n m) Q := by
    refine loopUp (N - n) (fun m hm ih => ?_)
    have hLm := hL.nexts m
    have hc0 := hc
    obtain ⟨s0, s1, s2, s3, s4, s5, s6, s7, s8, s9, s10⟩ := hc
    refine F_iload_n dX0_live_2 rfl ?_
    refine F_iload_n dX0_live_3 rfl ?_
    refine F_icmp_gt (tgt := 29) dX0_live_4 rfl (fun c4 => ?_) (fun c4 => ?_)
    · refine F_vret dX0_live_29 rfl ?_
      rw [hx, ← Int32.not_le, le_pred (by omega) (by omega)] at c4
      have e1 : m = N - n := by omega
      subst e1
      exact hQ
    · rw [hx, Int32.not_lt, le_pred (by omega) (by omega)] at c4
      obtain ⟨j, hj, hj1, hj2⟩ := hk (n + m) (by omega) c4
      refine F_aload_n dX0_live_7 rfl ?_
      refine F_iload_n dX0_live_8 rfl ?_
      refine F_aload_n dX0_live_9 rfl ?_
      refine F_getr dX0_live_10 rfl rfl (by first | assumption | rfl) rfl ?_
      refine F_aload_n dX0_live_13 rfl ?_
      refine F_getr dX0_live_14 rfl rfl (by first | assumption | rfl) rfl ?_
      refine F_iload_n dX0_live_17 rfl ?_
      refine F_ialdE (v := nI j) dX0_live_18 (by first | assumption | rfl) (by decide) (by omega) (by rw [lvS_far _ _ (by omega)]; exact hj1) ?_
      refine F_ialdE (v := p.2.1 (n + m)) dX0_live_19 (by first | assumption | rfl) (by decide) (by omega) (by rw [lvS_far _ _ (by omega)]; exact hj2) ?_
      refine F_cV2v (v_liveDay (d := d) hc0 (by omega) hLm hs) dX0_live_20 rfl rfl (by decide) (by first | assumption | rfl) rfl rfl rfl (by decide) (Nat.le_of_ble_eq_true rfl) (by omega) ?_
      refine F_iincN dX0_live_23 rfl ?_
      refine F_goto (tgt := 2) dX0_live_26 rfl ?_
      exact ih (by omega)
  refine F_iload_n dX0_live_0 rfl ?_
  refine F_istore_n dX0_live_1 (Nat.le_of_ble_eq_true rfl) ?_
  exact hl 0 (by omega)

theorem v_pitch (hc : isCourse c) {a e : Nat} (hab : a ≤ e) (he : e < 70) : mV G mX0_pitch d [.ref c, .int (nI a), .int (nI e)] σ none (upR σ (c + 4) (fillR (σ (c + 4)) a (a + (e + 1 - a)) (bI true))) := by
  refine mV_of fun Q hQ => ?_
  obtain ⟨s0, s1, s2, s3, s4, s5, s6, s7, s8, s9, s10⟩ := hc
  have hl : ∀ x, x ≤ e + 1 - a → mF G mX0_pitch d 2 [some (.ref c), some (.int (nI a)), some (.int (nI e)), some (.int (nI (a + x)))] [] (upR σ (c + 4) (fillR (σ (c + 4)) a (a + x) (bI true))) Q := by
    refine loopUp (e + 1 - a) (fun x hx ih => ?_)
    refine F_iload_n dX0_pitch_2 rfl ?_
    refine F_iload_n dX0_pitch_3 rfl ?_
    refine F_icmp_gtN (tgt := 20) dX0_pitch_4 rfl (by omega) (by omega) (fun c4 => ?_) (fun c4 => ?_)
    · refine F_vret dX0_pitch_20 rfl ?_
      have e1 : x = e + 1 - a := by omega
      subst e1
      exact hQ
    · refine F_aload_n dX0_pitch_7 rfl ?_
      refine F_getr dX0_pitch_8 rfl rfl (by first | assumption | rfl) rfl ?_
      refine F_iload_n dX0_pitch_11 rfl ?_
      refine F_iconst (v := nI 1) dX0_pitch_12 rfl ?_
      refine F_zast dX0_pitch_13 (by first | assumption | rfl) (by decide) (by omega) ?_
      refine F_iincN dX0_pitch_14 rfl ?_
      refine F_goto (tgt := 2) dX0_pitch_17 rfl ?_
      rw [nar_1]
      refine F_sg (up_fill _ _ _ _ (by omega)) ?_
      exact ih (by omega)
  refine F_iload_n dX0_pitch_0 rfl ?_
  refine F_istore_n dX0_pitch_1 (Nat.le_of_ble_eq_true rfl) ?_
  refine F_sg (fill0 _ (c + 4) a (bI true)).symm ?_
  exact hl 0 (by omega)

/-- is day k in a camp, of the first n, but x -/
def cfN (F L : Nat → Int32) (x : Int32) (k : Nat) : Nat → Bool
  | 0 => false
  | n + 1 => cfN F L x k n || (!decide (nI n = x) && (decide (F n ≤ nI k) && decide (nI k ≤ L n)))
/-- what the book says of a group -/
def pB (σ : mS) (g nc : Nat) (x : Int32) : sP := (σ 11, fun k => σ 10 (σ 7 (g * 70 + k)).toNatClampNeg, fun k => cfN (σ 8) (σ 9) x k nc, σ 5 g, σ 6 g)
/-- the camps are days -/
def okC (F L : Nat → Int32) (n : Nat) : Prop := ∀ i, i < n → ∃ a e, a ≤ e ∧ e < 70 ∧ F i = nI a ∧ L i = nI e
def okK (K : Nat → Int32) (g : Nat) : Prop := ∀ k, k < 70 → ∃ j, j < 6 ∧ K (g * 70 + k) = nI j
/-- the row of camp days, behind the first i camps -/
def rowC (σ : mS) (x : Int32) (i : Nat) : Nat → Int32 := fun k => if k < 70 then bI (cfN (σ 8) (σ 9) x k i) else 0
def fwA (σ : mS) (c g : Nat) : mS := (upR (upR (upR σ (c + 1) (va_cpy (σ 11) (σ (c + 1)) 0 0 8)) (c + 2) (va_cpy (σ 10) (σ (c + 2)) 0 0 6)) (c + 3) (va_cpy (σ 7) (σ (c + 3)) (g * 70) 0 70))
theorem fwA_far (σ : mS) {c g a : Nat} (h : a < c + 1 ∨ c + 3 < a) : fwA σ c g a = σ a := by
  simp only [fwA]
  rw [upR_n _ _ (by omega), upR_n _ _ (by omega), upR_n _ _ (by omega)]
theorem fwA_1 (σ : mS) (c g : Nat) {k : Nat} (hk : k < 8) : fwA σ c g (c + 1) k = σ 11 k := by
  simp only [fwA]
  rw [upR_n _ _ (by omega), upR_n _ _ (by omega), upR_s]
  simp only [va_cpy]
  rw [if_pos (by omega)]
  congr 1; omega
theorem fwA_2 (σ : mS) (c g : Nat) {k : Nat} (hk : k < 6) : fwA σ c g (c + 2) k = σ 10 k := by
  simp only [fwA]
  rw [upR_n _ _ (by omega), upR_s]
  simp only [va_cpy]
  rw [if_pos (by omega)]
  congr 1; omega
theorem fwA_3 (σ : mS) (c g : Nat) {k : Nat} (hk : k < 70) : fwA σ c g (c + 3) k = σ 7 (g * 70 + k) := by
  simp only [fwA]
  rw [upR_s]
  simp only [va_cpy]
  rw [if_pos (by omega)]
  congr 1
/-- the end of follow: fit and tired as day 0 begins, and the days lived -/
def fwE (σ : mS) (c g n : Nat) (x : Int32) : mS := up (up (upR (fwA σ c g) (c + 4) (rowC σ x n)) (c + 6) 0 (σ 5 g)) (c + 7) 0 (σ 6 g)
def fwS (σ : mS) (c g n N : Nat) (x : Int32) : mS := lvS (fwE σ c g n x) c (pB σ g n x) 0 N
theorem fwE_far (σ : mS) {c g n a : Nat} {x : Int32} (h : a < c + 1 ∨ (c + 4 < a ∧ a ≠ c + 6 ∧ a ≠ c + 7)) : fwE σ c g n x a = σ a := by
  simp only [fwE]
  rw [up_n _ _ _ (by omega), up_n _ _ _ (by omega), upR_n _ _ (by omega), fwA_far _ (by omega)]
theorem fwE_L {g n : Nat} {x : Int32} (h8 : σ (c + 8) 0 = nI 0) (h9 : σ (c + 9) 0 = nI 0) : Lived (fwE σ c g n x) c (pB σ g n x) 0 := by
  refine ⟨fun k hk => ?_, fun k hk => ?_, fun k hk => ?_, fun k hk => absurd hk (by omega)⟩
  · simp only [fwE]
    rw [up_n _ _ _ (by omega), up_n _ _ _ (by omega), upR_n _ _ (by omega), fwA_1 _ _ _ hk]
    rfl
  · simp only [fwE]
    rw [up_n _ _ _ (by omega), up_n _ _ _ (by omega), upR_s]
    simp only [rowC]
    rw [if_pos hk]
    rfl
  · have : k = 0 := by omega
    subst this
    refine ⟨?_, ?_, ?_, ?_⟩
    · simp only [fwE]; rw [up_n _ _ _ (by omega), up_s]; rfl
    · simp only [fwE]; rw [up_s]; rfl
    · rw [fwE_far _ (by omega)]; exact h8
    · rw [fwE_far _ (by omega)]; exact h9
theorem l_follow114 (hc : isCourse c) (hc4 : 11 < c) {g n N : Nat} {x y : Int32} (hg : g < 6) (hn : σ 4 4 = nI n) (h4 : n ≤ 4) (hy : y = nI N - nI 1) (hN : N ≤ 70) (hC : okC (σ 8) (σ 9) n) (hK : okK (σ 7) g) (hs : sOk (σ 11)) (h8 : σ (c + 8) 0 = nI 0) (h9 : σ (c + 9) 0 = nI 0) {Q : Option Value → mS → Prop} (hQ : Q none (fwS σ c g n N x)) : mF G mX0_follow (d + 4) 114 [some (.ref c), some (.ref 4), some (.int (nI g)), some (.int x), some (.int y), some (.int (nI n))] [] (upR (fwA σ c g) (c + 4) (rowC σ x n)) Q := by
  have hL : Lived (fwE σ c g n x) c (pB σ g n x) 0 := fwE_L h8 h9
  have hkk : ∀ k, 0 ≤ k → k < N → ∃ j, j < 6 ∧ fwE σ c g n x (c + 3) k = nI j ∧ fwE σ c g n x (c + 2) j = (pB σ g n x).2.1 k := by
    intro k _ hk
    obtain ⟨j, hj, e⟩ := hK k (by omega)
    refine ⟨j, hj, ?_, ?_⟩
    · simp only [fwE]
      rw [up_n _ _ _ (by omega), up_n _ _ _ (by omega), upR_n _ _ (by omega), fwA_3 _ _ _ (by omega)]
      exact e
    · simp only [fwE]
      rw [up_n _ _ _ (by omega), up_n _ _ _ (by omega), upR_n _ _ (by omega), fwA_2 _ _ _ hj]
      simp only [pB]
      rw [e, nI_clamp (by omega)]
  have hc0 := hc
  obtain ⟨s0, s1, s2, s3, s4, s5, s6, s7, s8, s9, s10⟩ := hc
  refine F_aload_n dX0_follow_114 rfl ?_
  refine F_getr dX0_follow_115 rfl rfl (by first | assumption | rfl) rfl ?_
  refine F_iconst (v := nI 0) dX0_follow_118 rfl ?_
  refine F_aload_n dX0_follow_119 rfl ?_
  refine F_getr dX0_follow_120 rfl rfl (by first | assumption | rfl) rfl ?_
  refine F_iload_n dX0_follow_123 rfl ?_
  refine F_ialdE (v := σ 5 g) dX0_follow_124 (by first | assumption | rfl) (by decide) (by omega) (by rw [upR_n _ _ (by omega), fwA_far _ (by omega)]) ?_
  refine F_iast dX0_follow_125 (by first | assumption | rfl) (by decide) (by omega) ?_
  refine F_aload_n dX0_follow_126 rfl ?_
  refine F_getr dX0_follow_127 rfl rfl (by first | assumption | rfl) rfl ?_
  refine F_iconst (v := nI 0) dX0_follow_130 rfl ?_
  refine F_aload_n dX0_follow_131 rfl ?_
  refine F_getr dX0_follow_132 rfl rfl (by first | assumption | rfl) rfl ?_
  refine F_iload_n dX0_follow_135 rfl ?_
  refine F_ialdE (v := σ 6 g) dX0_follow_136 (by first | assumption | rfl) (by decide) (by omega) (by rw [up_n _ _ _ (by omega), upR_n _ _ (by omega), fwA_far _ (by omega)]) ?_
  refine F_iast dX0_follow_137 (by first | assumption | rfl) (by decide) (by omega) ?_
  refine F_aload_n dX0_follow_138 rfl ?_
  refine F_iconst (v := nI 0) dX0_follow_139 rfl ?_
  refine F_iload dX0_follow_140 rfl ?_
  refine F_cV2v (v_live (d := d) (n := 0) (p := pB σ g n x) hc0 hy (Nat.zero_le N) hN hL hs hkk) dX0_follow_142 rfl rfl (by decide) (by first | assumption | rfl) rfl rfl rfl (by decide) (Nat.le_of_ble_eq_true rfl) (by omega) ?_
  refine F_vret dX0_follow_145 rfl ?_
  exact hQ

theorem rowC_s (σ : mS) (x : Int32) {i a e : Nat} (hF : σ 8 i = nI a) (hL : σ 9 i = nI e) (hae : a ≤ e) (he : e < 70) (hx : ¬ nI i = x) : fillR (rowC σ x i) a (a + (e + 1 - a)) (bI true) = rowC σ x (i + 1) := by
  funext k
  simp only [fillR, rowC, cfN]
  rw [decide_eq_false hx, hF, hL]
  by_cases hk : k < 70
  · rw [if_pos hk, if_pos hk, decide_eq_decide.mpr (nI_le_iff (by omega) (by omega)), decide_eq_decide.mpr (nI_le_iff (by omega) (by omega))]
    by_cases h1 : a ≤ k ∧ k < a + (e + 1 - a)
    · rw [if_pos h1, decide_eq_true h1.1, decide_eq_true (show k ≤ e by omega)]
      simp
    · rw [if_neg h1]
      congr 1
      by_cases h2 : a ≤ k
      · rw [decide_eq_false (show ¬ k ≤ e by omega)]; simp
      · rw [decide_eq_false h2]; simp
  · rw [if_neg (by omega), if_neg hk, if_neg hk]
theorem rowC_x (σ : mS) (x : Int32) {i : Nat} (hx : nI i = x) : rowC σ x i = rowC σ x (i + 1) := by
  funext k
  simp only [rowC, cfN]
  rw [decide_eq_true hx]
  simp
theorem l_follow75 (hc : isCourse c) (hc4 : 11 < c) {g n N : Nat} {x y : Int32} (hg : g < 6) (hn : σ 4 4 = nI n) (h4 : n ≤ 4) (hy : y = nI N - nI 1) (hN : N ≤ 70) (hC : okC (σ 8) (σ 9) n) (hK : okK (σ 7) g) (hs : sOk (σ 11)) (h8 : σ (c + 8) 0 = nI 0) (h9 : σ (c + 9) 0 = nI 0) {Q : Option Value → mS → Prop} (hQ : Q none (fwS σ c g n N x)) : ∀ i, i ≤ n → mF G mX0_follow (d + 4) 75 [some (.ref c), some (.ref 4), some (.int (nI g)), some (.int x), some (.int y), some (.int (nI i))] [] (upR (fwA σ c g) (c + 4) (rowC σ x i)) Q := by
  refine loopUp n (fun i hi ih => ?_)
  have h114 := l_follow114 (G := G) (d := d) hc hc4 hg hn h4 hy hN hC hK hs h8 h9 hQ
  have hc0 := hc
  have r8 : (upR (fwA σ c g) (c + 4) (rowC σ x i)) 8 = σ 8 := by rw [upR_n _ _ (by omega), fwA_far _ (by omega)]
  have r9 : (upR (fwA σ c g) (c + 4) (rowC σ x i)) 9 = σ 9 := by rw [upR_n _ _ (by omega), fwA_far _ (by omega)]
  have r4 : (upR (fwA σ c g) (c + 4) (rowC σ x i)) 4 4 = nI n := by rw [upR_n _ _ (by omega), fwA_far _ (by omega)]; exact hn
  obtain ⟨s0, s1, s2, s3, s4, s5, s6, s7, s8, s9, s10⟩ := hc
  refine F_iload dX0_follow_75 rfl ?_
  refine F_aload_n dX0_follow_77 rfl ?_
  refine F_getE (v := nI n) dX0_follow_78 rfl rfl (by first | assumption | rfl) rfl r4 ?_
  refine F_icmp_geN (tgt := 114) dX0_follow_81 rfl (by omega) (by omega) (fun c81 => ?_) (fun c81 => ?_)
  · have e1 : i = n := by omega
    subst e1
    exact h114
  · obtain ⟨a, e, hae, he, ha, hee⟩ := hC i (by omega)
    refine F_iload dX0_follow_84 rfl ?_
    refine F_iload_n dX0_follow_86 rfl ?_
    refine F_icmp_eq (tgt := 108) dX0_follow_87 rfl (fun c87 => ?_) (fun c87 => ?_)
    · refine F_iincN dX0_follow_108 rfl ?_
      refine F_goto (tgt := 75) dX0_follow_111 rfl ?_
      first
        | (refine F_sg ?_ (ih (by omega))
           rw [upR_upR, upR_s, rowC_s σ x ha hee hae he c87])
        | (refine F_sg ?_ (ih (by omega))
           rw [rowC_x σ x c87])
    · refine F_aload_n dX0_follow_90 rfl ?_
      refine F_aload_n dX0_follow_91 rfl ?_
      refine F_getr dX0_follow_92 rfl rfl (by first | assumption | rfl) rfl ?_
      refine F_iload dX0_follow_95 rfl ?_
      refine F_ialdE (v := nI a) dX0_follow_97 (by first | assumption | rfl) (by decide) (by omega) (by rw [r8]; exact ha) ?_
      refine F_aload_n dX0_follow_98 rfl ?_
      refine F_getr dX0_follow_99 rfl rfl (by first | assumption | rfl) rfl ?_
      refine F_iload dX0_follow_102 rfl ?_
      refine F_ialdE (v := nI e) dX0_follow_104 (by first | assumption | rfl) (by decide) (by omega) (by rw [r9]; exact hee) ?_
      refine F_cV2v (v_pitch (d := d) hc0 hae he) dX0_follow_105 rfl rfl (by decide) (by first | assumption | rfl) rfl rfl rfl (by decide) (Nat.le_of_ble_eq_true rfl) (by omega) ?_
      refine F_iincN dX0_follow_108 rfl ?_
      refine F_goto (tgt := 75) dX0_follow_111 rfl ?_
      first
        | (refine F_sg ?_ (ih (by omega))
           rw [upR_upR, upR_s, rowC_s σ x ha hee hae he c87])
        | (refine F_sg ?_ (ih (by omega))
           rw [rowC_x σ x c87])

theorem v_follow (hc : isCourse c) (hc4 : 11 < c) {g n N : Nat} {x y : Int32} (hg : g < 6) (hn : σ 4 4 = nI n) (h4 : n ≤ 4) (hy : y = nI N - nI 1) (hN : N ≤ 70) (hC : okC (σ 8) (σ 9) n) (hK : okK (σ 7) g) (hs : sOk (σ 11)) (h8 : σ (c + 8) 0 = nI 0) (h9 : σ (c + 9) 0 = nI 0) (hz : ∀ k, 70 ≤ k → σ (c + 4) k = 0) : mV G mX0_follow (d + 4) [.ref c, .ref 4, .int (nI g), .int x, .int y] σ none (fwS σ c g n N x) := by
  refine mV_of fun Q hQ => ?_
  have h75 := l_follow75 (G := G) (d := d) hc hc4 hg hn h4 hy hN hC hK hs h8 h9 hQ
  have hc0 := hc
  obtain ⟨s0, s1, s2, s3, s4, s5, s6, s7, s8, s9, s10⟩ := hc
  have hl : ∀ e, e ≤ 70 → mF G mX0_follow (d + 4) 51 [some (.ref c), some (.ref 4), some (.int (nI g)), some (.int x), some (.int y), some (.int (nI e))] [] (upR (fwA σ c g) (c + 4) (fillR (σ (c + 4)) 0 (0 + e) (bI false))) Q := by
    refine loopUp 70 (fun e he ih => ?_)
    refine F_iload dX0_follow_51 rfl ?_
    refine F_bipush (v := nI 70) dX0_follow_53 rfl ?_
    refine F_icmp_geN (tgt := 72) dX0_follow_55 rfl (by omega) (by omega) (fun c55 => ?_) (fun c55 => ?_)
    · have e1 : e = 70 := by omega
      subst e1
      refine F_iconst (v := nI 0) dX0_follow_72 rfl ?_
      refine F_istore dX0_follow_73 (Nat.le_of_ble_eq_true rfl) ?_
      refine F_sg ?_ (h75 0 (Nat.zero_le n))
      congr 1
      funext k
      simp only [fillR, rowC, cfN]
      by_cases h : k < 70
      · rw [if_pos (by omega), if_pos h]
      · rw [if_neg (by omega), if_neg h]
        exact hz k (by omega)
    · refine F_aload_n dX0_follow_58 rfl ?_
      refine F_getr dX0_follow_59 rfl rfl (by first | assumption | rfl) rfl ?_
      refine F_iload dX0_follow_62 rfl ?_
      refine F_iconst (v := nI 0) dX0_follow_64 rfl ?_
      refine F_zast dX0_follow_65 (by first | assumption | rfl) (by decide) (by omega) ?_
      refine F_iincN dX0_follow_66 rfl ?_
      refine F_goto (tgt := 51) dX0_follow_69 rfl ?_
      rw [nar_0]
      refine F_sg ?_ (ih (by omega))
      have e3 := up_fill (fwA σ c g) (c + 4) (σ (c + 4)) (lo := 0) (hi := 0 + e) (bI false) (Nat.zero_le _)
      simp only [Nat.zero_add] at e3 ⊢
      exact e3
  refine F_aload_n dX0_follow_0 rfl ?_
  refine F_getr dX0_follow_1 rfl rfl (by first | assumption | rfl) rfl ?_
  refine F_iconst (v := nI 0) dX0_follow_4 rfl ?_
  refine F_aload_n dX0_follow_5 rfl ?_
  refine F_getr dX0_follow_6 rfl rfl (by first | assumption | rfl) rfl ?_
  refine F_iconst (v := nI 0) dX0_follow_9 rfl ?_
  refine F_bipush (v := nI 8) dX0_follow_10 rfl ?_
  refine F_copy dX0_follow_12 rfl rfl (Nat.le_of_ble_eq_true rfl) (by first | assumption | rfl) (by first | assumption | rfl) (by decide) (by decide) (by omega) (by omega) ?_
  refine F_aload_n dX0_follow_15 rfl ?_
  refine F_getr dX0_follow_16 rfl rfl (by first | assumption | rfl) rfl ?_
  refine F_iconst (v := nI 0) dX0_follow_19 rfl ?_
  refine F_aload_n dX0_follow_20 rfl ?_
  refine F_getr dX0_follow_21 rfl rfl (by first | assumption | rfl) rfl ?_
  refine F_iconst (v := nI 0) dX0_follow_24 rfl ?_
  refine F_bipush (v := nI 6) dX0_follow_25 rfl ?_
  refine F_copy dX0_follow_27 rfl rfl (Nat.le_of_ble_eq_true rfl) (by first | assumption | rfl) (by first | assumption | rfl) (by decide) (by decide) (by omega) (by omega) ?_
  refine F_aload_n dX0_follow_30 rfl ?_
  refine F_getr dX0_follow_31 rfl rfl (by first | assumption | rfl) rfl ?_
  refine F_iload_n dX0_follow_34 rfl ?_
  refine F_bipush (v := nI 70) dX0_follow_35 rfl ?_
  refine F_imulN dX0_follow_37 ?_
  refine F_aload_n dX0_follow_38 rfl ?_
  refine F_getr dX0_follow_39 rfl rfl (by first | assumption | rfl) rfl ?_
  refine F_iconst (v := nI 0) dX0_follow_42 rfl ?_
  refine F_bipush (v := nI 70) dX0_follow_43 rfl ?_
  refine F_copy dX0_follow_45 rfl rfl (Nat.le_of_ble_eq_true rfl) (by first | assumption | rfl) (by first | assumption | rfl) (by decide) (by decide) (by omega) (by omega) ?_
  refine F_iconst (v := nI 0) dX0_follow_48 rfl ?_
  refine F_istore dX0_follow_49 (Nat.le_of_ble_eq_true rfl) ?_
  refine F_sg ?_ (hl 0 (by omega))
  rw [Nat.add_zero, fillR_0]
  have e4 : fwA σ c g (c + 4) = σ (c + 4) := fwA_far _ (by omega)
  rw [← e4, upR_self]
  simp only [fwA, upR_n _ _ (show (10 : Nat) ≠ c + 1 by omega), upR_n _ _ (show (7 : Nat) ≠ c + 1 by omega), upR_n _ _ (show (7 : Nat) ≠ c + 2 by omega), upR_n _ _ (show c + 2 ≠ c + 1 by omega), upR_n _ _ (show c + 3 ≠ c + 1 by omega), upR_n _ _ (show c + 3 ≠ c + 2 by omega)]

end CL
