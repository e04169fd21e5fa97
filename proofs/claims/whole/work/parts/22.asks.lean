/-! ===== questions: what both sides find from day to day ===== -/
/-- what the reference's row says of a group, a camp left out -/
def pQ (f : Nat → Int32) (g nc : Nat) (x : Int32) : sP := (fun k => f (6 + k), fun k => f (f (40 + 70 * g + k)).toNatClampNeg, fun k => cfN (fun i => f (15 + 2 * i)) (fun i => f (15 + 2 * i + 1)) x k nc, f (24 + 2 * g), f (24 + 2 * g + 1))
theorem cfN_congr {F F2 L L2 : Nat → Int32} (x : Int32) (k : Nat) : ∀ n, (∀ i, i < n → F i = F2 i ∧ L i = L2 i) → cfN F L x k n = cfN F2 L2 x k n := by
  intro n
  induction n with
  | zero => intro _; rfl
  | succ n ih =>
    intro h
    simp only [cfN]
    rw [ih (fun i hi => h i (by omega)), (h n (by omega)).1, (h n (by omega)).2]
theorem okB.s {f : Nat → Int32} {n c : Nat} (h : okB f n c) (g nc : Nat) (x : Int32) : sOk (pQ f g nc x).1 := h.2.2.2.2.1
theorem pB_pQ {σ : mS} {f : Nat → Int32} {n c g : Nat} (h : TR σ 4 f n c) (hg : g < n) (x : Int32) : sEq (pB σ g c x) (pQ f g c x) 70 := by
  obtain ⟨h0, h1, h2, h3, h4, h5, h6, h7⟩ := h
  refine ⟨fun k hk => h3 k hk, fun k hk => ⟨?_, ?_⟩, (h6 g hg).1, (h6 g hg).2.1⟩
  · obtain ⟨j, hj, e⟩ := (h0.2.2.2.2.2.2.2.2 g hg).2.2 k hk
    show σ 10 (σ 7 (g * 70 + k)).toNatClampNeg = f (f (40 + 70 * g + k)).toNatClampNeg
    rw [show σ 7 (g * 70 + k) = f (40 + 70 * g + k) from (h6 g hg).2.2 k hk, e, nI_clamp (by omega)]
    exact h4 j hj
  · exact cfN_congr x k c (fun i hi => h5 i hi)
theorem pM_pQ {σ : mS} {n c g : Nat} (h24 : σ 116 24 = -1) : sEq (pM σ g c) (pQ (σ 117) g c (σ 116 23)) 70 := by
  refine ⟨fun k hk => rfl, fun k hk => ⟨?_, rfl⟩, rfl, rfl⟩
  show (if nI k = σ 116 24 then σ 116 25 else _) = _
  rw [h24, if_neg]
  · rfl
  · intro e
    have := congrArg Int32.toInt e
    rw [nI_toInt (by omega)] at this
    have e2 : (-1 : Int32).toInt = -1 := by decide
    omega
theorem Gone.congr {σ : mS} {p q : sP} {n : Nat} (h : Gone σ p n) (hq : sEq p q n) : Gone σ q n := by
  refine ⟨fun k hk => (h.1 k hk).trans (hq.mono hk).sum, fun k hk => ?_⟩
  obtain ⟨a1, a2, a3, a4, a5⟩ := h.2 k hk
  refine ⟨a1.trans (hq.load hk), a2.trans (hq.mono (show k + 1 ≤ n by omega)).fit, a3.trans (hq.mono (show k + 1 ≤ n by omega)).tir, ?_, ?_⟩
  · rw [a4, (hq.mono (show k ≤ n by omega)).hl]
  · rw [a5, hq.inj hk]
/-- course a has followed group g for N days -/
def Fw (τ : mS) (a : Nat) (f : Nat → Int32) (g nc : Nat) (x : Int32) (N : Nat) : Prop := Lived τ a (pQ f g nc x) N ∧ (∀ k, k < 70 → τ (a + 3) k = f (40 + 70 * g + k)) ∧ ∀ j, j < 6 → τ (a + 2) j = f j
def QR (σ : mS) (n c : Nat) : Prop := TR σ 4 (σ 117) n c ∧ RC σ
/-- only what is found from day to day is another -/
def Fr (σ τ : mS) : Prop := (∀ a, a < 16 ∨ (52 ≤ a ∧ a < 116) ∨ a = 117 ∨ a = 118 ∨ a = 120 → τ a = σ a) ∧ τ 116 4 = σ 116 4 ∧ τ 116 6 = σ 116 6 ∧ τ 116 7 = σ 116 7 ∧ RC τ
theorem Fr.qr {σ τ : mS} {n c : Nat} (h : Fr σ τ) (hq : QR σ n c) : QR τ n c := by
  refine ⟨?_, h.2.2.2.2⟩
  rw [h.1 117 (by omega)]
  exact hq.1.rows (fun q hq => h.1 _ (by omega))
theorem Fr.trans {σ τ υ : mS} (h : Fr σ τ) (h2 : Fr τ υ) : Fr σ υ := ⟨fun a ha => (h2.1 a ha).trans (h.1 a ha), h2.2.1.trans h.2.1, h2.2.2.1.trans h.2.2.1, h2.2.2.2.1.trans h.2.2.2.1, h2.2.2.2.2⟩
theorem Rel.fr {σ τ : mS} (h : Rel σ) (hf : Fr σ τ) : Rel τ := h.frame hf.1 hf.2.1 hf.2.2.1 hf.2.2.2.1 hf.2.2.2.2
theorem Fr.thrown {σ : mS} {n c : Nat} (hq : QR σ n c) (v : Int32) : Fr σ (up σ 116 0 v) := ⟨fun a ha => up_n σ _ _ (by omega), rfl, rfl, rfl, hq.2⟩
theorem Fr.rfl {σ : mS} {n c : Nat} (hq : QR σ n c) : Fr σ σ := ⟨fun a ha => Eq.refl _, Eq.refl _, Eq.refl _, Eq.refl _, hq.2⟩
/-- a question to both sides -/
def Ask (G : mG) (I : mI) (as : List Value) (r : Int32) (σ : mS) : Prop := ∃ τ, mV G I 12 as σ (some (.int r)) τ ∧ Fr σ τ
theorem Same.of {G : mG} {I J : mI} {as : List Value} {σ : mS} (h : Rel σ) (hB : ∀ n c, QR σ n c → ∃ r, Ask G I (.ref 3 :: as) r σ ∧ ∀ σ2, σ2 117 = σ 117 → QR σ2 n c → Ask G J (.ref 116 :: as) r σ2) : Same G I J as σ := by
  obtain ⟨n, c, k, j, m, hT, hC, hU, hP, hF⟩ := id h
  obtain ⟨r, ⟨τ, h1, f1⟩, h2⟩ := hB n c ⟨hT, hC⟩
  obtain ⟨υ, h3, f2⟩ := h2 τ (f1.1 117 (by omega)) (f1.qr ⟨hT, hC⟩)
  exact ⟨r, τ, υ, h1, h3, h.fr (f1.trans f2)⟩
section QU
variable {G : mG} {d : Nat} {σ : mS}
theorem q_follow {n c a g N : Nat} (ha : a = 29 ∨ a = 40) (hq : QR σ n c) (hg : g < n) (hN : N ≤ 70) (x : Int32) {y : Int32} (hy : y = nI N - nI 1) : ∃ τ, mV G mX0_follow (d + 4) [.ref a, .ref 4, .int (nI g), .int x, .int y] σ none τ ∧ Fw τ a (σ 117) g c x N ∧ RC τ ∧ ∀ b, b ≤ a ∨ a + 10 < b → τ b = σ b := by
  obtain ⟨hT, hC⟩ := hq
  have hB := pB_pQ hT hg x
  obtain ⟨h0, h1, h2, h3, h4, h5, h6, h7⟩ := hT
  obtain ⟨c1, c2, c3, c4, c5⟩ := hC
  have hn6 := h0.1
  have hac : isCourse a ∧ 11 < a ∧ σ (a + 8) 0 = nI 0 ∧ σ (a + 9) 0 = nI 0 ∧ ∀ k, 70 ≤ k → σ (a + 4) k = 0 := by
    rcases ha with e | e
    · subst e; exact ⟨isCourse_29, by omega, c4.1, c4.2.1, c4.2.2⟩
    · subst e; exact ⟨isCourse_40, by omega, c5.1, c5.2.1, c5.2.2⟩
  obtain ⟨i1, i2, i3, i4, i5⟩ := hac
  have hs : sOk (σ 11) := fun k hk => by
    have := h0.2.2.2.2.1 k hk
    rw [show σ 11 k = σ 117 (6 + k) from h3 k hk]; exact this
  have hcc : okC (σ 8) (σ 9) c := fun i hi => by
    obtain ⟨u, e, q1, q2, q3, q4⟩ := h0.2.2.2.2.2.2.2.1 i hi
    exact ⟨u, e, q1, q2, (h5 i hi).1.trans q3, (h5 i hi).2.trans q4⟩
  have hkk : okK (σ 7) g := fun k hk => by
    obtain ⟨j, hj, e⟩ := (h0.2.2.2.2.2.2.2.2 g hg).2.2 k hk
    exact ⟨j, hj, ((h6 g hg).2.2 k hk).trans e⟩
  have hL0 : Lived (fwS σ a g c N x) a (pB σ g c x) N := by
    have := (fwE_L (σ := σ) (c := a) (g := g) (n := c) (x := x) i3 i4).nexts N
    rw [Nat.zero_add] at this
    exact this
  have far : ∀ b, b ≤ a ∨ a + 10 < b → fwS σ a g c N x b = σ b := fun b hb => by
    unfold fwS
    rw [lvS_far _ _ (by omega), fwE_far _ (by omega)]
  have r4 : ∀ k, 70 ≤ k → fwS σ a g c N x (a + 4) k = 0 := fun k hk => by
    unfold fwS
    rw [lvS_far _ _ (by omega)]
    simp only [fwE]
    rw [up_n _ _ _ (by omega), up_n _ _ _ (by omega), upR_s]
    simp only [rowC]
    rw [if_neg (by omega)]
  have hz := hL0.2.2.1 0 (by omega)
  refine ⟨_, v_follow (G := G) (d := d) i1 i2 (by omega) h2 h0.2.1 hy hN hcc hkk hs i3 i4 i5, ⟨hL0.congr (hB.mono hN) (fun k hk => (hB.2.1 k hk).2), fun k hk => ?_, fun j hj => ?_⟩, ?_, far⟩
  · unfold fwS
    rw [lvS_far _ _ (by omega)]
    simp only [fwE]
    rw [up_n _ _ _ (by omega), up_n _ _ _ (by omega), upR_n _ _ (by omega), fwA_3 _ _ _ hk]
    exact (h6 g hg).2.2 k hk
  · unfold fwS
    rw [lvS_far _ _ (by omega)]
    simp only [fwE]
    rw [up_n _ _ _ (by omega), up_n _ _ _ (by omega), upR_n _ _ (by omega), fwA_2 _ _ _ hj]
    exact h4 j hj
  · refine ⟨by rw [far 116 (by omega)]; exact c1, by rw [far 116 (by omega)]; exact c2, by rw [far 127 (by omega)]; exact c3, ?_, ?_⟩
    · rcases ha with e | e
      · subst e; exact ⟨hz.2.2.1, hz.2.2.2, r4⟩
      · subst e; rw [far 37 (by omega), far 38 (by omega), far 33 (by omega)]; exact c4
    · rcases ha with e | e
      · subst e; rw [far 48 (by omega), far 49 (by omega), far 44 (by omega)]; exact c5
      · subst e; exact ⟨hz.2.2.1, hz.2.2.2, r4⟩
theorem q_frB {n c a : Nat} {τ : mS} (ha : a = 29 ∨ a = 40) (hC : RC τ) (far : ∀ b, b ≤ a ∨ a + 10 < b → τ b = σ b) : Fr σ τ := by
  refine ⟨fun b hb => far b ?_, ?_, ?_, ?_, hC⟩
  · rcases ha with e | e <;> omega
  all_goals rw [far 116 (by rcases ha with e | e <;> omega)]
theorem q_goes {n c g to : Nat} (hb : okB (σ 117) n c) (h24 : σ 116 24 = -1) (h0 : σ 127 0 = nI 0) (hg : g < n) (ht : to < 70) : ∃ τ, mV G mX5_goes (d + 2) [.ref 116, .int (nI g), .int (nI to)] σ none τ ∧ Gone τ (pQ (σ 117) g c (σ 116 23)) (to + 1) ∧ ∀ b, b < 124 ∨ 129 < b → τ b = σ b := by
  have hn6 := hb.1
  have hG : Gone σ (pM σ g c) 0 := ⟨fun k hk => by
    have : k = 0 := by omega
    subst this
    exact h0, fun k hk => absurd hk (Nat.not_lt_zero k)⟩
  exact ⟨_, v_goes (G := G) (d := d) (by omega) ht hb.2.2.2.1 hb.2.1 hb.2.2.2.2.1 (hb.2.2.2.2.2.2.2.2 g hg).2.2 h0, (hG.nexts (to + 1)).congr ((pM_pQ (n := n) h24).mono (by omega)), fun b h => goN_far _ _ h _⟩
theorem q_form {n c g to : Nat} (hb : okB (σ 117) n c) (h24 : σ 116 24 = -1) (h0 : σ 127 0 = nI 0) (hg : g < n) (ht : to < 70) : ∃ τ, mV G mX5_formOf (d + 3) [.ref 116, .int (nI g), .int (nI to)] σ (some (.int (sForm (pQ (σ 117) g c (σ 116 23)) to))) τ ∧ Gone τ (pQ (σ 117) g c (σ 116 23)) (to + 1) ∧ ∀ b, b < 124 ∨ 129 < b → τ b = σ b := by
  have hn6 := hb.1
  have hG : Gone σ (pM σ g c) 0 := ⟨fun k hk => by
    have : k = 0 := by omega
    subst this
    exact h0, fun k hk => absurd hk (Nat.not_lt_zero k)⟩
  have hE := pM_pQ (σ := σ) (n := n) (g := g) (c := c) h24
  refine ⟨_, ?_, (hG.nexts (to + 1)).congr (hE.mono (by omega)), fun b h => goN_far _ _ h _⟩
  rw [← hE.form ht]
  exact v_mformOf (G := G) (d := d) (by omega) ht hb.2.2.2.1 hb.2.1 hb.2.2.2.2.1 (hb.2.2.2.2.2.2.2.2 g hg).2.2 h0
theorem q_frM {τ : mS} {n c : Nat} (hq : QR σ n c) (h0 : τ 127 0 = nI 0) (far : ∀ b, b < 124 ∨ 130 < b → τ b = σ b) : Fr σ τ := by
  refine ⟨fun b hb => far b (by omega), by rw [far 116 (by omega)], by rw [far 116 (by omega)], by rw [far 116 (by omega)], ?_⟩
  obtain ⟨-, c1, c2, c3, c4, c5⟩ := hq
  refine ⟨by rw [far 116 (by omega)]; exact c1, by rw [far 116 (by omega)]; exact c2, h0, ?_, ?_⟩
  · rw [far 37 (by omega), far 38 (by omega), far 33 (by omega)]; exact c4
  · rw [far 48 (by omega), far 49 (by omega), far 44 (by omega)]; exact c5
/-- a course's form -/
theorem q_formOf {a g nc N k : Nat} {f : Nat → Int32} {x : Int32} (ha : isCourse a) (h : Fw σ a f g nc x N) (hk : k < N) (hN : N ≤ 70) : mV G mX0_formOf d [.ref a, .int (nI k)] σ (some (.int (sForm (pQ f g nc x) k))) σ := by
  have hv := v_formOf (G := G) (d := d) (σ := σ) ha (n := k) (by omega)
  have h1 := h.1.2.2.1 (k + 1) (by omega)
  rw [h.1.1 2 (by omega), h.1.1 3 (by omega), h1.1, h1.2.1] at hv
  exact hv
end QU
