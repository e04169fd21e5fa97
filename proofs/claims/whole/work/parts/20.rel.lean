/-! ===== what the book and the reference have in common ===== -/
/-- a row of the reference's, with n groups and c camps -/
def okB (f : Nat → Int32) (n c : Nat) : Prop := n ≤ 6 ∧ c ≤ 4 ∧ f 23 = nI n ∧ f 14 = nI c ∧ sOk (fun k => f (6 + k)) ∧ (∀ k, k < 6 → ∃ v, v ≤ 300 ∧ f k = nI v) ∧ f 0 = nI 0 ∧ (∀ i, i < c → ∃ a e, a ≤ e ∧ e < 70 ∧ f (15 + 2 * i) = nI a ∧ f (15 + 2 * i + 1) = nI e) ∧ ∀ g, g < n → (∃ v, v ≤ 9999 ∧ f (24 + 2 * g) = nI v) ∧ (∃ v, v ≤ 9999 ∧ f (24 + 2 * g + 1) = nI v) ∧ ∀ d, d < 70 → ∃ j, j < 6 ∧ f (40 + 70 * g + d) = nI j
/-- the rows of a Told say what f says -/
def TRf (r0 r1 r2 r3 r4 r5 r6 r7 f : Nat → Int32) (n c : Nat) : Prop := okB f n c ∧ r0 0 = nI n ∧ r0 4 = nI c ∧ (∀ k, k < 8 → r7 k = f (6 + k)) ∧ (∀ k, k < 6 → r6 k = f k) ∧ (∀ i, i < c → r4 i = f (15 + 2 * i) ∧ r5 i = f (15 + 2 * i + 1)) ∧ (∀ g, g < n → r1 g = f (24 + 2 * g) ∧ r2 g = f (24 + 2 * g + 1) ∧ ∀ d, d < 70 → r3 (g * 70 + d) = f (40 + 70 * g + d)) ∧ ∀ j, n * 70 ≤ j → j < 420 → r3 j = nI 0
def TR (σ : mS) (b : Nat) (f : Nat → Int32) (n c : Nat) : Prop := TRf (σ b) (σ (b + 1)) (σ (b + 2)) (σ (b + 3)) (σ (b + 4)) (σ (b + 5)) (σ (b + 6)) (σ (b + 7)) f n c
theorem okB.congr {f f2 : Nat → Int32} {n c : Nat} (h : okB f n c) (hf : ∀ x, x < 460 → f x = f2 x) : okB f2 n c := by
  obtain ⟨h1, h2, h3, h4, h5, h6, h7, h8, h9⟩ := h
  refine ⟨h1, h2, by rw [← hf _ (by omega)]; exact h3, by rw [← hf _ (by omega)]; exact h4, fun k hk => ?_, fun k hk => ?_, by rw [← hf _ (by omega)]; exact h7, fun i hi => ?_, fun g hg => ⟨?_, ?_, fun d hd => ?_⟩⟩
  · show inR (f2 (6 + k)) _ _ = true
    rw [← hf _ (by omega)]; exact h5 k hk
  · rw [← hf _ (by omega)]; exact h6 k hk
  · rw [← hf _ (by omega), ← hf _ (by omega)]; exact h8 i hi
  · rw [← hf _ (by omega)]; exact (h9 g hg).1
  · rw [← hf _ (by omega)]; exact (h9 g hg).2.1
  · rw [← hf _ (by omega)]; exact (h9 g hg).2.2 d hd
theorem TRf.congr {r0 r1 r2 r3 r4 r5 r6 r7 f f2 : Nat → Int32} {n c : Nat} (h : TRf r0 r1 r2 r3 r4 r5 r6 r7 f n c) (hf : ∀ x, x < 460 → f x = f2 x) : TRf r0 r1 r2 r3 r4 r5 r6 r7 f2 n c := by
  obtain ⟨h0, h1, h2, h3, h4, h5, h6, h7⟩ := h
  have hn := h0.1
  have hc := h0.2.1
  refine ⟨h0.congr hf, h1, h2, fun k hk => ?_, fun k hk => ?_, fun i hi => ?_, fun g hg => ?_, h7⟩
  · rw [← hf _ (by omega)]; exact h3 k hk
  · rw [← hf _ (by omega)]; exact h4 k hk
  · rw [← hf _ (by omega), ← hf _ (by omega)]; exact h5 i hi
  · rw [← hf _ (by omega), ← hf _ (by omega)]
    refine ⟨(h6 g hg).1, (h6 g hg).2.1, fun d hd => ?_⟩
    rw [← hf _ (by omega)]; exact (h6 g hg).2.2 d hd
theorem TR.rows {σ τ : mS} {b b2 : Nat} {f : Nat → Int32} {n c : Nat} (h : TR σ b f n c) (hr : ∀ k, k < 8 → τ (b2 + k) = σ (b + k)) : TR τ b2 f n c := by
  unfold TR at h ⊢
  rw [hr 1 (by omega), hr 2 (by omega), hr 3 (by omega), hr 4 (by omega), hr 5 (by omega), hr 6 (by omega), hr 7 (by omega), show τ b2 = σ b from hr 0 (by omega)]
  exact h
theorem cpy_in (f g : Nat → Int32) {n k : Nat} (h : k < n) : va_cpy f g 0 0 n k = f k := by
  simp only [va_cpy]; rw [if_pos (by omega)]; congr 1; omega
/-- a copy says the same -/
theorem TR_copy {σ : mS} {b o : Nat} {f : Nat → Int32} {n c : Nat} (h : TR σ o f n c) (hd : b + 8 ≤ o ∨ o + 8 ≤ b) : TR (copyT σ b o) b f n c := by
  have e0 : copyT σ b o b = upd (upd (σ b) 0 (σ o 0)) 4 (σ o 4) := by
    simp only [copyT, cp1]
    rw [upR_n _ _ (by omega), upR_n _ _ (by omega), upR_n _ _ (by omega), upR_n _ _ (by omega)]
    simp [up, upR]
  have e7 : ∀ k, k < 8 → copyT σ b o (b + 7) k = σ (o + 7) k := by
    intro k hk
    simp only [copyT, cp1]
    rw [upR_s, cpy_in _ _ hk, upR_n _ _ (by omega), upR_n _ _ (by omega), upR_n _ _ (by omega), up_n _ _ _ (by omega), upR_n _ _ (by omega), upR_n _ _ (by omega), upR_n _ _ (by omega), up_n _ _ _ (by omega)]
  have e6 : ∀ k, k < 6 → copyT σ b o (b + 6) k = σ (o + 6) k := by
    intro k hk
    simp only [copyT, cp1]
    rw [upR_n _ _ (by omega), upR_s, cpy_in _ _ hk, upR_n _ _ (by omega), upR_n _ _ (by omega), up_n _ _ _ (by omega), upR_n _ _ (by omega), upR_n _ _ (by omega), upR_n _ _ (by omega), up_n _ _ _ (by omega)]
  have e5 : ∀ k, k < 4 → copyT σ b o (b + 5) k = σ (o + 5) k := by
    intro k hk
    simp only [copyT, cp1]
    rw [upR_n _ _ (by omega), upR_n _ _ (by omega), upR_s, cpy_in _ _ hk, upR_n _ _ (by omega), up_n _ _ _ (by omega), upR_n _ _ (by omega), upR_n _ _ (by omega), upR_n _ _ (by omega), up_n _ _ _ (by omega)]
  have e4 : ∀ k, k < 4 → copyT σ b o (b + 4) k = σ (o + 4) k := by
    intro k hk
    simp only [copyT, cp1]
    rw [upR_n _ _ (by omega), upR_n _ _ (by omega), upR_n _ _ (by omega), upR_s, cpy_in _ _ hk, up_n _ _ _ (by omega), upR_n _ _ (by omega), upR_n _ _ (by omega), upR_n _ _ (by omega), up_n _ _ _ (by omega)]
  have e3 : ∀ k, k < 420 → copyT σ b o (b + 3) k = σ (o + 3) k := by
    intro k hk
    simp only [copyT, cp1]
    rw [upR_n _ _ (by omega), upR_n _ _ (by omega), upR_n _ _ (by omega), upR_n _ _ (by omega), up_n _ _ _ (by omega), upR_s, cpy_in _ _ hk, upR_n _ _ (by omega), upR_n _ _ (by omega), up_n _ _ _ (by omega)]
  have e2 : ∀ k, k < 6 → copyT σ b o (b + 2) k = σ (o + 2) k := by
    intro k hk
    simp only [copyT, cp1]
    rw [upR_n _ _ (by omega), upR_n _ _ (by omega), upR_n _ _ (by omega), upR_n _ _ (by omega), up_n _ _ _ (by omega), upR_n _ _ (by omega), upR_s, cpy_in _ _ hk, upR_n _ _ (by omega), up_n _ _ _ (by omega)]
  have e1 : ∀ k, k < 6 → copyT σ b o (b + 1) k = σ (o + 1) k := by
    intro k hk
    simp only [copyT, cp1]
    rw [upR_n _ _ (by omega), upR_n _ _ (by omega), upR_n _ _ (by omega), upR_n _ _ (by omega), up_n _ _ _ (by omega), upR_n _ _ (by omega), upR_n _ _ (by omega), upR_s, cpy_in _ _ hk, up_n _ _ _ (by omega)]
  obtain ⟨h0, h1, h2, h3, h4, h5, h6, h7⟩ := h
  have hn := h0.1
  have hc := h0.2.1
  refine ⟨h0, ?_, ?_, fun k hk => ?_, fun k hk => ?_, fun i hi => ?_, fun g hg => ⟨?_, ?_, fun d hd => ?_⟩, fun j hj hj2 => ?_⟩
  · rw [e0]; simp only [upd]; exact h1
  · rw [e0]; simp only [upd]; exact h2
  · rw [e7 k hk]; exact h3 k hk
  · rw [e6 k hk]; exact h4 k hk
  · rw [e4 i (by omega), e5 i (by omega)]; exact h5 i hi
  · rw [e1 g (by omega)]; exact (h6 g hg).1
  · rw [e2 g (by omega)]; exact (h6 g hg).2.1
  · rw [e3 _ (by omega)]; exact (h6 g hg).2.2 d hd
  · rw [e3 _ hj2]; exact h7 j hj hj2
section TRS
variable {r0 r1 r2 r3 r4 r5 r6 r7 f : Nat → Int32} {n c : Nat}
/-- a group more -/
theorem TRf.group (h : TRf r0 r1 r2 r3 r4 r5 r6 r7 f n c) (hn6 : n < 6) {x y : Int32} (hx : ∃ v, v ≤ 9999 ∧ x = nI v) (hy : ∃ v, v ≤ 9999 ∧ y = nI v) : TRf (upd r0 0 (nI (n + 1))) (upd r1 n x) (upd r2 n y) r3 r4 r5 r6 r7 (comesF f n x y) (n + 1) c := by
  obtain ⟨⟨hn, hc, b3, b4, b5, b6, b7, b8, b9⟩, h1, h2, h3, h4, h5, h6, h7⟩ := h
  have lo : ∀ j, j < 23 → comesF f n x y j = f j := fun j hj => by
    simp only [comesF, upd, fillR]
    rw [if_neg (by omega), if_neg (by omega), if_neg (by omega), if_neg (by omega)]
  have e24 : ∀ g, g < n → comesF f n x y (24 + 2 * g) = f (24 + 2 * g) := fun g hg => by
    simp only [comesF, upd, fillR]
    rw [if_neg (by omega), if_neg (by omega), if_neg (by omega), if_neg (by omega)]
  have e25 : ∀ g, g < n → comesF f n x y (24 + 2 * g + 1) = f (24 + 2 * g + 1) := fun g hg => by
    simp only [comesF, upd, fillR]
    rw [if_neg (by omega), if_neg (by omega), if_neg (by omega), if_neg (by omega)]
  have n24 : comesF f n x y (24 + 2 * n) = x := by
    simp only [comesF, upd, fillR]
    rw [if_neg (by omega), if_neg (by omega), if_neg (by omega), if_pos trivial]
  have n25 : comesF f n x y (24 + 2 * n + 1) = y := by
    simp only [comesF, upd, fillR]
    rw [if_neg (by omega), if_neg (by omega), if_pos trivial]
  have e40 : ∀ g d, g < n → d < 70 → comesF f n x y (40 + 70 * g + d) = f (40 + 70 * g + d) := fun g d hg hd => by
    simp only [comesF, upd, fillR]
    rw [if_neg (by omega), if_neg (by omega), if_neg (by omega), if_neg (by omega)]
  have n40 : ∀ d, d < 70 → comesF f n x y (40 + 70 * n + d) = nI 0 := fun d hd => by
    simp only [comesF, upd, fillR]
    rw [if_neg (by omega), if_pos (by omega)]
  refine ⟨⟨by omega, hc, ?_, by rw [lo _ (by omega)]; exact b4, fun k hk => ?_, fun k hk => by rw [lo _ (by omega)]; exact b6 k hk, by rw [lo _ (by omega)]; exact b7, fun i hi => by rw [lo _ (by omega), lo _ (by omega)]; exact b8 i hi, fun g hg => ?_⟩, ?_, ?_, fun k hk => by rw [lo _ (by omega)]; exact h3 k hk, fun k hk => by rw [lo _ (by omega)]; exact h4 k hk, fun i hi => by rw [lo _ (by omega), lo _ (by omega)]; exact h5 i hi, fun g hg => ?_, fun j hj hj2 => h7 j (by omega) hj2⟩
  · simp [comesF, upd]
  · show inR (comesF f n x y (6 + k)) _ _ = true
    rw [lo _ (by omega)]; exact b5 k hk
  · by_cases e : g = n
    · subst e
      exact ⟨by rw [n24]; exact hx, by rw [n25]; exact hy, fun d hd => ⟨0, by omega, n40 d hd⟩⟩
    · rw [e24 g (by omega), e25 g (by omega)]
      refine ⟨(b9 g (by omega)).1, (b9 g (by omega)).2.1, fun d hd => ?_⟩
      rw [e40 g d (by omega) hd]; exact (b9 g (by omega)).2.2 d hd
  · simp [upd]
  · simp only [upd]; exact h2
  · by_cases e : g = n
    · subst e
      refine ⟨by rw [n24]; simp [upd], by rw [n25]; simp [upd], fun d hd => ?_⟩
      rw [n40 d hd]; exact h7 _ (by omega) (by omega)
    · rw [e24 g (by omega), e25 g (by omega)]
      refine ⟨by simp only [upd, if_neg e]; exact (h6 g (by omega)).1, by simp only [upd, if_neg e]; exact (h6 g (by omega)).2.1, fun d hd => ?_⟩
      rw [e40 g d (by omega) hd]; exact (h6 g (by omega)).2.2 d hd
/-- a load that is another -/
theorem TRf.load (h : TRf r0 r1 r2 r3 r4 r5 r6 r7 f n c) {k : Nat} (hk : k < 6) (hk0 : 0 < k) {x : Int32} (hx : ∃ v, v ≤ 300 ∧ x = nI v) : TRf r0 r1 r2 r3 r4 r5 (upd r6 k x) r7 (upd f k x) n c := by
  obtain ⟨⟨hn, hc, b3, b4, b5, b6, b7, b8, b9⟩, h1, h2, h3, h4, h5, h6, h7⟩ := h
  have hi : ∀ j, 6 ≤ j → upd f k x j = f j := fun j hj => by simp only [upd]; rw [if_neg (by omega)]
  refine ⟨⟨hn, hc, by rw [hi _ (by omega)]; exact b3, by rw [hi _ (by omega)]; exact b4, fun q hq => ?_, fun q hq => ?_, ?_, fun i hi2 => by rw [hi _ (by omega), hi _ (by omega)]; exact b8 i hi2, fun g hg => ⟨by rw [hi _ (by omega)]; exact (b9 g hg).1, by rw [hi _ (by omega)]; exact (b9 g hg).2.1, fun d hd => by rw [hi _ (by omega)]; exact (b9 g hg).2.2 d hd⟩⟩, h1, h2, fun q hq => by rw [hi _ (by omega)]; exact h3 q hq, fun q hq => ?_, fun i hi2 => by rw [hi _ (by omega), hi _ (by omega)]; exact h5 i hi2, fun g hg => ⟨by rw [hi _ (by omega)]; exact (h6 g hg).1, by rw [hi _ (by omega)]; exact (h6 g hg).2.1, fun d hd => by rw [hi _ (by omega)]; exact (h6 g hg).2.2 d hd⟩, h7⟩
  · show inR (upd f k x (6 + q)) _ _ = true
    rw [hi _ (by omega)]; exact b5 q hq
  · by_cases e : q = k
    · subst e; simp only [upd, if_true]; exact hx
    · simp only [upd, if_neg e]; exact b6 q hq
  · simp only [upd]; rw [if_neg (by omega)]; exact b7
  · by_cases e : q = k
    · subst e; simp [upd]
    · simp only [upd, if_neg e]; exact h4 q hq
/-- a setting that is another -/
theorem TRf.set (h : TRf r0 r1 r2 r3 r4 r5 r6 r7 f n c) {k : Nat} (hk : k < 8) {x : Int32} (hx : inR x (mLeast.getD k 0) (mMost.getD k 0) = true) : TRf r0 r1 r2 r3 r4 r5 r6 (upd r7 k x) (upd f (6 + k) x) n c := by
  obtain ⟨⟨hn, hc, b3, b4, b5, b6, b7, b8, b9⟩, h1, h2, h3, h4, h5, h6, h7⟩ := h
  have hi : ∀ j, j < 6 ∨ 14 ≤ j → upd f (6 + k) x j = f j := fun j hj => by simp only [upd]; rw [if_neg (by omega)]
  refine ⟨⟨hn, hc, by rw [hi _ (by omega)]; exact b3, by rw [hi _ (by omega)]; exact b4, fun q hq => ?_, fun q hq => by rw [hi _ (by omega)]; exact b6 q hq, by rw [hi _ (by omega)]; exact b7, fun i hi2 => by rw [hi _ (by omega), hi _ (by omega)]; exact b8 i hi2, fun g hg => ⟨by rw [hi _ (by omega)]; exact (b9 g hg).1, by rw [hi _ (by omega)]; exact (b9 g hg).2.1, fun d hd => by rw [hi _ (by omega)]; exact (b9 g hg).2.2 d hd⟩⟩, h1, h2, fun q hq => ?_, fun q hq => by rw [hi _ (by omega)]; exact h4 q hq, fun i hi2 => by rw [hi _ (by omega), hi _ (by omega)]; exact h5 i hi2, fun g hg => ⟨by rw [hi _ (by omega)]; exact (h6 g hg).1, by rw [hi _ (by omega)]; exact (h6 g hg).2.1, fun d hd => by rw [hi _ (by omega)]; exact (h6 g hg).2.2 d hd⟩, h7⟩
  · show inR (upd f (6 + k) x (6 + q)) _ _ = true
    by_cases e : q = k
    · subst e; simp only [upd, if_true]; exact hx
    · simp only [upd]; rw [if_neg (by omega)]; exact b5 q hq
  · by_cases e : q = k
    · subst e; simp [upd]
    · simp only [upd, if_neg e]; rw [if_neg (by omega)]; exact h3 q hq
/-- a camp more -/
theorem TRf.camp (h : TRf r0 r1 r2 r3 r4 r5 r6 r7 f n c) (hc4 : c < 4) {a e : Nat} (hae : a ≤ e) (he : e < 70) : TRf (upd r0 4 (nI (c + 1))) r1 r2 r3 (upd r4 c (nI a)) (upd r5 c (nI e)) r6 r7 (campComesF f c (nI a) (nI e)) n (c + 1) := by
  obtain ⟨⟨hn, hc, b3, b4, b5, b6, b7, b8, b9⟩, h1, h2, h3, h4, h5, h6, h7⟩ := h
  have hi : ∀ j, j < 14 ∨ 23 ≤ j → campComesF f c (nI a) (nI e) j = f j := fun j hj => by
    simp only [campComesF, upd]
    rw [if_neg (by omega), if_neg (by omega), if_neg (by omega)]
  have e1 : ∀ i, i < c → campComesF f c (nI a) (nI e) (15 + 2 * i) = f (15 + 2 * i) := fun i hi => by
    simp only [campComesF, upd]
    rw [if_neg (by omega), if_neg (by omega), if_neg (by omega)]
  have e2 : ∀ i, i < c → campComesF f c (nI a) (nI e) (15 + 2 * i + 1) = f (15 + 2 * i + 1) := fun i hi => by
    simp only [campComesF, upd]
    rw [if_neg (by omega), if_neg (by omega), if_neg (by omega)]
  have n1 : campComesF f c (nI a) (nI e) (15 + 2 * c) = nI a := by
    simp only [campComesF, upd]
    rw [if_neg (by omega), if_neg (by omega), if_pos trivial]
  have n2 : campComesF f c (nI a) (nI e) (15 + 2 * c + 1) = nI e := by
    simp only [campComesF, upd]
    rw [if_neg (by omega), if_pos trivial]
  refine ⟨⟨hn, by omega, by rw [hi _ (by omega)]; exact b3, by simp [campComesF, upd], fun q hq => ?_, fun q hq => by rw [hi _ (by omega)]; exact b6 q hq, by rw [hi _ (by omega)]; exact b7, fun i hi2 => ?_, fun g hg => ⟨by rw [hi _ (by omega)]; exact (b9 g hg).1, by rw [hi _ (by omega)]; exact (b9 g hg).2.1, fun d hd => by rw [hi _ (by omega)]; exact (b9 g hg).2.2 d hd⟩⟩, by simp only [upd]; exact h1, by simp [upd], fun q hq => by rw [hi _ (by omega)]; exact h3 q hq, fun q hq => by rw [hi _ (by omega)]; exact h4 q hq, fun i hi2 => ?_, fun g hg => ⟨by rw [hi _ (by omega)]; exact (h6 g hg).1, by rw [hi _ (by omega)]; exact (h6 g hg).2.1, fun d hd => by rw [hi _ (by omega)]; exact (h6 g hg).2.2 d hd⟩, h7⟩
  · show inR (campComesF f c (nI a) (nI e) (6 + q)) _ _ = true
    rw [hi _ (by omega)]; exact b5 q hq
  · by_cases ei : i = c
    · subst ei; exact ⟨a, e, hae, he, n1, n2⟩
    · rw [e1 i (by omega), e2 i (by omega)]; exact b8 i (by omega)
  · by_cases ei : i = c
    · subst ei; rw [n1, n2]; simp [upd]
    · rw [e1 i (by omega), e2 i (by omega)]
      simp only [upd, if_neg ei]
      exact h5 i (by omega)
/-- a camp goes -/
theorem TRf.strike (h : TRf r0 r1 r2 r3 r4 r5 r6 r7 f n c) {q : Nat} (hq : q < c) : TRf (upd r0 4 (nI (c - 1))) r1 r2 r3 (va_cpy r4 r4 (q + 1) q (c - 1 - q)) (va_cpy r5 r5 (q + 1) q (c - 1 - q)) r6 r7 (strikesF f q c) n (c - 1) := by
  obtain ⟨⟨hn, hc, b3, b4, b5, b6, b7, b8, b9⟩, h1, h2, h3, h4, h5, h6, h7⟩ := h
  have hi : ∀ j, j < 14 ∨ 23 ≤ j → strikesF f q c j = f j := fun j hj => by
    simp only [strikesF, upd, va_cpy]
    rw [if_neg (by omega), if_neg (by omega)]
  have e1 : ∀ i, i < c - 1 → strikesF f q c (15 + 2 * i) = f (15 + 2 * (if i < q then i else i + 1)) := fun i hi => by
    simp only [strikesF, upd, va_cpy]
    rw [if_neg (by omega)]
    by_cases h : i < q
    · rw [if_neg (by omega), if_pos h]
    · rw [if_pos (by omega), if_neg h]; congr 1; omega
  have e2 : ∀ i, i < c - 1 → strikesF f q c (15 + 2 * i + 1) = f (15 + 2 * (if i < q then i else i + 1) + 1) := fun i hi => by
    simp only [strikesF, upd, va_cpy]
    rw [if_neg (by omega)]
    by_cases h : i < q
    · rw [if_neg (by omega), if_pos h]
    · rw [if_pos (by omega), if_neg h]; congr 1; omega
  have e3 : ∀ (r : Nat → Int32) i, i < c - 1 → va_cpy r r (q + 1) q (c - 1 - q) i = r (if i < q then i else i + 1) := fun r i hi => by
    simp only [va_cpy]
    by_cases h : i < q
    · rw [if_neg (by omega), if_pos h]
    · rw [if_pos (by omega), if_neg h]; congr 1; omega
  have hlt : ∀ i, i < c - 1 → (if i < q then i else i + 1) < c := fun i hi => by split <;> omega
  refine ⟨⟨hn, by omega, by rw [hi _ (by omega)]; exact b3, by simp [strikesF, upd], fun k hk => ?_, fun k hk => by rw [hi _ (by omega)]; exact b6 k hk, by rw [hi _ (by omega)]; exact b7, fun i hi2 => ?_, fun g hg => ⟨by rw [hi _ (by omega)]; exact (b9 g hg).1, by rw [hi _ (by omega)]; exact (b9 g hg).2.1, fun d hd => by rw [hi _ (by omega)]; exact (b9 g hg).2.2 d hd⟩⟩, by simp only [upd]; exact h1, by simp [upd], fun k hk => by rw [hi _ (by omega)]; exact h3 k hk, fun k hk => by rw [hi _ (by omega)]; exact h4 k hk, fun i hi2 => ?_, fun g hg => ⟨by rw [hi _ (by omega)]; exact (h6 g hg).1, by rw [hi _ (by omega)]; exact (h6 g hg).2.1, fun d hd => by rw [hi _ (by omega)]; exact (h6 g hg).2.2 d hd⟩, h7⟩
  · show inR (strikesF f q c (6 + k)) _ _ = true
    rw [hi _ (by omega)]; exact b5 k hk
  · rw [e1 i hi2, e2 i hi2]; exact b8 _ (hlt i hi2)
  · rw [e1 i hi2, e2 i hi2, e3 r4 i hi2, e3 r5 i hi2]; exact h5 _ (hlt i hi2)
/-- days of a group are of a kind -/
theorem TRf.plan (h : TRf r0 r1 r2 r3 r4 r5 r6 r7 f n c) {g a m k : Nat} (hg : g < n) (hm : a + m ≤ 70) (hk : k < 6) : TRf r0 r1 r2 (fillR r3 (g * 70 + a) (g * 70 + a + m) (nI k)) r4 r5 r6 r7 (fillR f (40 + 70 * g + a) (40 + 70 * g + a + m) (nI k)) n c := by
  obtain ⟨⟨hn, hc, b3, b4, b5, b6, b7, b8, b9⟩, h1, h2, h3, h4, h5, h6, h7⟩ := h
  have hi : ∀ j, j < 40 → fillR f (40 + 70 * g + a) (40 + 70 * g + a + m) (nI k) j = f j := fun j hj => by
    simp only [fillR]
    rw [if_neg (by omega)]
  refine ⟨⟨hn, hc, by rw [hi _ (by omega)]; exact b3, by rw [hi _ (by omega)]; exact b4, fun q hq => ?_, fun q hq => by rw [hi _ (by omega)]; exact b6 q hq, by rw [hi _ (by omega)]; exact b7, fun i hi2 => by rw [hi _ (by omega), hi _ (by omega)]; exact b8 i hi2, fun g2 hg2 => ⟨by rw [hi _ (by omega)]; exact (b9 g2 hg2).1, by rw [hi _ (by omega)]; exact (b9 g2 hg2).2.1, fun d hd => ?_⟩⟩, h1, h2, fun q hq => by rw [hi _ (by omega)]; exact h3 q hq, fun q hq => by rw [hi _ (by omega)]; exact h4 q hq, fun i hi2 => by rw [hi _ (by omega), hi _ (by omega)]; exact h5 i hi2, fun g2 hg2 => ⟨by rw [hi _ (by omega)]; exact (h6 g2 hg2).1, by rw [hi _ (by omega)]; exact (h6 g2 hg2).2.1, fun d hd => ?_⟩, fun j hj hj2 => ?_⟩
  · show inR (fillR f _ _ _ (6 + q)) _ _ = true
    rw [hi _ (by omega)]; exact b5 q hq
  · simp only [fillR]
    split
    · exact ⟨k, hk, rfl⟩
    · exact (b9 g2 hg2).2.2 d hd
  · simp only [fillR]
    by_cases h : g * 70 + a ≤ g2 * 70 + d ∧ g2 * 70 + d < g * 70 + a + m
    · rw [if_pos h, if_pos (by omega)]
    · rw [if_neg h, if_neg (by omega)]; exact (h6 g2 hg2).2.2 d hd
  · simp only [fillR]
    have : g * 70 + 70 ≤ n * 70 := by omega
    rw [if_neg (by omega)]; exact h7 j hj hj2
end TRS
