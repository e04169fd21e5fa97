/-! ===== without, ahead, swap ===== -/
/-- another plan for a group -/
def plR (f : Nat → Int32) (g : Nat) (K : Nat → Int32) : Nat → Int32 := fun x => if 40 + 70 * g ≤ x ∧ x < 40 + 70 * g + 70 then K (x - (40 + 70 * g)) else f x
theorem plR_lo (f : Nat → Int32) (g : Nat) (K : Nat → Int32) {x : Nat} (h : x < 40) : plR f g K x = f x := by simp only [plR]; rw [if_neg (by omega)]
theorem plR_in (f : Nat → Int32) (g : Nat) (K : Nat → Int32) {k : Nat} (h : k < 70) : plR f g K (40 + 70 * g + k) = K k := by
  simp only [plR]
  rw [if_pos (by omega), show 40 + 70 * g + k - (40 + 70 * g) = k by omega]
theorem plR_self (f : Nat → Int32) (g : Nat) : plR f g (fun k => f (40 + 70 * g + k)) = f := by
  funext x
  simp only [plR]
  split
  · congr 1; omega
  · rfl
theorem plR_upd (f : Nat → Int32) (g : Nat) (K : Nat → Int32) {a : Nat} (v : Int32) (h : a < 70) : upd (plR f g K) (40 + 70 * g + a) v = plR f g (upd K a v) := by
  funext x
  simp only [plR, upd]
  by_cases e : x = 40 + 70 * g + a
  · subst e
    rw [if_pos rfl, if_pos (by omega), if_pos (by omega)]
  · rw [if_neg e]
    split
    · rw [if_neg (by omega)]
    · rfl
theorem plR_back (f : Nat → Int32) (g : Nat) (K W : Nat → Int32) (hW : ∀ k, k < 70 → W k = f (40 + 70 * g + k)) : plR (plR f g K) g W = f := by
  funext x
  simp only [plR]
  split
  · rw [hW _ (by omega)]; congr 1; omega
  · rfl
def okR (K : Nat → Int32) : Prop := ∀ k, k < 70 → ∃ j, j < 6 ∧ K k = nI j
theorem okR.up1 {K : Nat → Int32} (h : okR K) {a : Nat} {v : Int32} (hv : ∃ j, j < 6 ∧ v = nI j) : okR (upd K a v) := fun k hk => by
  simp only [upd]
  split
  · exact hv
  · exact h k hk
theorem okB.row {f : Nat → Int32} {n c g : Nat} (h : okB f n c) (hg : g < n) : okR (fun k => f (40 + 70 * g + k)) := (h.2.2.2.2.2.2.2.2 g hg).2.2
theorem okB.pl {f : Nat → Int32} {n c g : Nat} (h : okB f n c) (hg : g < n) {K : Nat → Int32} (hK : okR K) : okB (plR f g K) n c := by
  obtain ⟨h1, h2, h3, h4, h5, h6, h7, h8, h9⟩ := h
  refine ⟨h1, h2, by rw [plR_lo _ _ _ (by omega)]; exact h3, by rw [plR_lo _ _ _ (by omega)]; exact h4, fun k hk => ?_, fun k hk => ?_, by rw [plR_lo _ _ _ (by omega)]; exact h7, fun i hi => ?_, fun i hi => ⟨?_, ?_, fun d hd => ?_⟩⟩
  · show inR (plR f g K (6 + k)) _ _ = true
    rw [plR_lo _ _ _ (by omega)]; exact h5 k hk
  · rw [plR_lo _ _ _ (by omega)]; exact h6 k hk
  · rw [plR_lo _ _ _ (by omega), plR_lo _ _ _ (by omega)]; exact h8 i hi
  · rw [plR_lo _ _ _ (by omega)]; exact (h9 i hi).1
  · rw [plR_lo _ _ _ (by omega)]; exact (h9 i hi).2.1
  · by_cases e : i = g
    · subst e; rw [plR_in _ _ _ hd]; exact hK d hd
    · have : plR f g K (40 + 70 * i + d) = f (40 + 70 * i + d) := by
        simp only [plR]; rw [if_neg (by omega)]
      rw [this]; exact (h9 i hi).2.2 d hd
/-- plans that are alike for m days -/
theorem pl_eq {f : Nat → Int32} {n c g m : Nat} (h : okB f n c) (hg : g < n) {K L : Nat → Int32} (hK : okR K) (x : Int32) (hm : m ≤ 70) (hKL : ∀ k, k < m → K k = L k) : sEq (pQ (plR f g K) g c x) (pQ (plR f g L) g c x) m := by
  have hn6 := h.1
  have hc4 := h.2.1
  refine ⟨fun k hk => ?_, fun k hk => ⟨?_, ?_⟩, ?_, ?_⟩
  · show plR f g K (6 + k) = plR f g L (6 + k)
    rw [plR_lo _ _ _ (by omega), plR_lo _ _ _ (by omega)]
  · show plR f g K (plR f g K (40 + 70 * g + k)).toNatClampNeg = plR f g L (plR f g L (40 + 70 * g + k)).toNatClampNeg
    obtain ⟨j, hj, e⟩ := hK k (by omega)
    rw [plR_in _ _ _ (by omega), plR_in _ _ _ (by omega), ← hKL k hk, e, nI_clamp (by omega), plR_lo _ _ _ (by omega), plR_lo _ _ _ (by omega)]
  · exact cfN_congr x k c (fun i hi => ⟨by rw [plR_lo _ _ _ (by omega), plR_lo _ _ _ (by omega)], by rw [plR_lo _ _ _ (by omega), plR_lo _ _ _ (by omega)]⟩)
  · show plR f g K (24 + 2 * g) = plR f g L (24 + 2 * g)
    rw [plR_lo _ _ _ (by omega), plR_lo _ _ _ (by omega)]
  · show plR f g K (24 + 2 * g + 1) = plR f g L (24 + 2 * g + 1)
    rw [plR_lo _ _ _ (by omega), plR_lo _ _ _ (by omega)]
theorem Fw.rows {σ τ : mS} {a : Nat} {f : Nat → Int32} {g nc N : Nat} {x : Int32} (h : Fw σ a f g nc x N) (hr : ∀ b, a < b → b ≤ a + 10 → τ b = σ b) : Fw τ a f g nc x N := by
  unfold Fw Lived at h ⊢
  rw [hr (a + 1) (by omega) (by omega), hr (a + 2) (by omega) (by omega), hr (a + 3) (by omega) (by omega), hr (a + 4) (by omega) (by omega), hr (a + 5) (by omega) (by omega), hr (a + 6) (by omega) (by omega), hr (a + 7) (by omega) (by omega), hr (a + 8) (by omega) (by omega), hr (a + 9) (by omega) (by omega), hr (a + 10) (by omega) (by omega)]
  exact h
/-- another kind for a day behind those that are lived -/
theorem Fw.put {σ : mS} {f K : Nat → Int32} {g n c N m a : Nat} {x v : Int32} (hb : okB f n c) (hg : g < n) (hK : okR K) (h : Fw σ 29 (plR f g K) g c x N) (ha : a < 70) (hm : m ≤ N) (hma : m ≤ a) : Fw (up σ 32 a v) 29 (plR f g (upd K a v)) g c x m := by
  have hn6 := hb.1
  have hE := pl_eq (m := m) (x := x) hb hg hK (L := upd K a v) (by omega) (fun k hk => by simp only [upd]; rw [if_neg (by omega)])
  have hE2 := pl_eq (m := 0) (x := x) hb hg hK (L := upd K a v) (by omega) (fun k hk => absurd hk (Nat.not_lt_zero k))
  have hL : Lived (up σ 32 a v) 29 (pQ (plR f g K) g c x) m := h.1.mono hm
  refine ⟨hL.congr hE (fun k hk => ?_), fun k hk => ?_, fun j hj => ?_⟩
  · exact cfN_congr x k c (fun i hi => by have hc4 := hb.2.1; exact ⟨by rw [plR_lo _ _ _ (by omega), plR_lo _ _ _ (by omega)], by rw [plR_lo _ _ _ (by omega), plR_lo _ _ _ (by omega)]⟩)
  · rw [plR_in _ _ _ hk]
    show upd (σ 32) a v k = upd K a v k
    have := h.2.1 k hk
    rw [plR_in _ _ _ hk] at this
    simp only [upd]
    split
    · rfl
    · exact this
  · have := h.2.2 j hj
    rw [plR_lo _ _ _ (by omega)] at this
    rw [plR_lo _ _ _ (by omega)]
    exact this
section QC
variable {G : mG} {d n c : Nat} {σ : mS}
theorem q_live {f : Nat → Int32} {g m N : Nat} {x y : Int32} (hb : okB f n c) (hg : g < n) (h : Fw σ 29 f g c x m) (hm : m ≤ N) (hN : N ≤ 70) (hy : y = nI N - nI 1) : ∃ τ, mV G mX0_live (d + 3) [.ref 29, .int (nI m), .int y] σ none τ ∧ Fw τ 29 f g c x N ∧ ∀ b, b < 34 ∨ 39 < b → τ b = σ b := by
  have hL := h.1.nexts (N - m)
  rw [show m + (N - m) = N by omega] at hL
  refine ⟨_, v_live (G := G) (d := d) isCourse_29 hy hm hN h.1 (hb.s g c x) (fun k h1 h2 => ?_), ⟨hL, fun k hk => ?_, fun j hj => ?_⟩, fun b hb => lvS_far _ _ (by omega) _⟩
  · obtain ⟨j, hj, e⟩ := hb.row hg k (by omega)
    refine ⟨j, hj, (h.2.1 k (by omega)).trans e, (h.2.2 j hj).trans ?_⟩
    show f j = f (f (40 + 70 * g + k)).toNatClampNeg
    rw [show f (40 + 70 * g + k) = nI j from e, nI_clamp (by omega)]
  · rw [lvS_far _ _ (by omega)]; exact h.2.1 k hk
  · rw [lvS_far _ _ (by omega)]; exact h.2.2 j hj
/-- the book's course was lived again -/
theorem q_frL {τ τ1 : mS} {f : Nat → Int32} {g m : Nat} {x : Int32} (hC : RC τ1) (hw : Fw τ 29 f g c x m) (far : ∀ b, b < 29 ∨ 39 < b → τ b = τ1 b) (h33 : τ 33 = τ1 33) : Fr τ1 τ := by
  refine ⟨fun b hb => far b (by omega), by rw [far 116 (by omega)], by rw [far 116 (by omega)], by rw [far 116 (by omega)], ?_⟩
  obtain ⟨c1, c2, c3, c4, c5⟩ := hC
  have hz := hw.1.2.2.1 0 (by omega)
  refine ⟨by rw [far 116 (by omega)]; exact c1, by rw [far 116 (by omega)]; exact c2, by rw [far 127 (by omega)]; exact c3, ⟨hz.2.2.1, hz.2.2.2, ?_⟩, ?_⟩
  · rw [h33]; exact c4.2.2
  · rw [far 48 (by omega), far 49 (by omega), far 44 (by omega)]; exact c5
/-- the reference went through the days again -/
theorem q_frX {τ τ1 : mS} (hC : RC τ1) (far : ∀ b, b < 124 ∨ 130 < b → b ≠ 116 → τ b = τ1 b) (h4 : τ 116 4 = τ1 116 4) (h6 : τ 116 6 = τ1 116 6) (h7 : τ 116 7 = τ1 116 7) (h23 : τ 116 23 = -1) (h24 : τ 116 24 = -1) (h0 : τ 127 0 = nI 0) : Fr τ1 τ := by
  refine ⟨fun b hb => far b (by omega) (by omega), h4, h6, h7, ?_⟩
  obtain ⟨c1, c2, c3, c4, c5⟩ := hC
  refine ⟨h23, h24, h0, ?_, ?_⟩
  · rw [far 37 (by omega) (by omega), far 38 (by omega) (by omega), far 33 (by omega) (by omega)]; exact c4
  · rw [far 48 (by omega) (by omega), far 49 (by omega) (by omega), far 44 (by omega) (by omega)]; exact c5

theorem b_withoutA (hq : QR σ n c) {g e k : Int32} (h : (grB (nI n) g && dB e && grB (nI c) k) = false) : Ask G mX4_without [.ref 3, .int g, .int e, .int k] (-1000000000) σ := by
  have hn := hq.1.2.1
  have h23 := hq.1.1.2.2.1
  have hn6 := hq.1.1.1
  have hc4 := hq.1.1.2.1
  have h44 := hq.1.2.2.1
  have h14 := hq.1.1.2.2.2.1
  refine ⟨σ, mV_of fun Q hQ => ?_, Fr.rfl hq⟩
  refine F_aload_n dX4_without_0 rfl ?_
  refine F_getr dX4_without_1 rfl rfl (by first | assumption | rfl) rfl ?_
  refine F_iload_n dX4_without_4 rfl ?_
  refine F_cV1i (v_hasGroup (d := 10) isTold_4 _) dX4_without_5 rfl rfl (by decide) (by first | assumption | rfl) rfl rfl rfl (by decide) (Nat.le_of_ble_eq_true rfl) (by omega) ?_
  refine F_if_eqB (tgt := 29) dX4_without_8 rfl (fun c8 => ?_) (fun c8 => ?_)
  · refine F_ldc dX4_without_29 rfl rfl ?_
    refine F_iret dX4_without_31 rfl ?_
    exact hQ
  · refine F_iload_n dX4_without_11 rfl ?_
    refine F_cS1i (v_bIsDay (d := 10) _) dX4_without_12 rfl rfl rfl (by decide) (Nat.le_of_ble_eq_true rfl) (by omega) ?_
    refine F_if_eqB (tgt := 29) dX4_without_15 rfl (fun c15 => ?_) (fun c15 => ?_)
    · refine F_ldc dX4_without_29 rfl rfl ?_
      refine F_iret dX4_without_31 rfl ?_
      exact hQ
    · refine F_aload_n dX4_without_18 rfl ?_
      refine F_getr dX4_without_19 rfl rfl (by first | assumption | rfl) rfl ?_
      refine F_iload_n dX4_without_22 rfl ?_
      refine F_cV1i (v_hasCamp (d := 10) isTold_4 _) dX4_without_23 rfl rfl (by decide) (by first | assumption | rfl) rfl rfl rfl (by decide) (Nat.le_of_ble_eq_true rfl) (by omega) ?_
      refine F_if_neB (tgt := 32) dX4_without_26 rfl (fun c26 => ?_) (fun c26 => ?_)
      · exfalso
        have c8 : grB (σ 4 0) g = true := c8
        rw [hn] at c8
        have c26 : grB (σ 4 4) k = true := c26
        rw [h44] at c26
        rw [c8, c15, c26] at h
        cases h
      · refine F_ldc dX4_without_29 rfl rfl ?_
        refine F_iret dX4_without_31 rfl ?_
        exact hQ

theorem m_withoutA (hq : QR σ n c) {g e k : Int32} (h : (grB (nI n) g && dB e && grB (nI c) k) = false) : Ask G mX5_without [.ref 116, .int g, .int e, .int k] (-1000000000) σ := by
  have hn := hq.1.2.1
  have h23 := hq.1.1.2.2.1
  have hn6 := hq.1.1.1
  have hq1 := (Fr.thrown hq (nI 0)).qr hq
  have hc4 := hq.1.1.2.1
  have h44 := hq.1.2.2.1
  have h14 := hq.1.1.2.2.2.1
  refine ⟨(up σ 116 0 (nI 0)), mV_of fun Q hQ => ?_, Fr.thrown hq _⟩
  refine F_aload_n dX5_without_0 rfl ?_
  refine F_iconst (v := nI 0) dX5_without_1 rfl ?_
  refine F_put dX5_without_2 rfl rfl (by first | assumption | rfl) rfl rfl rfl rfl ?_
  refine F_aload_n dX5_without_5 rfl ?_
  refine F_iload_n dX5_without_6 rfl ?_
  refine F_iload_n dX5_without_7 rfl ?_
  refine F_cV2i (v_isOne (d := 5) _ _ (n := n) h23 (by omega)) dX5_without_8 rfl rfl (by decide) (by first | assumption | rfl) rfl rfl rfl (by decide) (Nat.le_of_ble_eq_true rfl) (by omega) ?_
  refine F_if_eqB (tgt := 28) dX5_without_11 rfl (fun c11 => ?_) (fun c11 => ?_)
  · refine F_ldc dX5_without_28 rfl rfl ?_
    refine F_iret dX5_without_30 rfl ?_
    exact hQ
  · refine F_iload_n dX5_without_14 rfl ?_
    refine F_iconst (v := nI 0) dX5_without_15 rfl ?_
    refine F_aload_n dX5_without_16 rfl ?_
    refine F_cV0i (v_camps (d := 5)) dX5_without_17 rfl rfl (by decide) (by first | assumption | rfl) rfl rfl rfl (by decide) (Nat.le_of_ble_eq_true rfl) (by omega) ?_
    refine F_iconst (v := nI 1) dX5_without_20 rfl ?_
    refine F_isub dX5_without_21 ?_
    refine F_cS3i (v_isIn (d := 5) _ _ _) dX5_without_22 rfl rfl rfl (by decide) (Nat.le_of_ble_eq_true rfl) (by omega) ?_
    refine F_if_neB (tgt := 31) dX5_without_25 rfl (fun c25 => ?_) (fun c25 => ?_)
    · exfalso
      rw [show (up σ 116 0 (nI 0)) 117 23 = nI n from h23] at c11
      rw [show (up σ 116 0 (nI 0)) 117 14 = nI c from h14, inR_grp _ (by omega)] at c25
      rw [c11, c25] at h
      cases h
    · refine F_ldc dX5_without_28 rfl rfl ?_
      refine F_iret dX5_without_30 rfl ?_
      exact hQ

theorem b_withoutB (hq : QR σ n c) {g e k : Nat} (hg : g < n) (he : e < 70) (hk : k < c) : Ask G mX4_without [.ref 3, .int (nI g), .int (nI e), .int (nI k)] (sForm (pQ (σ 117) g c (nI k)) e - sForm (pQ (σ 117) g c (-1)) e) σ := by
  have hn := hq.1.2.1
  have h23 := hq.1.1.2.2.1
  have hn6 := hq.1.1.1
  have hc4 := hq.1.1.2.1
  have h44 := hq.1.2.2.1
  have h14 := hq.1.1.2.2.2.1
  obtain ⟨τ, hv, hL, hC, far⟩ := b_asTold (G := G) hq hg he
  have hq2 : QR τ n c := (q_frB (n := n) (c := c) (Or.inl rfl) hC far).qr hq
  obtain ⟨τ2, hv2, hL2, hC2, far2⟩ := q_follow (G := G) (d := 6) (a := 29) (N := e + 1) (Or.inl rfl) hq2 hg (by omega) (nI k) (pred_s _ (by omega))
  rw [far 117 (by omega)] at hL2
  refine ⟨τ2, mV_of fun Q hQ => ?_, (q_frB (n := n) (c := c) (Or.inl rfl) hC far).trans (q_frB (n := n) (c := c) (Or.inl rfl) hC2 far2)⟩
  refine F_aload_n dX4_without_0 rfl ?_
  refine F_getr dX4_without_1 rfl rfl (by first | assumption | rfl) rfl ?_
  refine F_iload_n dX4_without_4 rfl ?_
  refine F_cV1i (v_hasGroup (d := 10) isTold_4 _) dX4_without_5 rfl rfl (by decide) (by first | assumption | rfl) rfl rfl rfl (by decide) (Nat.le_of_ble_eq_true rfl) (by omega) ?_
  refine F_if_eqB (tgt := 29) dX4_without_8 rfl (fun c8 => ?_) (fun c8 => ?_)
  · have c8 : grB (σ 4 0) (nI g) = false := c8
    rw [hn, grB_nI hg (by omega)] at c8
    cases c8
  · refine F_iload_n dX4_without_11 rfl ?_
    refine F_cS1i (v_bIsDay (d := 10) _) dX4_without_12 rfl rfl rfl (by decide) (Nat.le_of_ble_eq_true rfl) (by omega) ?_
    refine F_if_eqB (tgt := 29) dX4_without_15 rfl (fun c15 => ?_) (fun c15 => ?_)
    · rw [dB_nI he] at c15
      cases c15
    · refine F_aload_n dX4_without_18 rfl ?_
      refine F_getr dX4_without_19 rfl rfl (by first | assumption | rfl) rfl ?_
      refine F_iload_n dX4_without_22 rfl ?_
      refine F_cV1i (v_hasCamp (d := 10) isTold_4 _) dX4_without_23 rfl rfl (by decide) (by first | assumption | rfl) rfl rfl rfl (by decide) (Nat.le_of_ble_eq_true rfl) (by omega) ?_
      refine F_if_neB (tgt := 32) dX4_without_26 rfl (fun c26 => ?_) (fun c26 => ?_)
      · refine F_aload_n dX4_without_32 rfl ?_
        refine F_iload_n dX4_without_33 rfl ?_
        refine F_iload_n dX4_without_34 rfl ?_
        refine F_cV2i (hv) dX4_without_35 rfl rfl (by decide) (by first | assumption | rfl) rfl rfl rfl (by decide) (Nat.le_of_ble_eq_true rfl) (by omega) ?_
        refine F_istore dX4_without_38 (Nat.le_of_ble_eq_true rfl) ?_
        refine F_aload_n dX4_without_40 rfl ?_
        refine F_getr dX4_without_41 rfl rfl (by first | assumption | rfl) rfl ?_
        refine F_aload_n dX4_without_44 rfl ?_
        refine F_getr dX4_without_45 rfl rfl (by first | assumption | rfl) rfl ?_
        refine F_iload_n dX4_without_48 rfl ?_
        refine F_iload_n dX4_without_49 rfl ?_
        refine F_iload_n dX4_without_50 rfl ?_
        refine F_cV_riii_v (hv2) dX4_without_51 rfl rfl (by decide) (by first | assumption | rfl) rfl rfl rfl (by decide) (Nat.le_of_ble_eq_true rfl) (by omega) ?_
        refine F_aload_n dX4_without_54 rfl ?_
        refine F_getr dX4_without_55 rfl rfl (by first | assumption | rfl) rfl ?_
        refine F_iload_n dX4_without_58 rfl ?_
        refine F_cV1i (q_formOf (d := 5) isCourse_29 hL2 (Nat.lt_succ_self e) (by omega)) dX4_without_59 rfl rfl (by decide) (by first | assumption | rfl) rfl rfl rfl (by decide) (Nat.le_of_ble_eq_true rfl) (by omega) ?_
        refine F_iload dX4_without_62 rfl ?_
        refine F_isub dX4_without_64 ?_
        refine F_iret dX4_without_65 rfl ?_
        exact hQ
      · have c26 : grB (σ 4 4) (nI k) = false := c26
        rw [h44, grB_nI hk (by omega)] at c26
        cases c26

theorem m_withoutB (hq : QR σ n c) {g e k : Nat} (hg : g < n) (he : e < 70) (hk : k < c) : Ask G mX5_without [.ref 116, .int (nI g), .int (nI e), .int (nI k)] (sForm (pQ (σ 117) g c (nI k)) e - sForm (pQ (σ 117) g c (-1)) e) σ := by
  have hn := hq.1.2.1
  have h23 := hq.1.1.2.2.1
  have hn6 := hq.1.1.1
  have hq1 := (Fr.thrown hq (nI 0)).qr hq
  have hc4 := hq.1.1.2.1
  have h44 := hq.1.2.2.1
  have h14 := hq.1.1.2.2.2.1
  obtain ⟨τ, hv, hG, h7, hf⟩ := q_formR (G := G) (d := 5) (to := e) hq1 hg (by omega)
  have h7a : τ 117 = σ 117 := h7
  have hqt := hf.qr hq1
  obtain ⟨τ2, hv2, hG2, far2⟩ := q_form (G := G) (d := 5) (σ := up τ 116 23 (nI k)) (n := n) (c := c) (g := g) (to := e) hqt.1.1 hqt.2.2.1 hqt.2.2.2.1 hg he
  have hv2 : mV G mX5_formOf 8 [.ref 116, .int (nI g), .int (nI e)] (up τ 116 23 (nI k)) (some (.int (sForm (pQ (σ 117) g c (nI k)) e))) τ2 := by rw [← h7a]; exact hv2
  have e6 : τ2 116 = up τ 116 23 (nI k) 116 := far2 116 (by omega)
  have hfz : Fr τ (up τ2 116 23 (-1)) := q_frX hqt.2 (fun b hb h6 => by rw [up_n _ _ _ h6, far2 b (by omega), up_n _ _ _ h6]) (by show τ2 116 4 = _; rw [e6]; rfl) (by show τ2 116 6 = _; rw [e6]; rfl) (by show τ2 116 7 = _; rw [e6]; rfl) rfl (by show τ2 116 24 = _; rw [e6]; exact hqt.2.2.1) (hG2.1 0 (by omega))
  refine ⟨(up τ2 116 23 (-1)), mV_of fun Q hQ => ?_, ((Fr.thrown hq (nI 0)).trans hf).trans hfz⟩
  refine F_aload_n dX5_without_0 rfl ?_
  refine F_iconst (v := nI 0) dX5_without_1 rfl ?_
  refine F_put dX5_without_2 rfl rfl (by first | assumption | rfl) rfl rfl rfl rfl ?_
  refine F_aload_n dX5_without_5 rfl ?_
  refine F_iload_n dX5_without_6 rfl ?_
  refine F_iload_n dX5_without_7 rfl ?_
  refine F_cV2i (v_isOne (d := 5) _ _ (n := n) h23 (by omega)) dX5_without_8 rfl rfl (by decide) (by first | assumption | rfl) rfl rfl rfl (by decide) (Nat.le_of_ble_eq_true rfl) (by omega) ?_
  refine F_if_eqB (tgt := 28) dX5_without_11 rfl (fun c11 => ?_) (fun c11 => ?_)
  · rw [show (up σ 116 0 (nI 0)) 117 23 = nI n from h23, grB_nI hg (by omega), dB_nI he] at c11
    cases c11
  · refine F_iload_n dX5_without_14 rfl ?_
    refine F_iconst (v := nI 0) dX5_without_15 rfl ?_
    refine F_aload_n dX5_without_16 rfl ?_
    refine F_cV0i (v_camps (d := 5)) dX5_without_17 rfl rfl (by decide) (by first | assumption | rfl) rfl rfl rfl (by decide) (Nat.le_of_ble_eq_true rfl) (by omega) ?_
    refine F_iconst (v := nI 1) dX5_without_20 rfl ?_
    refine F_isub dX5_without_21 ?_
    refine F_cS3i (v_isIn (d := 5) _ _ _) dX5_without_22 rfl rfl rfl (by decide) (Nat.le_of_ble_eq_true rfl) (by omega) ?_
    refine F_if_neB (tgt := 31) dX5_without_25 rfl (fun c25 => ?_) (fun c25 => ?_)
    · refine F_aload_n dX5_without_31 rfl ?_
      refine F_iload_n dX5_without_32 rfl ?_
      refine F_iload_n dX5_without_33 rfl ?_
      refine F_cV2i (hv) dX5_without_34 rfl rfl (by decide) (by first | assumption | rfl) rfl rfl rfl (by decide) (Nat.le_of_ble_eq_true rfl) (by omega) ?_
      refine F_istore dX5_without_37 (Nat.le_of_ble_eq_true rfl) ?_
      refine F_aload_n dX5_without_39 rfl ?_
      refine F_iload_n dX5_without_40 rfl ?_
      refine F_put dX5_without_41 rfl rfl (by first | assumption | rfl) rfl rfl rfl rfl ?_
      refine F_aload_n dX5_without_44 rfl ?_
      refine F_iload_n dX5_without_45 rfl ?_
      refine F_iload_n dX5_without_46 rfl ?_
      refine F_cV2i (hv2) dX5_without_47 rfl rfl (by decide) (by first | assumption | rfl) rfl rfl rfl (by decide) (Nat.le_of_ble_eq_true rfl) (by omega) ?_
      refine F_istore dX5_without_50 (Nat.le_of_ble_eq_true rfl) ?_
      refine F_aload_n dX5_without_52 rfl ?_
      refine F_iconst (v := (-1)) dX5_without_53 rfl ?_
      refine F_put dX5_without_54 rfl rfl (by first | assumption | rfl) rfl rfl rfl rfl ?_
      refine F_iload dX5_without_57 rfl ?_
      refine F_iload dX5_without_59 rfl ?_
      refine F_isub dX5_without_61 ?_
      refine F_iret dX5_without_62 rfl ?_
      exact hQ
    · rw [show (up σ 116 0 (nI 0)) 117 14 = nI c from h14, inR_grp _ (by omega)] at c25
      rw [grB_nI hk (by omega)] at c25
      cases c25

theorem op_without (h : Rel σ) (g e k : Int32) : Same G mX4_without mX5_without [.int g, .int e, .int k] σ := by
  refine Same.of h fun n c hq => ?_
  by_cases hA : (grB (nI n) g && dB e && grB (nI c) k) = true
  · have hx := Bool.and_eq_true_iff.mp hA
    have hc4 := hq.1.1.2.1
    obtain ⟨i, j, hi, hj, e1, e2⟩ := gd_n hx.1 hq.1.1.1
    obtain ⟨l, hl, e3⟩ := grB_n (x := nI c) rfl (by omega) hx.2
    subst e1; subst e2; subst e3
    exact ⟨_, b_withoutB hq hi hj hl, fun σ2 h7 hq2 => by rw [← h7]; exact m_withoutB hq2 hi hj hl⟩
  · have hA := Bool.not_eq_true _ ▸ hA
    exact ⟨_, b_withoutA hq hA, fun σ2 h7 hq2 => m_withoutA hq2 hA⟩
/-- the first day, from e on, on which F is ahead -/
def ahR (F H : Nat → Int32) : Nat → Nat → Int32
  | _, 0 => -1
  | e, m + 1 => if H e < F e then nI e else ahR F H (e + 1) m
theorem b_aheadA (hq : QR σ n c) {g o e : Int32} (h : (grB (nI n) g && grB (nI n) o && dB e) = false) : Ask G mX4_ahead [.ref 3, .int g, .int o, .int e] (-1) σ := by
  have hn := hq.1.2.1
  have h23 := hq.1.1.2.2.1
  have hn6 := hq.1.1.1
  refine ⟨σ, mV_of fun Q hQ => ?_, Fr.rfl hq⟩
  refine F_aload_n dX4_ahead_0 rfl ?_
  refine F_getr dX4_ahead_1 rfl rfl (by first | assumption | rfl) rfl ?_
  refine F_iload_n dX4_ahead_4 rfl ?_
  refine F_cV1i (v_hasGroup (d := 10) isTold_4 _) dX4_ahead_5 rfl rfl (by decide) (by first | assumption | rfl) rfl rfl rfl (by decide) (Nat.le_of_ble_eq_true rfl) (by omega) ?_
  refine F_if_eqB (tgt := 29) dX4_ahead_8 rfl (fun c8 => ?_) (fun c8 => ?_)
  · refine F_iconst (v := (-1)) dX4_ahead_29 rfl ?_
    refine F_iret dX4_ahead_30 rfl ?_
    exact hQ
  · refine F_aload_n dX4_ahead_11 rfl ?_
    refine F_getr dX4_ahead_12 rfl rfl (by first | assumption | rfl) rfl ?_
    refine F_iload_n dX4_ahead_15 rfl ?_
    refine F_cV1i (v_hasGroup (d := 10) isTold_4 _) dX4_ahead_16 rfl rfl (by decide) (by first | assumption | rfl) rfl rfl rfl (by decide) (Nat.le_of_ble_eq_true rfl) (by omega) ?_
    refine F_if_eqB (tgt := 29) dX4_ahead_19 rfl (fun c19 => ?_) (fun c19 => ?_)
    · refine F_iconst (v := (-1)) dX4_ahead_29 rfl ?_
      refine F_iret dX4_ahead_30 rfl ?_
      exact hQ
    · refine F_iload_n dX4_ahead_22 rfl ?_
      refine F_cS1i (v_bIsDay (d := 10) _) dX4_ahead_23 rfl rfl rfl (by decide) (Nat.le_of_ble_eq_true rfl) (by omega) ?_
      refine F_if_neB (tgt := 31) dX4_ahead_26 rfl (fun c26 => ?_) (fun c26 => ?_)
      · exfalso
        have c8 : grB (σ 4 0) g = true := c8
        rw [hn] at c8
        have c19 : grB (σ 4 0) o = true := c19
        rw [hn] at c19
        rw [c8, c19, c26] at h
        cases h
      · refine F_iconst (v := (-1)) dX4_ahead_29 rfl ?_
        refine F_iret dX4_ahead_30 rfl ?_
        exact hQ

theorem m_aheadA (hq : QR σ n c) {g o e : Int32} (h : (grB (nI n) g && grB (nI n) o && dB e) = false) : Ask G mX5_ahead [.ref 116, .int g, .int o, .int e] (-1) σ := by
  have hn := hq.1.2.1
  have h23 := hq.1.1.2.2.1
  have hn6 := hq.1.1.1
  have hq1 := (Fr.thrown hq (nI 0)).qr hq
  refine ⟨(up σ 116 0 (nI 0)), mV_of fun Q hQ => ?_, Fr.thrown hq _⟩
  refine F_aload_n dX5_ahead_0 rfl ?_
  refine F_iconst (v := nI 0) dX5_ahead_1 rfl ?_
  refine F_put dX5_ahead_2 rfl rfl (by first | assumption | rfl) rfl rfl rfl rfl ?_
  refine F_aload_n dX5_ahead_5 rfl ?_
  refine F_iload_n dX5_ahead_6 rfl ?_
  refine F_iload_n dX5_ahead_7 rfl ?_
  refine F_cV2i (v_isOne (d := 5) _ _ (n := n) h23 (by omega)) dX5_ahead_8 rfl rfl (by decide) (by first | assumption | rfl) rfl rfl rfl (by decide) (Nat.le_of_ble_eq_true rfl) (by omega) ?_
  refine F_if_eqB (tgt := 22) dX5_ahead_11 rfl (fun c11 => ?_) (fun c11 => ?_)
  · refine F_iconst (v := (-1)) dX5_ahead_22 rfl ?_
    refine F_iret dX5_ahead_23 rfl ?_
    exact hQ
  · refine F_aload_n dX5_ahead_14 rfl ?_
    refine F_iload_n dX5_ahead_15 rfl ?_
    refine F_cV1i (v_isGroup (d := 5) _ (n := n) h23 (by omega)) dX5_ahead_16 rfl rfl (by decide) (by first | assumption | rfl) rfl rfl rfl (by decide) (Nat.le_of_ble_eq_true rfl) (by omega) ?_
    refine F_if_neB (tgt := 24) dX5_ahead_19 rfl (fun c19 => ?_) (fun c19 => ?_)
    · exfalso
      rw [show (up σ 116 0 (nI 0)) 117 23 = nI n from h23, Bool.and_eq_true_iff] at c11
      rw [show (up σ 116 0 (nI 0)) 117 23 = nI n from h23] at c19
      rw [c11.1, c11.2, c19] at h
      cases h
    · refine F_iconst (v := (-1)) dX5_ahead_22 rfl ?_
      refine F_iret dX5_ahead_23 rfl ?_
      exact hQ

theorem b_aheadB (hq : QR σ n c) {g o e : Nat} (hg : g < n) (ho : o < n) (he : e < 70) : Ask G mX4_ahead [.ref 3, .int (nI g), .int (nI o), .int (nI e)] (ahR (sForm (pQ (σ 117) g c (-1))) (sForm (pQ (σ 117) o c (-1))) e (70 - e)) σ := by
  have hn := hq.1.2.1
  have h23 := hq.1.1.2.2.1
  have hn6 := hq.1.1.1
  obtain ⟨τ, hv, hL, hC, far⟩ := q_follow (G := G) (d := 7) (a := 29) (N := 70) (Or.inl rfl) hq hg (by omega) (-1) (pred_s 69 (by omega))
  have hq2 : QR τ n c := (q_frB (n := n) (c := c) (Or.inl rfl) hC far).qr hq
  obtain ⟨τ2, hv2, hL2, hC2, far2⟩ := q_follow (G := G) (d := 7) (a := 40) (N := 70) (Or.inr rfl) hq2 ho (by omega) (-1) (pred_s 69 (by omega))
  rw [far 117 (by omega)] at hL2
  have hL1 := hL.rows (τ := τ2) (fun b h1 h2 => far2 b (by omega))
  refine ⟨τ2, mV_of fun Q hQ => ?_, (q_frB (n := n) (c := c) (Or.inl rfl) hC far).trans (q_frB (n := n) (c := c) (Or.inr rfl) hC2 far2)⟩
  refine F_aload_n dX4_ahead_0 rfl ?_
  refine F_getr dX4_ahead_1 rfl rfl (by first | assumption | rfl) rfl ?_
  refine F_iload_n dX4_ahead_4 rfl ?_
  refine F_cV1i (v_hasGroup (d := 10) isTold_4 _) dX4_ahead_5 rfl rfl (by decide) (by first | assumption | rfl) rfl rfl rfl (by decide) (Nat.le_of_ble_eq_true rfl) (by omega) ?_
  refine F_if_eqB (tgt := 29) dX4_ahead_8 rfl (fun c8 => ?_) (fun c8 => ?_)
  · have c8 : grB (σ 4 0) (nI g) = false := c8
    rw [hn, grB_nI hg (by omega)] at c8
    cases c8
  · refine F_aload_n dX4_ahead_11 rfl ?_
    refine F_getr dX4_ahead_12 rfl rfl (by first | assumption | rfl) rfl ?_
    refine F_iload_n dX4_ahead_15 rfl ?_
    refine F_cV1i (v_hasGroup (d := 10) isTold_4 _) dX4_ahead_16 rfl rfl (by decide) (by first | assumption | rfl) rfl rfl rfl (by decide) (Nat.le_of_ble_eq_true rfl) (by omega) ?_
    refine F_if_eqB (tgt := 29) dX4_ahead_19 rfl (fun c19 => ?_) (fun c19 => ?_)
    · have c19 : grB (σ 4 0) (nI o) = false := c19
      rw [hn, grB_nI ho (by omega)] at c19
      cases c19
    · refine F_iload_n dX4_ahead_22 rfl ?_
      refine F_cS1i (v_bIsDay (d := 10) _) dX4_ahead_23 rfl rfl rfl (by decide) (Nat.le_of_ble_eq_true rfl) (by omega) ?_
      refine F_if_neB (tgt := 31) dX4_ahead_26 rfl (fun c26 => ?_) (fun c26 => ?_)
      · refine F_aload_n dX4_ahead_31 rfl ?_
        refine F_getr dX4_ahead_32 rfl rfl (by first | assumption | rfl) rfl ?_
        refine F_aload_n dX4_ahead_35 rfl ?_
        refine F_getr dX4_ahead_36 rfl rfl (by first | assumption | rfl) rfl ?_
        refine F_iload_n dX4_ahead_39 rfl ?_
        refine F_iconst (v := (-1)) dX4_ahead_40 rfl ?_
        refine F_bipush (v := nI 69) dX4_ahead_41 rfl ?_
        refine F_cV_riii_v (hv) dX4_ahead_43 rfl rfl (by decide) (by first | assumption | rfl) rfl rfl rfl (by decide) (Nat.le_of_ble_eq_true rfl) (by omega) ?_
        refine F_aload_n dX4_ahead_46 rfl ?_
        refine F_getr dX4_ahead_47 rfl rfl (by first | assumption | rfl) rfl ?_
        refine F_aload_n dX4_ahead_50 rfl ?_
        refine F_getr dX4_ahead_51 rfl rfl (by first | assumption | rfl) rfl ?_
        refine F_iload_n dX4_ahead_54 rfl ?_
        refine F_iconst (v := (-1)) dX4_ahead_55 rfl ?_
        refine F_bipush (v := nI 69) dX4_ahead_56 rfl ?_
        refine F_cV_riii_v (hv2) dX4_ahead_58 rfl rfl (by decide) (by first | assumption | rfl) rfl rfl rfl (by decide) (Nat.le_of_ble_eq_true rfl) (by omega) ?_
        refine F_iload_n dX4_ahead_61 rfl ?_
        refine F_istore dX4_ahead_62 (Nat.le_of_ble_eq_true rfl) ?_
        have hl : ∀ m k, k + m = 70 → Q (some (.int ((ahR (sForm (pQ (σ 117) g c (-1))) (sForm (pQ (σ 117) o c (-1))) k m)))) τ2 → mF G mX4_ahead 12 64 [some (.ref 3), some (.int (nI g)), some (.int (nI o)), some (.int (nI e)), some (.int (nI k))] [] τ2 Q := by
          intro m
          induction m with
          | zero =>
            intro k hk hQ
            have e1 : k = 70 := by omega
            subst e1
            refine F_iload dX4_ahead_64 rfl ?_
            refine F_bipush (v := nI 70) dX4_ahead_66 rfl ?_
            refine F_icmp_geN (tgt := 101) dX4_ahead_68 rfl (by omega) (by omega) (fun c68 => ?_) (fun c68 => ?_)
            · refine F_iconst (v := (-1)) dX4_ahead_101 rfl ?_
              refine F_iret dX4_ahead_102 rfl ?_
              exact hQ
            · exact absurd c68 (by omega)
          | succ m ih =>
            intro k hk hQ
            refine F_iload dX4_ahead_64 rfl ?_
            refine F_bipush (v := nI 70) dX4_ahead_66 rfl ?_
            refine F_icmp_geN (tgt := 101) dX4_ahead_68 rfl (by omega) (by omega) (fun c68 => ?_) (fun c68 => ?_)
            · exact absurd c68 (by omega)
            · refine F_aload_n dX4_ahead_71 rfl ?_
              refine F_getr dX4_ahead_72 rfl rfl (by first | assumption | rfl) rfl ?_
              refine F_iload dX4_ahead_75 rfl ?_
              refine F_cV1i (q_formOf (d := 5) isCourse_29 hL1 (k := k) (by omega) (by omega)) dX4_ahead_77 rfl rfl (by decide) (by first | assumption | rfl) rfl rfl rfl (by decide) (Nat.le_of_ble_eq_true rfl) (by omega) ?_
              refine F_aload_n dX4_ahead_80 rfl ?_
              refine F_getr dX4_ahead_81 rfl rfl (by first | assumption | rfl) rfl ?_
              refine F_iload dX4_ahead_84 rfl ?_
              refine F_cV1i (q_formOf (d := 5) isCourse_40 hL2 (k := k) (by omega) (by omega)) dX4_ahead_86 rfl rfl (by decide) (by first | assumption | rfl) rfl rfl rfl (by decide) (Nat.le_of_ble_eq_true rfl) (by omega) ?_
              refine F_icmp_le (tgt := 95) dX4_ahead_89 rfl (fun c89 => ?_) (fun c89 => ?_)
              · refine F_iincN dX4_ahead_95 rfl ?_
                refine F_goto (tgt := 64) dX4_ahead_98 rfl ?_
                simp only [ahR] at hQ
                rw [if_neg (Int32.not_lt.mpr c89)] at hQ
                exact ih (k + 1) (by omega) hQ
              · refine F_iload dX4_ahead_92 rfl ?_
                refine F_iret dX4_ahead_94 rfl ?_
                simp only [ahR] at hQ
                rw [if_pos (Int32.not_le.mp c89)] at hQ
                exact hQ
        exact hl (70 - e) e (by omega) hQ
      · rw [dB_nI he] at c26
        cases c26

theorem l_mahead {g o e : Nat} (hg : g < n) (ho : o < n) : ∀ m k σ, k + m = 70 → QR σ n c → ∃ τ, Fr σ τ ∧ ∀ Q : Option Value → mS → Prop, Q (some (.int ((ahR (sForm (pQ (σ 117) g c (-1))) (sForm (pQ (σ 117) o c (-1))) k m)))) τ → mF G mX5_ahead 12 27 [some (.ref 116), some (.int (nI g)), some (.int (nI o)), some (.int (nI e)), some (.int (nI k))] [] σ Q := by
  intro m
  induction m with
  | zero =>
    intro k σ hk hq
    refine ⟨σ, Fr.rfl hq, fun Q hQ => ?_⟩
    have e1 : k = 70 := by omega
    subst e1
    refine F_iload dX5_ahead_27 rfl ?_
    refine F_bipush (v := nI 70) dX5_ahead_29 rfl ?_
    refine F_icmp_geN (tgt := 60) dX5_ahead_31 rfl (by omega) (by omega) (fun c31 => ?_) (fun c31 => ?_)
    · refine F_iconst (v := (-1)) dX5_ahead_60 rfl ?_
      refine F_iret dX5_ahead_61 rfl ?_
      exact hQ
    · exact absurd c31 (by omega)
  | succ m ih =>
    intro k σ hk hq
    obtain ⟨τ1, hv1, hG1, h71, hf1⟩ := q_formR (G := G) (d := 5) (to := k) hq hg (by omega)
    obtain ⟨τ2, hv2, hG2, h72, hf2⟩ := q_formR (G := G) (d := 5) (to := k) (hf1.qr hq) ho (by omega)
    rw [h71] at hv2
    have hf := hf1.trans hf2
    by_cases hx : sForm (pQ (σ 117) o c (-1)) k < sForm (pQ (σ 117) g c (-1)) k
    · refine ⟨τ2, hf, fun Q hQ => ?_⟩
      refine F_iload dX5_ahead_27 rfl ?_
      refine F_bipush (v := nI 70) dX5_ahead_29 rfl ?_
      refine F_icmp_geN (tgt := 60) dX5_ahead_31 rfl (by omega) (by omega) (fun c31 => ?_) (fun c31 => ?_)
      · exact absurd c31 (by omega)
      · refine F_aload_n dX5_ahead_34 rfl ?_
        refine F_iload_n dX5_ahead_35 rfl ?_
        refine F_iload dX5_ahead_36 rfl ?_
        refine F_cV2i (hv1) dX5_ahead_38 rfl rfl (by decide) (by first | assumption | rfl) rfl rfl rfl (by decide) (Nat.le_of_ble_eq_true rfl) (by omega) ?_
        refine F_aload_n dX5_ahead_41 rfl ?_
        refine F_iload_n dX5_ahead_42 rfl ?_
        refine F_iload dX5_ahead_43 rfl ?_
        refine F_cV2i (hv2) dX5_ahead_45 rfl rfl (by decide) (by first | assumption | rfl) rfl rfl rfl (by decide) (Nat.le_of_ble_eq_true rfl) (by omega) ?_
        refine F_icmp_le (tgt := 54) dX5_ahead_48 rfl (fun c48 => ?_) (fun c48 => ?_)
        · exact absurd c48 (Int32.not_le.mpr hx)
        · refine F_iload dX5_ahead_51 rfl ?_
          refine F_iret dX5_ahead_53 rfl ?_
          simp only [ahR] at hQ
          rw [if_pos hx] at hQ
          exact hQ
    · obtain ⟨τ, hf3, h3⟩ := ih (k + 1) τ2 (by omega) (hf.qr hq)
      refine ⟨τ, hf.trans hf3, fun Q hQ => ?_⟩
      have h3 := h3 Q
      rw [h72, h71] at h3
      refine F_iload dX5_ahead_27 rfl ?_
      refine F_bipush (v := nI 70) dX5_ahead_29 rfl ?_
      refine F_icmp_geN (tgt := 60) dX5_ahead_31 rfl (by omega) (by omega) (fun c31 => ?_) (fun c31 => ?_)
      · exact absurd c31 (by omega)
      · refine F_aload_n dX5_ahead_34 rfl ?_
        refine F_iload_n dX5_ahead_35 rfl ?_
        refine F_iload dX5_ahead_36 rfl ?_
        refine F_cV2i (hv1) dX5_ahead_38 rfl rfl (by decide) (by first | assumption | rfl) rfl rfl rfl (by decide) (Nat.le_of_ble_eq_true rfl) (by omega) ?_
        refine F_aload_n dX5_ahead_41 rfl ?_
        refine F_iload_n dX5_ahead_42 rfl ?_
        refine F_iload dX5_ahead_43 rfl ?_
        refine F_cV2i (hv2) dX5_ahead_45 rfl rfl (by decide) (by first | assumption | rfl) rfl rfl rfl (by decide) (Nat.le_of_ble_eq_true rfl) (by omega) ?_
        refine F_icmp_le (tgt := 54) dX5_ahead_48 rfl (fun c48 => ?_) (fun c48 => ?_)
        · refine F_iincN dX5_ahead_54 rfl ?_
          refine F_goto (tgt := 27) dX5_ahead_57 rfl ?_
          simp only [ahR] at hQ
          rw [if_neg hx] at hQ
          exact h3 hQ
        · exact absurd (Int32.not_lt.mp hx) c48

theorem m_aheadB (hq : QR σ n c) {g o e : Nat} (hg : g < n) (ho : o < n) (he : e < 70) : Ask G mX5_ahead [.ref 116, .int (nI g), .int (nI o), .int (nI e)] (ahR (sForm (pQ (σ 117) g c (-1))) (sForm (pQ (σ 117) o c (-1))) e (70 - e)) σ := by
  have hn := hq.1.2.1
  have h23 := hq.1.1.2.2.1
  have hn6 := hq.1.1.1
  have hq1 := (Fr.thrown hq (nI 0)).qr hq
  obtain ⟨τ, hf, hl⟩ := l_mahead (G := G) (e := e) hg ho (70 - e) e (up σ 116 0 (nI 0)) (by omega) hq1
  refine ⟨τ, mV_of fun Q hQ => ?_, (Fr.thrown hq (nI 0)).trans hf⟩
  refine F_aload_n dX5_ahead_0 rfl ?_
  refine F_iconst (v := nI 0) dX5_ahead_1 rfl ?_
  refine F_put dX5_ahead_2 rfl rfl (by first | assumption | rfl) rfl rfl rfl rfl ?_
  refine F_aload_n dX5_ahead_5 rfl ?_
  refine F_iload_n dX5_ahead_6 rfl ?_
  refine F_iload_n dX5_ahead_7 rfl ?_
  refine F_cV2i (v_isOne (d := 5) _ _ (n := n) h23 (by omega)) dX5_ahead_8 rfl rfl (by decide) (by first | assumption | rfl) rfl rfl rfl (by decide) (Nat.le_of_ble_eq_true rfl) (by omega) ?_
  refine F_if_eqB (tgt := 22) dX5_ahead_11 rfl (fun c11 => ?_) (fun c11 => ?_)
  · rw [show (up σ 116 0 (nI 0)) 117 23 = nI n from h23, grB_nI hg (by omega), dB_nI he] at c11
    cases c11
  · refine F_aload_n dX5_ahead_14 rfl ?_
    refine F_iload_n dX5_ahead_15 rfl ?_
    refine F_cV1i (v_isGroup (d := 5) _ (n := n) h23 (by omega)) dX5_ahead_16 rfl rfl (by decide) (by first | assumption | rfl) rfl rfl rfl (by decide) (Nat.le_of_ble_eq_true rfl) (by omega) ?_
    refine F_if_neB (tgt := 24) dX5_ahead_19 rfl (fun c19 => ?_) (fun c19 => ?_)
    · refine F_iload_n dX5_ahead_24 rfl ?_
      refine F_istore dX5_ahead_25 (Nat.le_of_ble_eq_true rfl) ?_
      exact hl Q hQ
    · rw [show (up σ 116 0 (nI 0)) 117 23 = nI n from h23, grB_nI ho (by omega)] at c19
      cases c19

theorem op_ahead (h : Rel σ) (g o e : Int32) : Same G mX4_ahead mX5_ahead [.int g, .int o, .int e] σ := by
  refine Same.of h fun n c hq => ?_
  have hn6 := hq.1.1.1
  by_cases hA : (grB (nI n) g && grB (nI n) o && dB e) = true
  · have hx := Bool.and_eq_true_iff.mp hA
    have hy := Bool.and_eq_true_iff.mp hx.1
    obtain ⟨i, hi, e1⟩ := grB_n (x := nI n) rfl (by omega) hy.1
    obtain ⟨l, hl, e3⟩ := grB_n (x := nI n) rfl (by omega) hy.2
    obtain ⟨j, hj, e2⟩ := dB_n hx.2
    subst e1; subst e2; subst e3
    exact ⟨_, b_aheadB hq hi hl hj, fun σ2 h7 hq2 => by rw [← h7]; exact m_aheadB hq2 hi hl hj⟩
  · have hA := Bool.not_eq_true _ ▸ hA
    exact ⟨_, b_aheadA hq hA, fun σ2 h7 hq2 => m_aheadA hq2 hA⟩
end QC
