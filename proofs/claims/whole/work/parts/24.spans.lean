/-! ===== form, week, injured, peak, row, without, ahead, swap ===== -/
section QB
variable {G : mG} {d n c : Nat} {σ : mS}
theorem b_asTold (hq : QR σ n c) {g e : Nat} (hg : g < n) (he : e < 70) : ∃ τ, mV G mX4_formAsTold 11 [.ref 3, .int (nI g), .int (nI e)] σ (some (.int (sForm (pQ (σ 117) g c (-1)) e))) τ ∧ Fw τ 29 (σ 117) g c (-1) (e + 1) ∧ RC τ ∧ ∀ b, b ≤ 29 ∨ 39 < b → τ b = σ b := by
  obtain ⟨τ, hv, hL, hC, far⟩ := q_follow (G := G) (d := 6) (a := 29) (N := e + 1) (Or.inl rfl) hq hg (by omega) (-1) (pred_s _ (by omega))
  refine ⟨τ, mV_of fun Q hQ => ?_, hL, hC, far⟩
  refine F_aload_n dX4_formAsTold_0 rfl ?_
  refine F_getr dX4_formAsTold_1 rfl rfl (by first | assumption | rfl) rfl ?_
  refine F_aload_n dX4_formAsTold_4 rfl ?_
  refine F_getr dX4_formAsTold_5 rfl rfl (by first | assumption | rfl) rfl ?_
  refine F_iload_n dX4_formAsTold_8 rfl ?_
  refine F_iconst (v := (-1)) dX4_formAsTold_9 rfl ?_
  refine F_iload_n dX4_formAsTold_10 rfl ?_
  refine F_cV_riii_v (hv) dX4_formAsTold_11 rfl rfl (by decide) (by first | assumption | rfl) rfl rfl rfl (by decide) (Nat.le_of_ble_eq_true rfl) (by omega) ?_
  refine F_aload_n dX4_formAsTold_14 rfl ?_
  refine F_getr dX4_formAsTold_15 rfl rfl (by first | assumption | rfl) rfl ?_
  refine F_iload_n dX4_formAsTold_18 rfl ?_
  refine F_cV1i (q_formOf (d := 5) isCourse_29 hL (Nat.lt_succ_self e) (by omega)) dX4_formAsTold_19 rfl rfl (by decide) (by first | assumption | rfl) rfl rfl rfl (by decide) (Nat.le_of_ble_eq_true rfl) (by omega) ?_
  refine F_iret dX4_formAsTold_22 rfl ?_
  exact hQ

theorem b_formA (hq : QR σ n c) {g e : Int32} (h : (grB (nI n) g && dB e) = false) : Ask G mX4_form [.ref 3, .int g, .int e] (-1000000000) σ := by
  have hn := hq.1.2.1
  have h23 := hq.1.1.2.2.1
  have hn6 := hq.1.1.1
  refine ⟨σ, mV_of fun Q hQ => ?_, Fr.rfl hq⟩
  refine F_aload_n dX4_form_0 rfl ?_
  refine F_getr dX4_form_1 rfl rfl (by first | assumption | rfl) rfl ?_
  refine F_iload_n dX4_form_4 rfl ?_
  refine F_cV1i (v_hasGroup (d := 11) isTold_4 _) dX4_form_5 rfl rfl (by decide) (by first | assumption | rfl) rfl rfl rfl (by decide) (Nat.le_of_ble_eq_true rfl) (by omega) ?_
  refine F_if_eqB (tgt := 18) dX4_form_8 rfl (fun c8 => ?_) (fun c8 => ?_)
  · refine F_ldc dX4_form_18 rfl rfl ?_
    refine F_iret dX4_form_20 rfl ?_
    exact hQ
  · refine F_iload_n dX4_form_11 rfl ?_
    refine F_cS1i (v_bIsDay (d := 11) _) dX4_form_12 rfl rfl rfl (by decide) (Nat.le_of_ble_eq_true rfl) (by omega) ?_
    refine F_if_neB (tgt := 21) dX4_form_15 rfl (fun c15 => ?_) (fun c15 => ?_)
    · exfalso
      have c8 : grB (σ 4 0) g = true := c8
      rw [hn] at c8
      rw [c8, c15] at h
      cases h
    · refine F_ldc dX4_form_18 rfl rfl ?_
      refine F_iret dX4_form_20 rfl ?_
      exact hQ

theorem m_formA (hq : QR σ n c) {g e : Int32} (h : (grB (nI n) g && dB e) = false) : Ask G mX5_form [.ref 116, .int g, .int e] (-1000000000) σ := by
  have hn := hq.1.2.1
  have h23 := hq.1.1.2.2.1
  have hn6 := hq.1.1.1
  have hq1 := (Fr.thrown hq (nI 0)).qr hq
  refine ⟨(up σ 116 0 (nI 0)), mV_of fun Q hQ => ?_, Fr.thrown hq _⟩
  refine F_aload_n dX5_form_0 rfl ?_
  refine F_iconst (v := nI 0) dX5_form_1 rfl ?_
  refine F_put dX5_form_2 rfl rfl (by first | assumption | rfl) rfl rfl rfl rfl ?_
  refine F_aload_n dX5_form_5 rfl ?_
  refine F_iload_n dX5_form_6 rfl ?_
  refine F_iload_n dX5_form_7 rfl ?_
  refine F_cV2i (v_isOne (d := 5) _ _ (n := n) h23 (by omega)) dX5_form_8 rfl rfl (by decide) (by first | assumption | rfl) rfl rfl rfl (by decide) (Nat.le_of_ble_eq_true rfl) (by omega) ?_
  refine F_if_eqB (tgt := 23) dX5_form_11 rfl (fun c11 => ?_) (fun c11 => ?_)
  · refine F_ldc dX5_form_23 rfl rfl ?_
    refine F_iret dX5_form_25 rfl ?_
    exact hQ
  · rw [show (up σ 116 0 (nI 0)) 117 23 = nI n from h23, h] at c11
    cases c11

theorem b_formB (hq : QR σ n c) {g e : Nat} (hg : g < n) (he : e < 70) : Ask G mX4_form [.ref 3, .int (nI g), .int (nI e)] (sForm (pQ (σ 117) g c (-1)) e) σ := by
  have hn := hq.1.2.1
  have h23 := hq.1.1.2.2.1
  have hn6 := hq.1.1.1
  obtain ⟨τ, hv, hL, hC, far⟩ := b_asTold (G := G) hq hg he
  refine ⟨τ, mV_of fun Q hQ => ?_, q_frB (n := n) (c := c) (Or.inl rfl) hC far⟩
  refine F_aload_n dX4_form_0 rfl ?_
  refine F_getr dX4_form_1 rfl rfl (by first | assumption | rfl) rfl ?_
  refine F_iload_n dX4_form_4 rfl ?_
  refine F_cV1i (v_hasGroup (d := 11) isTold_4 _) dX4_form_5 rfl rfl (by decide) (by first | assumption | rfl) rfl rfl rfl (by decide) (Nat.le_of_ble_eq_true rfl) (by omega) ?_
  refine F_if_eqB (tgt := 18) dX4_form_8 rfl (fun c8 => ?_) (fun c8 => ?_)
  · have c8 : grB (σ 4 0) (nI g) = false := c8
    rw [hn, grB_nI hg (by omega)] at c8
    cases c8
  · refine F_iload_n dX4_form_11 rfl ?_
    refine F_cS1i (v_bIsDay (d := 11) _) dX4_form_12 rfl rfl rfl (by decide) (Nat.le_of_ble_eq_true rfl) (by omega) ?_
    refine F_if_neB (tgt := 21) dX4_form_15 rfl (fun c15 => ?_) (fun c15 => ?_)
    · refine F_aload_n dX4_form_21 rfl ?_
      refine F_iload_n dX4_form_22 rfl ?_
      refine F_iload_n dX4_form_23 rfl ?_
      refine F_cV2i (hv) dX4_form_24 rfl rfl (by decide) (by first | assumption | rfl) rfl rfl rfl (by decide) (Nat.le_of_ble_eq_true rfl) (by omega) ?_
      refine F_iret dX4_form_27 rfl ?_
      exact hQ
    · rw [dB_nI he] at c15
      cases c15

theorem m_formB (hq : QR σ n c) {g e : Nat} (hg : g < n) (he : e < 70) : Ask G mX5_form [.ref 116, .int (nI g), .int (nI e)] (sForm (pQ (σ 117) g c (-1)) e) σ := by
  have hn := hq.1.2.1
  have h23 := hq.1.1.2.2.1
  have hn6 := hq.1.1.1
  have hq1 := (Fr.thrown hq (nI 0)).qr hq
  obtain ⟨τ, hv, hG, h7, hf⟩ := q_formR (G := G) (d := 5) (to := e) hq1 hg (by omega)
  refine ⟨τ, mV_of fun Q hQ => ?_, (Fr.thrown hq (nI 0)).trans hf⟩
  refine F_aload_n dX5_form_0 rfl ?_
  refine F_iconst (v := nI 0) dX5_form_1 rfl ?_
  refine F_put dX5_form_2 rfl rfl (by first | assumption | rfl) rfl rfl rfl rfl ?_
  refine F_aload_n dX5_form_5 rfl ?_
  refine F_iload_n dX5_form_6 rfl ?_
  refine F_iload_n dX5_form_7 rfl ?_
  refine F_cV2i (v_isOne (d := 5) _ _ (n := n) h23 (by omega)) dX5_form_8 rfl rfl (by decide) (by first | assumption | rfl) rfl rfl rfl (by decide) (Nat.le_of_ble_eq_true rfl) (by omega) ?_
  refine F_if_eqB (tgt := 23) dX5_form_11 rfl (fun c11 => ?_) (fun c11 => ?_)
  · rw [show (up σ 116 0 (nI 0)) 117 23 = nI n from h23, grB_nI hg (by omega), dB_nI he] at c11
    cases c11
  · refine F_aload_n dX5_form_14 rfl ?_
    refine F_iload_n dX5_form_15 rfl ?_
    refine F_iload_n dX5_form_16 rfl ?_
    refine F_cV2i (hv) dX5_form_17 rfl rfl (by decide) (by first | assumption | rfl) rfl rfl rfl (by decide) (Nat.le_of_ble_eq_true rfl) (by omega) ?_
    refine F_goto (tgt := 25) dX5_form_20 rfl ?_
    refine F_iret dX5_form_25 rfl ?_
    exact hQ

theorem op_form (h : Rel σ) (g e : Int32) : Same G mX4_form mX5_form [.int g, .int e] σ := by
  refine Same.of h fun n c hq => ?_
  by_cases hA : (grB (nI n) g && dB e) = true
  · obtain ⟨i, j, hi, hj, e1, e2⟩ := gd_n hA hq.1.1.1
    subst e1; subst e2
    exact ⟨_, b_formB hq hi hj, fun σ2 h7 hq2 => by rw [← h7]; exact m_formB hq2 hi hj⟩
  · have hA := Bool.not_eq_true _ ▸ hA
    exact ⟨_, b_formA hq hA, fun σ2 h7 hq2 => m_formA hq2 hA⟩
theorem b_weekA (hq : QR σ n c) {g w : Int32} (h : (grB (nI n) g && inR w (nI 0) (nI 9)) = false) : Ask G mX4_week [.ref 3, .int g, .int w] (-1) σ := by
  have hn := hq.1.2.1
  have h23 := hq.1.1.2.2.1
  have hn6 := hq.1.1.1
  refine ⟨σ, mV_of fun Q hQ => ?_, Fr.rfl hq⟩
  refine F_aload_n dX4_week_0 rfl ?_
  refine F_getr dX4_week_1 rfl rfl (by first | assumption | rfl) rfl ?_
  refine F_iload_n dX4_week_4 rfl ?_
  refine F_cV1i (v_hasGroup (d := 11) isTold_4 _) dX4_week_5 rfl rfl (by decide) (by first | assumption | rfl) rfl rfl rfl (by decide) (Nat.le_of_ble_eq_true rfl) (by omega) ?_
  refine F_if_eqB (tgt := 21) dX4_week_8 rfl (fun c8 => ?_) (fun c8 => ?_)
  · refine F_iconst (v := (-1)) dX4_week_21 rfl ?_
    refine F_iret dX4_week_22 rfl ?_
    exact hQ
  · refine F_iload_n dX4_week_11 rfl ?_
    refine F_if_lt (tgt := 21) dX4_week_12 rfl (fun c12 => ?_) (fun c12 => ?_)
    · refine F_iconst (v := (-1)) dX4_week_21 rfl ?_
      refine F_iret dX4_week_22 rfl ?_
      exact hQ
    · refine F_iload_n dX4_week_15 rfl ?_
      refine F_bipush (v := nI 10) dX4_week_16 rfl ?_
      refine F_icmp_lt (tgt := 23) dX4_week_18 rfl (fun c18 => ?_) (fun c18 => ?_)
      · exfalso
        have c8 : grB (σ 4 0) g = true := c8
        rw [hn] at c8
        rw [lt0_iff, Decidable.not_not] at c12
        rw [lt_nI (n := 9) (by decide)] at c18
        rw [c8, inR, decide_eq_true c12, decide_eq_true c18] at h
        cases h
      · refine F_iconst (v := (-1)) dX4_week_21 rfl ?_
        refine F_iret dX4_week_22 rfl ?_
        exact hQ

theorem m_weekA (hq : QR σ n c) {g w : Int32} (h : (grB (nI n) g && inR w (nI 0) (nI 9)) = false) : Ask G mX5_week [.ref 116, .int g, .int w] (-1) σ := by
  have hn := hq.1.2.1
  have h23 := hq.1.1.2.2.1
  have hn6 := hq.1.1.1
  have hq1 := (Fr.thrown hq (nI 0)).qr hq
  refine ⟨(up σ 116 0 (nI 0)), mV_of fun Q hQ => ?_, Fr.thrown hq _⟩
  refine F_aload_n dX5_week_0 rfl ?_
  refine F_iconst (v := nI 0) dX5_week_1 rfl ?_
  refine F_put dX5_week_2 rfl rfl (by first | assumption | rfl) rfl rfl rfl rfl ?_
  refine F_aload_n dX5_week_5 rfl ?_
  refine F_iload_n dX5_week_6 rfl ?_
  refine F_cV1i (v_isGroup (d := 5) _ (n := n) h23 (by omega)) dX5_week_7 rfl rfl (by decide) (by first | assumption | rfl) rfl rfl rfl (by decide) (Nat.le_of_ble_eq_true rfl) (by omega) ?_
  refine F_if_eqB (tgt := 23) dX5_week_10 rfl (fun c10 => ?_) (fun c10 => ?_)
  · refine F_iconst (v := (-1)) dX5_week_23 rfl ?_
    refine F_iret dX5_week_24 rfl ?_
    exact hQ
  · refine F_iload_n dX5_week_13 rfl ?_
    refine F_iconst (v := nI 0) dX5_week_14 rfl ?_
    refine F_bipush (v := nI 9) dX5_week_15 rfl ?_
    refine F_cS3i (v_isIn (d := 5) _ _ _) dX5_week_17 rfl rfl rfl (by decide) (Nat.le_of_ble_eq_true rfl) (by omega) ?_
    refine F_if_neB (tgt := 25) dX5_week_20 rfl (fun c20 => ?_) (fun c20 => ?_)
    · exfalso
      rw [show (up σ 116 0 (nI 0)) 117 23 = nI n from h23] at c10
      rw [c10, c20] at h
      cases h
    · refine F_iconst (v := (-1)) dX5_week_23 rfl ?_
      refine F_iret dX5_week_24 rfl ?_
      exact hQ

theorem b_weekB (hq : QR σ n c) {g w : Nat} (hg : g < n) (hw : w < 10) : Ask G mX4_week [.ref 3, .int (nI g), .int (nI w)] (sSum (pQ (σ 117) g c (-1)) (7 * w + 7) - sSum (pQ (σ 117) g c (-1)) (7 * w)) σ := by
  have hn := hq.1.2.1
  have h23 := hq.1.1.2.2.1
  have hn6 := hq.1.1.1
  obtain ⟨τ, hv, hL, hC, far⟩ := q_follow (G := G) (d := 7) (a := 29) (N := 7 * w + 7) (Or.inl rfl) hq hg (by omega) (-1) (show nI (w * 7 + 7 - 1) = _ by rw [nI_sub (by omega)]; congr 1; omega)
  refine ⟨τ, mV_of fun Q hQ => ?_, q_frB (n := n) (c := c) (Or.inl rfl) hC far⟩
  refine F_aload_n dX4_week_0 rfl ?_
  refine F_getr dX4_week_1 rfl rfl (by first | assumption | rfl) rfl ?_
  refine F_iload_n dX4_week_4 rfl ?_
  refine F_cV1i (v_hasGroup (d := 11) isTold_4 _) dX4_week_5 rfl rfl (by decide) (by first | assumption | rfl) rfl rfl rfl (by decide) (Nat.le_of_ble_eq_true rfl) (by omega) ?_
  refine F_if_eqB (tgt := 21) dX4_week_8 rfl (fun c8 => ?_) (fun c8 => ?_)
  · have c8 : grB (σ 4 0) (nI g) = false := c8
    rw [hn, grB_nI hg (by omega)] at c8
    cases c8
  · refine F_iload_n dX4_week_11 rfl ?_
    refine F_if_ltN (tgt := 21) dX4_week_12 rfl (by omega) ?_
    refine F_iload_n dX4_week_15 rfl ?_
    refine F_bipush (v := nI 10) dX4_week_16 rfl ?_
    refine F_icmp_ltN (tgt := 23) dX4_week_18 rfl (by omega) (by omega) (fun c18 => ?_) (fun c18 => ?_)
    · refine F_iload_n dX4_week_23 rfl ?_
      refine F_bipush (v := nI 7) dX4_week_24 rfl ?_
      refine F_imulN dX4_week_26 ?_
      refine F_istore_n dX4_week_27 (Nat.le_of_ble_eq_true rfl) ?_
      refine F_aload_n dX4_week_28 rfl ?_
      refine F_getr dX4_week_29 rfl rfl (by first | assumption | rfl) rfl ?_
      refine F_aload_n dX4_week_32 rfl ?_
      refine F_getr dX4_week_33 rfl rfl (by first | assumption | rfl) rfl ?_
      refine F_iload_n dX4_week_36 rfl ?_
      refine F_iconst (v := (-1)) dX4_week_37 rfl ?_
      refine F_iload_n dX4_week_38 rfl ?_
      refine F_bipush (v := nI 7) dX4_week_39 rfl ?_
      refine F_iaddN dX4_week_41 ?_
      refine F_iconst (v := nI 1) dX4_week_42 rfl ?_
      refine F_isubN dX4_week_43 (by omega) ?_
      refine F_cV_riii_v (hv) dX4_week_44 rfl rfl (by decide) (by first | assumption | rfl) rfl rfl rfl (by decide) (Nat.le_of_ble_eq_true rfl) (by omega) ?_
      refine F_aload_n dX4_week_47 rfl ?_
      refine F_getr dX4_week_48 rfl rfl (by first | assumption | rfl) rfl ?_
      refine F_getr dX4_week_51 rfl rfl (by first | assumption | rfl) rfl ?_
      refine F_iload_n dX4_week_54 rfl ?_
      refine F_bipush (v := nI 7) dX4_week_55 rfl ?_
      refine F_iaddN dX4_week_57 ?_
      refine F_ialdE (v := sSum (pQ (σ 117) g c (-1)) (7 * w + 7)) dX4_week_58 (by first | assumption | rfl) (by decide) (by omega) (by rw [show w * 7 + 7 = 7 * w + 7 by omega]; exact (hL.1.2.2.1 (7 * w + 7) (by omega)).2.2.1) ?_
      refine F_aload_n dX4_week_59 rfl ?_
      refine F_getr dX4_week_60 rfl rfl (by first | assumption | rfl) rfl ?_
      refine F_getr dX4_week_63 rfl rfl (by first | assumption | rfl) rfl ?_
      refine F_iload_n dX4_week_66 rfl ?_
      refine F_ialdE (v := sSum (pQ (σ 117) g c (-1)) (7 * w)) dX4_week_67 (by first | assumption | rfl) (by decide) (by omega) (by rw [show w * 7 = 7 * w by omega]; exact (hL.1.2.2.1 (7 * w) (by omega)).2.2.1) ?_
      refine F_isub dX4_week_68 ?_
      refine F_iret dX4_week_69 rfl ?_
      exact hQ
    · exact absurd hw c18

theorem m_weekB (hq : QR σ n c) {g w : Nat} (hg : g < n) (hw : w < 10) : Ask G mX5_week [.ref 116, .int (nI g), .int (nI w)] (sSum (pQ (σ 117) g c (-1)) (7 * w + 7) - sSum (pQ (σ 117) g c (-1)) (7 * w)) σ := by
  have hn := hq.1.2.1
  have h23 := hq.1.1.2.2.1
  have hn6 := hq.1.1.1
  have hq1 := (Fr.thrown hq (nI 0)).qr hq
  obtain ⟨τ, hv, hG, h7, hf⟩ := q_goesR (G := G) (d := 5) (to := 69) hq1 hg (by omega)
  have hG : Gone τ (pQ (σ 117) g c (-1)) (69 + 1) := hG
  refine ⟨τ, mV_of fun Q hQ => ?_, (Fr.thrown hq (nI 0)).trans hf⟩
  refine F_aload_n dX5_week_0 rfl ?_
  refine F_iconst (v := nI 0) dX5_week_1 rfl ?_
  refine F_put dX5_week_2 rfl rfl (by first | assumption | rfl) rfl rfl rfl rfl ?_
  refine F_aload_n dX5_week_5 rfl ?_
  refine F_iload_n dX5_week_6 rfl ?_
  refine F_cV1i (v_isGroup (d := 5) _ (n := n) h23 (by omega)) dX5_week_7 rfl rfl (by decide) (by first | assumption | rfl) rfl rfl rfl (by decide) (Nat.le_of_ble_eq_true rfl) (by omega) ?_
  refine F_if_eqB (tgt := 23) dX5_week_10 rfl (fun c10 => ?_) (fun c10 => ?_)
  · rw [show (up σ 116 0 (nI 0)) 117 23 = nI n from h23, grB_nI hg (by omega)] at c10
    cases c10
  · refine F_iload_n dX5_week_13 rfl ?_
    refine F_iconst (v := nI 0) dX5_week_14 rfl ?_
    refine F_bipush (v := nI 9) dX5_week_15 rfl ?_
    refine F_cS3i (v_isIn (d := 5) _ _ _) dX5_week_17 rfl rfl rfl (by decide) (Nat.le_of_ble_eq_true rfl) (by omega) ?_
    refine F_if_neB (tgt := 25) dX5_week_20 rfl (fun c20 => ?_) (fun c20 => ?_)
    · refine F_aload_n dX5_week_25 rfl ?_
      refine F_iload_n dX5_week_26 rfl ?_
      refine F_bipush (v := nI 69) dX5_week_27 rfl ?_
      refine F_cV2v (hv) dX5_week_29 rfl rfl (by decide) (by first | assumption | rfl) rfl rfl rfl (by decide) (Nat.le_of_ble_eq_true rfl) (by omega) ?_
      refine F_aload_n dX5_week_32 rfl ?_
      refine F_getr dX5_week_33 rfl rfl (by first | assumption | rfl) rfl ?_
      refine F_bipush (v := nI 7) dX5_week_36 rfl ?_
      refine F_iload_n dX5_week_38 rfl ?_
      refine F_imulN dX5_week_39 ?_
      refine F_bipush (v := nI 7) dX5_week_40 rfl ?_
      refine F_iaddN dX5_week_42 ?_
      refine F_ialdE (v := sSum (pQ (σ 117) g c (-1)) (7 * w + 7)) dX5_week_43 (by first | assumption | rfl) (by decide) (by omega) (hG.1 _ (by omega)) ?_
      refine F_aload_n dX5_week_44 rfl ?_
      refine F_getr dX5_week_45 rfl rfl (by first | assumption | rfl) rfl ?_
      refine F_bipush (v := nI 7) dX5_week_48 rfl ?_
      refine F_iload_n dX5_week_50 rfl ?_
      refine F_imulN dX5_week_51 ?_
      refine F_ialdE (v := sSum (pQ (σ 117) g c (-1)) (7 * w)) dX5_week_52 (by first | assumption | rfl) (by decide) (by omega) (hG.1 _ (by omega)) ?_
      refine F_isub dX5_week_53 ?_
      refine F_iret dX5_week_54 rfl ?_
      exact hQ
    · rw [inR_nI (by decide) (by decide) (by omega), decide_eq_true (by omega), decide_eq_true (by omega)] at c20
      cases c20

theorem op_week (h : Rel σ) (g w : Int32) : Same G mX4_week mX5_week [.int g, .int w] σ := by
  refine Same.of h fun n c hq => ?_
  by_cases hA : (grB (nI n) g && inR w (nI 0) (nI 9)) = true
  · have hx := Bool.and_eq_true_iff.mp hA
    have hn6 := hq.1.1.1
    obtain ⟨i, hi, e1⟩ := grB_n (x := nI n) rfl (by omega) hx.1
    obtain ⟨j, hj, e2⟩ := inR_n (by decide) hx.2
    subst e1; subst e2
    exact ⟨_, b_weekB hq hi (by omega), fun σ2 h7 hq2 => by rw [← h7]; exact m_weekB hq2 hi (by omega)⟩
  · have hA := Bool.not_eq_true _ ▸ hA
    exact ⟨_, b_weekA hq hA, fun σ2 h7 hq2 => m_weekA hq2 hA⟩
theorem cntB_s (P : Nat → Bool) (m : Nat) : cntB P (m + 1) = cntB P m + if P m = true then 1 else 0 := by
  simp only [cntB]
theorem b_injuredB (hq : QR σ n c) {g a b : Nat} (hg : g < n) (hab : a ≤ b) (hb : b < 70) : Ask G mX4_injured [.ref 3, .int (nI g), .int (nI a), .int (nI b)] (nI (cntB (fun i => sInj (pQ (σ 117) g c (-1)) (a + i)) (b + 1 - a))) σ := by
  have hn := hq.1.2.1
  have h23 := hq.1.1.2.2.1
  have hn6 := hq.1.1.1
  obtain ⟨τ, hv, hL, hC, far⟩ := q_follow (G := G) (d := 7) (a := 29) (N := b + 1) (Or.inl rfl) hq hg (by omega) (-1) (pred_s _ (by omega))
  refine ⟨τ, mV_of fun Q hQ => ?_, q_frB (n := n) (c := c) (Or.inl rfl) hC far⟩
  refine F_aload_n dX4_injured_0 rfl ?_
  refine F_getr dX4_injured_1 rfl rfl (by first | assumption | rfl) rfl ?_
  refine F_iload_n dX4_injured_4 rfl ?_
  refine F_cV1i (v_hasGroup (d := 11) isTold_4 _) dX4_injured_5 rfl rfl (by decide) (by first | assumption | rfl) rfl rfl rfl (by decide) (Nat.le_of_ble_eq_true rfl) (by omega) ?_
  refine F_if_eqB (tgt := 19) dX4_injured_8 rfl (fun c8 => ?_) (fun c8 => ?_)
  · have c8 : grB (σ 4 0) (nI g) = false := c8
    rw [hn, grB_nI hg (by omega)] at c8
    cases c8
  · refine F_iload_n dX4_injured_11 rfl ?_
    refine F_iload_n dX4_injured_12 rfl ?_
    refine F_cS2i (v_bAreDays (d := 10) _ _) dX4_injured_13 rfl rfl rfl (by decide) (Nat.le_of_ble_eq_true rfl) (by omega) ?_
    refine F_if_neB (tgt := 21) dX4_injured_16 rfl (fun c16 => ?_) (fun c16 => ?_)
    · refine F_aload_n dX4_injured_21 rfl ?_
      refine F_getr dX4_injured_22 rfl rfl (by first | assumption | rfl) rfl ?_
      refine F_aload_n dX4_injured_25 rfl ?_
      refine F_getr dX4_injured_26 rfl rfl (by first | assumption | rfl) rfl ?_
      refine F_iload_n dX4_injured_29 rfl ?_
      refine F_iconst (v := (-1)) dX4_injured_30 rfl ?_
      refine F_iload_n dX4_injured_31 rfl ?_
      refine F_cV_riii_v (hv) dX4_injured_32 rfl rfl (by decide) (by first | assumption | rfl) rfl rfl rfl (by decide) (Nat.le_of_ble_eq_true rfl) (by omega) ?_
      refine F_iconst (v := nI 0) dX4_injured_35 rfl ?_
      refine F_istore dX4_injured_36 (Nat.le_of_ble_eq_true rfl) ?_
      refine F_iload_n dX4_injured_38 rfl ?_
      refine F_istore dX4_injured_39 (Nat.le_of_ble_eq_true rfl) ?_
      have hl : ∀ m, m ≤ b + 1 - a → mF G mX4_injured 12 41 [some (.ref 3), some (.int (nI g)), some (.int (nI a)), some (.int (nI b)), some (.int (nI (cntB (fun i => sInj (pQ (σ 117) g c (-1)) (a + i)) m))), some (.int (nI (a + m)))] [] τ Q := by
        refine loopUp (b + 1 - a) (fun m hm ih => ?_)
        have hle := cntB_le (fun i => sInj (pQ (σ 117) g c (-1)) (a + i)) m
        refine F_iload dX4_injured_41 rfl ?_
        refine F_iload_n dX4_injured_43 rfl ?_
        refine F_icmp_gtN (tgt := 69) dX4_injured_44 rfl (by omega) (by omega) (fun c44 => ?_) (fun c44 => ?_)
        · refine F_iload dX4_injured_69 rfl ?_
          refine F_iret dX4_injured_71 rfl ?_
          have e1 : m = b + 1 - a := by omega
          subst e1
          exact hQ
        · refine F_aload_n dX4_injured_47 rfl ?_
          refine F_getr dX4_injured_48 rfl rfl (by first | assumption | rfl) rfl ?_
          refine F_getr dX4_injured_51 rfl rfl (by first | assumption | rfl) rfl ?_
          refine F_iload dX4_injured_54 rfl ?_
          refine F_zaldE (v := bI (sInj (pQ (σ 117) g c (-1)) (a + m))) dX4_injured_56 (by first | assumption | rfl) (by decide) (by omega) (hL.1.2.2.2 (a + m) (by omega)).2 ?_
          refine F_if_eqB (tgt := 63) dX4_injured_57 rfl (fun c57 => ?_) (fun c57 => ?_)
          · refine F_iincN dX4_injured_63 rfl ?_
            refine F_goto (tgt := 41) dX4_injured_66 rfl ?_
            first
              | (have e := cntB_s (fun i => sInj (pQ (σ 117) g c (-1)) (a + i)) m
                 rw [if_pos c57] at e
                 rw [e] at ih
                 exact ih (by omega))
              | (have e := cntB_s (fun i => sInj (pQ (σ 117) g c (-1)) (a + i)) m
                 rw [if_neg (by rw [c57]; decide)] at e
                 rw [e] at ih
                 exact ih (by omega))
          · refine F_iincN dX4_injured_60 rfl ?_
            refine F_iincN dX4_injured_63 rfl ?_
            refine F_goto (tgt := 41) dX4_injured_66 rfl ?_
            first
              | (have e := cntB_s (fun i => sInj (pQ (σ 117) g c (-1)) (a + i)) m
                 rw [if_pos c57] at e
                 rw [e] at ih
                 exact ih (by omega))
              | (have e := cntB_s (fun i => sInj (pQ (σ 117) g c (-1)) (a + i)) m
                 rw [if_neg (by rw [c57]; decide)] at e
                 rw [e] at ih
                 exact ih (by omega))
      exact hl 0 (by omega)
    · rw [dB_nI (by omega), dB_nI hb, decide_eq_true (nI_le hab (by omega))] at c16
      cases c16

theorem m_injuredB (hq : QR σ n c) {g a b : Nat} (hg : g < n) (hab : a ≤ b) (hb : b < 70) : Ask G mX5_injured [.ref 116, .int (nI g), .int (nI a), .int (nI b)] (nI (cntB (fun i => sInj (pQ (σ 117) g c (-1)) (a + i)) (b + 1 - a))) σ := by
  have hn := hq.1.2.1
  have h23 := hq.1.1.2.2.1
  have hn6 := hq.1.1.1
  have hq1 := (Fr.thrown hq (nI 0)).qr hq
  obtain ⟨τ, hv, hG, h7, hf⟩ := q_goesR (G := G) (d := 5) (to := b) hq1 hg (by omega)
  have hG : Gone τ (pQ (σ 117) g c (-1)) (b + 1) := hG
  refine ⟨τ, mV_of fun Q hQ => ?_, (Fr.thrown hq (nI 0)).trans hf⟩
  refine F_aload_n dX5_injured_0 rfl ?_
  refine F_iconst (v := nI 0) dX5_injured_1 rfl ?_
  refine F_put dX5_injured_2 rfl rfl (by first | assumption | rfl) rfl rfl rfl rfl ?_
  refine F_aload_n dX5_injured_5 rfl ?_
  refine F_iload_n dX5_injured_6 rfl ?_
  refine F_iload_n dX5_injured_7 rfl ?_
  refine F_iload_n dX5_injured_8 rfl ?_
  refine F_cV3i (v_areDays (d := 5) _ _ _ (n := n) h23 (by omega)) dX5_injured_9 rfl rfl (by decide) (by first | assumption | rfl) rfl rfl rfl (by decide) (Nat.le_of_ble_eq_true rfl) (by omega) ?_
  refine F_if_neB (tgt := 17) dX5_injured_12 rfl (fun c12 => ?_) (fun c12 => ?_)
  · refine F_aload_n dX5_injured_17 rfl ?_
    refine F_iload_n dX5_injured_18 rfl ?_
    refine F_iload_n dX5_injured_19 rfl ?_
    refine F_cV2v (hv) dX5_injured_20 rfl rfl (by decide) (by first | assumption | rfl) rfl rfl rfl (by decide) (Nat.le_of_ble_eq_true rfl) (by omega) ?_
    refine F_iconst (v := nI 0) dX5_injured_23 rfl ?_
    refine F_istore dX5_injured_24 (Nat.le_of_ble_eq_true rfl) ?_
    refine F_iload_n dX5_injured_26 rfl ?_
    refine F_istore dX5_injured_27 (Nat.le_of_ble_eq_true rfl) ?_
    have hl : ∀ m, m ≤ b + 1 - a → mF G mX5_injured 12 29 [some (.ref 116), some (.int (nI g)), some (.int (nI a)), some (.int (nI b)), some (.int (nI (cntB (fun i => sInj (pQ (σ 117) g c (-1)) (a + i)) m))), some (.int (nI (a + m)))] [] τ Q := by
      refine loopUp (b + 1 - a) (fun m hm ih => ?_)
      have hle := cntB_le (fun i => sInj (pQ (σ 117) g c (-1)) (a + i)) m
      refine F_iload dX5_injured_29 rfl ?_
      refine F_iload_n dX5_injured_31 rfl ?_
      refine F_icmp_gtN (tgt := 61) dX5_injured_32 rfl (by omega) (by omega) (fun c32 => ?_) (fun c32 => ?_)
      · refine F_iload dX5_injured_61 rfl ?_
        refine F_iret dX5_injured_63 rfl ?_
        have e1 : m = b + 1 - a := by omega
        subst e1
        exact hQ
      · refine F_iload dX5_injured_35 rfl ?_
        refine F_aload_n dX5_injured_37 rfl ?_
        refine F_getr dX5_injured_38 rfl rfl (by first | assumption | rfl) rfl ?_
        refine F_iload dX5_injured_41 rfl ?_
        refine F_zaldE (v := bI (sInj (pQ (σ 117) g c (-1)) (a + m))) dX5_injured_43 (by first | assumption | rfl) (by decide) (by omega) (hG.2 (a + m) (by omega)).2.2.2.2 ?_
        refine F_if_eqB (tgt := 51) dX5_injured_44 rfl (fun c44 => ?_) (fun c44 => ?_)
        · refine F_iconst (v := nI 0) dX5_injured_51 rfl ?_
          refine F_iaddN dX5_injured_52 ?_
          refine F_istore dX5_injured_53 (Nat.le_of_ble_eq_true rfl) ?_
          refine F_iincN dX5_injured_55 rfl ?_
          refine F_goto (tgt := 29) dX5_injured_58 rfl ?_
          first
            | (have e := cntB_s (fun i => sInj (pQ (σ 117) g c (-1)) (a + i)) m
               rw [if_pos c44] at e
               rw [e] at ih
               exact ih (by omega))
            | (have e := cntB_s (fun i => sInj (pQ (σ 117) g c (-1)) (a + i)) m
               rw [if_neg (by rw [c44]; decide)] at e
               rw [e] at ih
               exact ih (by omega))
        · refine F_iconst (v := nI 1) dX5_injured_47 rfl ?_
          refine F_goto (tgt := 52) dX5_injured_48 rfl ?_
          refine F_iaddN dX5_injured_52 ?_
          refine F_istore dX5_injured_53 (Nat.le_of_ble_eq_true rfl) ?_
          refine F_iincN dX5_injured_55 rfl ?_
          refine F_goto (tgt := 29) dX5_injured_58 rfl ?_
          first
            | (have e := cntB_s (fun i => sInj (pQ (σ 117) g c (-1)) (a + i)) m
               rw [if_pos c44] at e
               rw [e] at ih
               exact ih (by omega))
            | (have e := cntB_s (fun i => sInj (pQ (σ 117) g c (-1)) (a + i)) m
               rw [if_neg (by rw [c44]; decide)] at e
               rw [e] at ih
               exact ih (by omega))
    exact hl 0 (by omega)
  · rw [show (up σ 116 0 (nI 0)) 117 23 = nI n from h23, grB_nI hg (by omega), dB_nI (by omega), dB_nI hb, decide_eq_true (nI_le hab (by omega))] at c12
    cases c12

theorem b_injuredA (hq : QR σ n c) {g a b : Int32} (h : (grB (nI n) g && (dB a && dB b && decide (a ≤ b))) = false) : Ask G mX4_injured [.ref 3, .int g, .int a, .int b] (-1) σ := by
  have hn := hq.1.2.1
  have h23 := hq.1.1.2.2.1
  have hn6 := hq.1.1.1
  refine ⟨σ, mV_of fun Q hQ => ?_, Fr.rfl hq⟩
  refine F_aload_n dX4_injured_0 rfl ?_
  refine F_getr dX4_injured_1 rfl rfl (by first | assumption | rfl) rfl ?_
  refine F_iload_n dX4_injured_4 rfl ?_
  refine F_cV1i (v_hasGroup (d := 11) isTold_4 _) dX4_injured_5 rfl rfl (by decide) (by first | assumption | rfl) rfl rfl rfl (by decide) (Nat.le_of_ble_eq_true rfl) (by omega) ?_
  refine F_if_eqB (tgt := 19) dX4_injured_8 rfl (fun c8 => ?_) (fun c8 => ?_)
  · refine F_iconst (v := (-1)) dX4_injured_19 rfl ?_
    refine F_iret dX4_injured_20 rfl ?_
    exact hQ
  · refine F_iload_n dX4_injured_11 rfl ?_
    refine F_iload_n dX4_injured_12 rfl ?_
    refine F_cS2i (v_bAreDays (d := 10) _ _) dX4_injured_13 rfl rfl rfl (by decide) (Nat.le_of_ble_eq_true rfl) (by omega) ?_
    refine F_if_neB (tgt := 21) dX4_injured_16 rfl (fun c16 => ?_) (fun c16 => ?_)
    · exfalso
      have c8 : grB (σ 4 0) g = true := c8
      rw [hn] at c8
      rw [c8, c16] at h
      cases h
    · refine F_iconst (v := (-1)) dX4_injured_19 rfl ?_
      refine F_iret dX4_injured_20 rfl ?_
      exact hQ

theorem m_injuredA (hq : QR σ n c) {g a b : Int32} (h : (grB (nI n) g && (dB a && dB b && decide (a ≤ b))) = false) : Ask G mX5_injured [.ref 116, .int g, .int a, .int b] (-1) σ := by
  have hn := hq.1.2.1
  have h23 := hq.1.1.2.2.1
  have hn6 := hq.1.1.1
  have hq1 := (Fr.thrown hq (nI 0)).qr hq
  refine ⟨(up σ 116 0 (nI 0)), mV_of fun Q hQ => ?_, Fr.thrown hq _⟩
  refine F_aload_n dX5_injured_0 rfl ?_
  refine F_iconst (v := nI 0) dX5_injured_1 rfl ?_
  refine F_put dX5_injured_2 rfl rfl (by first | assumption | rfl) rfl rfl rfl rfl ?_
  refine F_aload_n dX5_injured_5 rfl ?_
  refine F_iload_n dX5_injured_6 rfl ?_
  refine F_iload_n dX5_injured_7 rfl ?_
  refine F_iload_n dX5_injured_8 rfl ?_
  refine F_cV3i (v_areDays (d := 5) _ _ _ (n := n) h23 (by omega)) dX5_injured_9 rfl rfl (by decide) (by first | assumption | rfl) rfl rfl rfl (by decide) (Nat.le_of_ble_eq_true rfl) (by omega) ?_
  refine F_if_neB (tgt := 17) dX5_injured_12 rfl (fun c12 => ?_) (fun c12 => ?_)
  · rw [show (up σ 116 0 (nI 0)) 117 23 = nI n from h23, Bool.and_assoc, Bool.and_assoc, ← Bool.and_assoc (dB a), h] at c12
    cases c12
  · refine F_iconst (v := (-1)) dX5_injured_15 rfl ?_
    refine F_iret dX5_injured_16 rfl ?_
    exact hQ

theorem op_injured (h : Rel σ) (g a b : Int32) : Same G mX4_injured mX5_injured [.int g, .int a, .int b] σ := by
  refine Same.of h fun n c hq => ?_
  by_cases hA : (grB (nI n) g && (dB a && dB b && decide (a ≤ b))) = true
  · have hx := Bool.and_eq_true_iff.mp hA
    have hn6 := hq.1.1.1
    obtain ⟨i, hi, e1⟩ := grB_n (x := nI n) rfl (by omega) hx.1
    obtain ⟨x, y, hxy, hy, e2, e3⟩ := days_n hx.2
    subst e1; subst e2; subst e3
    exact ⟨_, b_injuredB hq hi hxy hy, fun σ2 h7 hq2 => by rw [← h7]; exact m_injuredB hq2 hi hxy hy⟩
  · have hA := Bool.not_eq_true _ ▸ hA
    exact ⟨_, b_injuredA hq hA, fun σ2 h7 hq2 => m_injuredA hq2 hA⟩
/-- the first of the greatest -/
def pkN (F : Nat → Int32) (a : Nat) : Nat → Nat
  | 0 => a
  | m + 1 => if F (pkN F a m) < F (a + m) then a + m else pkN F a m
theorem pkN_le (F : Nat → Int32) (a : Nat) : ∀ m, a ≤ pkN F a m ∧ pkN F a m ≤ a + (m - 1) := by
  intro m
  induction m with
  | zero => simp only [pkN]; omega
  | succ m ih => simp only [pkN]; split <;> omega
theorem pkN_1 (F : Nat → Int32) (a : Nat) : pkN F a 1 = a := by simp only [pkN]; exact ite_self a
theorem b_peakB (hq : QR σ n c) {g a b : Nat} (hg : g < n) (hab : a ≤ b) (hb : b < 70) : Ask G mX4_peak [.ref 3, .int (nI g), .int (nI a), .int (nI b)] (nI (pkN (sForm (pQ (σ 117) g c (-1))) a (b + 1 - a))) σ := by
  have hn := hq.1.2.1
  have h23 := hq.1.1.2.2.1
  have hn6 := hq.1.1.1
  obtain ⟨τ, hv, hL, hC, far⟩ := q_follow (G := G) (d := 7) (a := 29) (N := b + 1) (Or.inl rfl) hq hg (by omega) (-1) (pred_s _ (by omega))
  refine ⟨τ, mV_of fun Q hQ => ?_, q_frB (n := n) (c := c) (Or.inl rfl) hC far⟩
  refine F_aload_n dX4_peak_0 rfl ?_
  refine F_getr dX4_peak_1 rfl rfl (by first | assumption | rfl) rfl ?_
  refine F_iload_n dX4_peak_4 rfl ?_
  refine F_cV1i (v_hasGroup (d := 11) isTold_4 _) dX4_peak_5 rfl rfl (by decide) (by first | assumption | rfl) rfl rfl rfl (by decide) (Nat.le_of_ble_eq_true rfl) (by omega) ?_
  refine F_if_eqB (tgt := 19) dX4_peak_8 rfl (fun c8 => ?_) (fun c8 => ?_)
  · have c8 : grB (σ 4 0) (nI g) = false := c8
    rw [hn, grB_nI hg (by omega)] at c8
    cases c8
  · refine F_iload_n dX4_peak_11 rfl ?_
    refine F_iload_n dX4_peak_12 rfl ?_
    refine F_cS2i (v_bAreDays (d := 10) _ _) dX4_peak_13 rfl rfl rfl (by decide) (Nat.le_of_ble_eq_true rfl) (by omega) ?_
    refine F_if_neB (tgt := 21) dX4_peak_16 rfl (fun c16 => ?_) (fun c16 => ?_)
    · refine F_aload_n dX4_peak_21 rfl ?_
      refine F_getr dX4_peak_22 rfl rfl (by first | assumption | rfl) rfl ?_
      refine F_aload_n dX4_peak_25 rfl ?_
      refine F_getr dX4_peak_26 rfl rfl (by first | assumption | rfl) rfl ?_
      refine F_iload_n dX4_peak_29 rfl ?_
      refine F_iconst (v := (-1)) dX4_peak_30 rfl ?_
      refine F_iload_n dX4_peak_31 rfl ?_
      refine F_cV_riii_v (hv) dX4_peak_32 rfl rfl (by decide) (by first | assumption | rfl) rfl rfl rfl (by decide) (Nat.le_of_ble_eq_true rfl) (by omega) ?_
      refine F_iload_n dX4_peak_35 rfl ?_
      refine F_istore dX4_peak_36 (Nat.le_of_ble_eq_true rfl) ?_
      refine F_iload_n dX4_peak_38 rfl ?_
      refine F_iconst (v := nI 1) dX4_peak_39 rfl ?_
      refine F_iaddN dX4_peak_40 ?_
      refine F_istore dX4_peak_41 (Nat.le_of_ble_eq_true rfl) ?_
      have hl : ∀ m, m ≤ b + 1 - a → 1 ≤ m → mF G mX4_peak 12 43 [some (.ref 3), some (.int (nI g)), some (.int (nI a)), some (.int (nI b)), some (.int (nI (pkN (sForm (pQ (σ 117) g c (-1))) a m))), some (.int (nI (a + m)))] [] τ Q := by
        refine loopUp (b + 1 - a) (fun m hm ih hm1 => ?_)
        have hle := pkN_le (sForm (pQ (σ 117) g c (-1))) a m
        have ih := fun h => ih h (by omega)
        refine F_iload dX4_peak_43 rfl ?_
        refine F_iload_n dX4_peak_45 rfl ?_
        refine F_icmp_gtN (tgt := 80) dX4_peak_46 rfl (by omega) (by omega) (fun c46 => ?_) (fun c46 => ?_)
        · refine F_iload dX4_peak_80 rfl ?_
          refine F_iret dX4_peak_82 rfl ?_
          have e1 : m = b + 1 - a := by omega
          subst e1
          exact hQ
        · refine F_aload_n dX4_peak_49 rfl ?_
          refine F_getr dX4_peak_50 rfl rfl (by first | assumption | rfl) rfl ?_
          refine F_iload dX4_peak_53 rfl ?_
          refine F_cV1i (q_formOf (d := 9) isCourse_29 hL (k := a + m) (by omega) (by omega)) dX4_peak_55 rfl rfl (by decide) (by first | assumption | rfl) rfl rfl rfl (by decide) (Nat.le_of_ble_eq_true rfl) (by omega) ?_
          refine F_aload_n dX4_peak_58 rfl ?_
          refine F_getr dX4_peak_59 rfl rfl (by first | assumption | rfl) rfl ?_
          refine F_iload dX4_peak_62 rfl ?_
          refine F_cV1i (q_formOf (d := 9) isCourse_29 hL (k := (pkN (sForm (pQ (σ 117) g c (-1))) a m)) (by omega) (by omega)) dX4_peak_64 rfl rfl (by decide) (by first | assumption | rfl) rfl rfl rfl (by decide) (Nat.le_of_ble_eq_true rfl) (by omega) ?_
          refine F_icmp_le (tgt := 74) dX4_peak_67 rfl (fun c67 => ?_) (fun c67 => ?_)
          · refine F_iincN dX4_peak_74 rfl ?_
            refine F_goto (tgt := 43) dX4_peak_77 rfl ?_
            have e : pkN (sForm (pQ (σ 117) g c (-1))) a (m + 1) = if sForm (pQ (σ 117) g c (-1)) (pkN (sForm (pQ (σ 117) g c (-1))) a m) < sForm (pQ (σ 117) g c (-1)) (a + m) then a + m else (pkN (sForm (pQ (σ 117) g c (-1))) a m) := rfl
            first
              | (rw [if_pos (Int32.not_le.mp c67)] at e
                 rw [e] at ih
                 exact ih (by omega))
              | (rw [if_neg (Int32.not_lt.mpr c67)] at e
                 rw [e] at ih
                 exact ih (by omega))
          · refine F_iload dX4_peak_70 rfl ?_
            refine F_istore dX4_peak_72 (Nat.le_of_ble_eq_true rfl) ?_
            refine F_iincN dX4_peak_74 rfl ?_
            refine F_goto (tgt := 43) dX4_peak_77 rfl ?_
            have e : pkN (sForm (pQ (σ 117) g c (-1))) a (m + 1) = if sForm (pQ (σ 117) g c (-1)) (pkN (sForm (pQ (σ 117) g c (-1))) a m) < sForm (pQ (σ 117) g c (-1)) (a + m) then a + m else (pkN (sForm (pQ (σ 117) g c (-1))) a m) := rfl
            first
              | (rw [if_pos (Int32.not_le.mp c67)] at e
                 rw [e] at ih
                 exact ih (by omega))
              | (rw [if_neg (Int32.not_lt.mpr c67)] at e
                 rw [e] at ih
                 exact ih (by omega))
      have h1 := hl 1 (by omega) (Nat.le_refl 1)
      rw [pkN_1] at h1
      exact h1
    · rw [dB_nI (by omega), dB_nI hb, decide_eq_true (nI_le hab (by omega))] at c16
      cases c16

theorem m_peakB (hq : QR σ n c) {g a b : Nat} (hg : g < n) (hab : a ≤ b) (hb : b < 70) : Ask G mX5_peak [.ref 116, .int (nI g), .int (nI a), .int (nI b)] (nI (pkN (sForm (pQ (σ 117) g c (-1))) a (b + 1 - a))) σ := by
  have hn := hq.1.2.1
  have h23 := hq.1.1.2.2.1
  have hn6 := hq.1.1.1
  have hq1 := (Fr.thrown hq (nI 0)).qr hq
  obtain ⟨τ, hv, hG, h7, hf⟩ := q_goesR (G := G) (d := 5) (to := b) hq1 hg (by omega)
  have hG : Gone τ (pQ (σ 117) g c (-1)) (b + 1) := hG
  refine ⟨τ, mV_of fun Q hQ => ?_, (Fr.thrown hq (nI 0)).trans hf⟩
  refine F_aload_n dX5_peak_0 rfl ?_
  refine F_iconst (v := nI 0) dX5_peak_1 rfl ?_
  refine F_put dX5_peak_2 rfl rfl (by first | assumption | rfl) rfl rfl rfl rfl ?_
  refine F_aload_n dX5_peak_5 rfl ?_
  refine F_iload_n dX5_peak_6 rfl ?_
  refine F_iload_n dX5_peak_7 rfl ?_
  refine F_iload_n dX5_peak_8 rfl ?_
  refine F_cV3i (v_areDays (d := 5) _ _ _ (n := n) h23 (by omega)) dX5_peak_9 rfl rfl (by decide) (by first | assumption | rfl) rfl rfl rfl (by decide) (Nat.le_of_ble_eq_true rfl) (by omega) ?_
  refine F_if_neB (tgt := 17) dX5_peak_12 rfl (fun c12 => ?_) (fun c12 => ?_)
  · refine F_aload_n dX5_peak_17 rfl ?_
    refine F_iload_n dX5_peak_18 rfl ?_
    refine F_iload_n dX5_peak_19 rfl ?_
    refine F_cV2v (hv) dX5_peak_20 rfl rfl (by decide) (by first | assumption | rfl) rfl rfl rfl (by decide) (Nat.le_of_ble_eq_true rfl) (by omega) ?_
    refine F_iload_n dX5_peak_23 rfl ?_
    refine F_istore dX5_peak_24 (Nat.le_of_ble_eq_true rfl) ?_
    refine F_iload_n dX5_peak_26 rfl ?_
    refine F_istore dX5_peak_27 (Nat.le_of_ble_eq_true rfl) ?_
    have hl : ∀ m, m ≤ b + 1 - a → mF G mX5_peak 12 29 [some (.ref 116), some (.int (nI g)), some (.int (nI a)), some (.int (nI b)), some (.int (nI (pkN (sForm (pQ (σ 117) g c (-1))) a m))), some (.int (nI (a + m)))] [] τ Q := by
      refine loopUp (b + 1 - a) (fun m hm ih => ?_)
      have hle := pkN_le (sForm (pQ (σ 117) g c (-1))) a m
      refine F_iload dX5_peak_29 rfl ?_
      refine F_iload_n dX5_peak_31 rfl ?_
      refine F_icmp_gtN (tgt := 65) dX5_peak_32 rfl (by omega) (by omega) (fun c32 => ?_) (fun c32 => ?_)
      · refine F_iload dX5_peak_65 rfl ?_
        refine F_iret dX5_peak_67 rfl ?_
        have e1 : m = b + 1 - a := by omega
        subst e1
        exact hQ
      · refine F_aload_n dX5_peak_35 rfl ?_
        refine F_iload dX5_peak_36 rfl ?_
        refine F_cV1i (q_formAt (d := 9) (p := (pQ (σ 117) g c (-1))) hG (fun k hk => by rw [h7]; rfl) (k := a + m) (by omega) (by omega)) dX5_peak_38 rfl rfl (by decide) (by first | assumption | rfl) rfl rfl rfl (by decide) (Nat.le_of_ble_eq_true rfl) (by omega) ?_
        refine F_aload_n dX5_peak_41 rfl ?_
        refine F_iload dX5_peak_42 rfl ?_
        refine F_cV1i (q_formAt (d := 9) (p := (pQ (σ 117) g c (-1))) hG (fun k hk => by rw [h7]; rfl) (k := (pkN (sForm (pQ (σ 117) g c (-1))) a m)) (by omega) (by omega)) dX5_peak_44 rfl rfl (by decide) (by first | assumption | rfl) rfl rfl rfl (by decide) (Nat.le_of_ble_eq_true rfl) (by omega) ?_
        refine F_icmp_le (tgt := 55) dX5_peak_47 rfl (fun c47 => ?_) (fun c47 => ?_)
        · refine F_iload dX5_peak_55 rfl ?_
          refine F_istore dX5_peak_57 (Nat.le_of_ble_eq_true rfl) ?_
          refine F_iincN dX5_peak_59 rfl ?_
          refine F_goto (tgt := 29) dX5_peak_62 rfl ?_
          have e : pkN (sForm (pQ (σ 117) g c (-1))) a (m + 1) = if sForm (pQ (σ 117) g c (-1)) (pkN (sForm (pQ (σ 117) g c (-1))) a m) < sForm (pQ (σ 117) g c (-1)) (a + m) then a + m else (pkN (sForm (pQ (σ 117) g c (-1))) a m) := rfl
          first
            | (rw [if_pos (Int32.not_le.mp c47)] at e
               rw [e] at ih
               exact ih (by omega))
            | (rw [if_neg (Int32.not_lt.mpr c47)] at e
               rw [e] at ih
               exact ih (by omega))
        · refine F_iload dX5_peak_50 rfl ?_
          refine F_goto (tgt := 57) dX5_peak_52 rfl ?_
          refine F_istore dX5_peak_57 (Nat.le_of_ble_eq_true rfl) ?_
          refine F_iincN dX5_peak_59 rfl ?_
          refine F_goto (tgt := 29) dX5_peak_62 rfl ?_
          have e : pkN (sForm (pQ (σ 117) g c (-1))) a (m + 1) = if sForm (pQ (σ 117) g c (-1)) (pkN (sForm (pQ (σ 117) g c (-1))) a m) < sForm (pQ (σ 117) g c (-1)) (a + m) then a + m else (pkN (sForm (pQ (σ 117) g c (-1))) a m) := rfl
          first
            | (rw [if_pos (Int32.not_le.mp c47)] at e
               rw [e] at ih
               exact ih (by omega))
            | (rw [if_neg (Int32.not_lt.mpr c47)] at e
               rw [e] at ih
               exact ih (by omega))
    exact hl 0 (by omega)
  · rw [show (up σ 116 0 (nI 0)) 117 23 = nI n from h23, grB_nI hg (by omega), dB_nI (by omega), dB_nI hb, decide_eq_true (nI_le hab (by omega))] at c12
    cases c12

theorem b_peakA (hq : QR σ n c) {g a b : Int32} (h : (grB (nI n) g && (dB a && dB b && decide (a ≤ b))) = false) : Ask G mX4_peak [.ref 3, .int g, .int a, .int b] (-1) σ := by
  have hn := hq.1.2.1
  have h23 := hq.1.1.2.2.1
  have hn6 := hq.1.1.1
  refine ⟨σ, mV_of fun Q hQ => ?_, Fr.rfl hq⟩
  refine F_aload_n dX4_peak_0 rfl ?_
  refine F_getr dX4_peak_1 rfl rfl (by first | assumption | rfl) rfl ?_
  refine F_iload_n dX4_peak_4 rfl ?_
  refine F_cV1i (v_hasGroup (d := 11) isTold_4 _) dX4_peak_5 rfl rfl (by decide) (by first | assumption | rfl) rfl rfl rfl (by decide) (Nat.le_of_ble_eq_true rfl) (by omega) ?_
  refine F_if_eqB (tgt := 19) dX4_peak_8 rfl (fun c8 => ?_) (fun c8 => ?_)
  · refine F_iconst (v := (-1)) dX4_peak_19 rfl ?_
    refine F_iret dX4_peak_20 rfl ?_
    exact hQ
  · refine F_iload_n dX4_peak_11 rfl ?_
    refine F_iload_n dX4_peak_12 rfl ?_
    refine F_cS2i (v_bAreDays (d := 10) _ _) dX4_peak_13 rfl rfl rfl (by decide) (Nat.le_of_ble_eq_true rfl) (by omega) ?_
    refine F_if_neB (tgt := 21) dX4_peak_16 rfl (fun c16 => ?_) (fun c16 => ?_)
    · exfalso
      have c8 : grB (σ 4 0) g = true := c8
      rw [hn] at c8
      rw [c8, c16] at h
      cases h
    · refine F_iconst (v := (-1)) dX4_peak_19 rfl ?_
      refine F_iret dX4_peak_20 rfl ?_
      exact hQ

theorem m_peakA (hq : QR σ n c) {g a b : Int32} (h : (grB (nI n) g && (dB a && dB b && decide (a ≤ b))) = false) : Ask G mX5_peak [.ref 116, .int g, .int a, .int b] (-1) σ := by
  have hn := hq.1.2.1
  have h23 := hq.1.1.2.2.1
  have hn6 := hq.1.1.1
  have hq1 := (Fr.thrown hq (nI 0)).qr hq
  refine ⟨(up σ 116 0 (nI 0)), mV_of fun Q hQ => ?_, Fr.thrown hq _⟩
  refine F_aload_n dX5_peak_0 rfl ?_
  refine F_iconst (v := nI 0) dX5_peak_1 rfl ?_
  refine F_put dX5_peak_2 rfl rfl (by first | assumption | rfl) rfl rfl rfl rfl ?_
  refine F_aload_n dX5_peak_5 rfl ?_
  refine F_iload_n dX5_peak_6 rfl ?_
  refine F_iload_n dX5_peak_7 rfl ?_
  refine F_iload_n dX5_peak_8 rfl ?_
  refine F_cV3i (v_areDays (d := 5) _ _ _ (n := n) h23 (by omega)) dX5_peak_9 rfl rfl (by decide) (by first | assumption | rfl) rfl rfl rfl (by decide) (Nat.le_of_ble_eq_true rfl) (by omega) ?_
  refine F_if_neB (tgt := 17) dX5_peak_12 rfl (fun c12 => ?_) (fun c12 => ?_)
  · rw [show (up σ 116 0 (nI 0)) 117 23 = nI n from h23, Bool.and_assoc, Bool.and_assoc, ← Bool.and_assoc (dB a), h] at c12
    cases c12
  · refine F_iconst (v := (-1)) dX5_peak_15 rfl ?_
    refine F_iret dX5_peak_16 rfl ?_
    exact hQ

theorem op_peak (h : Rel σ) (g a b : Int32) : Same G mX4_peak mX5_peak [.int g, .int a, .int b] σ := by
  refine Same.of h fun n c hq => ?_
  by_cases hA : (grB (nI n) g && (dB a && dB b && decide (a ≤ b))) = true
  · have hx := Bool.and_eq_true_iff.mp hA
    have hn6 := hq.1.1.1
    obtain ⟨i, hi, e1⟩ := grB_n (x := nI n) rfl (by omega) hx.1
    obtain ⟨x, y, hxy, hy, e2, e3⟩ := days_n hx.2
    subst e1; subst e2; subst e3
    exact ⟨_, b_peakB hq hi hxy hy, fun σ2 h7 hq2 => by rw [← h7]; exact m_peakB hq2 hi hxy hy⟩
  · have hA := Bool.not_eq_true _ ▸ hA
    exact ⟨_, b_peakA hq hA, fun σ2 h7 hq2 => m_peakA hq2 hA⟩
/-- how long a row of days is that ends here, and the longest -/
def rwL (F : Nat → Int32) (a : Nat) : Nat → Nat
  | 0 => 0
  | m + 1 => if (0 : Int32) < F (a + m) then rwL F a m + 1 else 0
def rwB (F : Nat → Int32) (a : Nat) : Nat → Nat
  | 0 => 0
  | m + 1 => if rwB F a m < rwL F a (m + 1) then rwL F a (m + 1) else rwB F a m
theorem rwL_le (F : Nat → Int32) (a : Nat) : ∀ m, rwL F a m ≤ m := by
  intro m
  induction m with
  | zero => exact Nat.le_refl 0
  | succ m ih => simp only [rwL]; split <;> omega
theorem rwB_le (F : Nat → Int32) (a : Nat) : ∀ m, rwB F a m ≤ m := by
  intro m
  induction m with
  | zero => exact Nat.le_refl 0
  | succ m ih => have := rwL_le F a (m + 1); simp only [rwB]; split <;> omega
theorem if_lt_nI {x y : Nat} (hx : x < 2 ^ 31) (hy : y < 2 ^ 31) : (if nI x < nI y then nI y else nI x) = nI (if x < y then y else x) := by
  by_cases h : x < y
  · rw [if_pos h, if_pos ((nI_lt_iff hx hy).mpr h)]
  · rw [if_neg h, if_neg (fun e => h ((nI_lt_iff hx hy).mp e))]
theorem b_rowB (hq : QR σ n c) {g a b : Nat} (hg : g < n) (hab : a ≤ b) (hb : b < 70) : Ask G mX4_row [.ref 3, .int (nI g), .int (nI a), .int (nI b)] (nI (rwB (sLoad (pQ (σ 117) g c (-1))) a (b + 1 - a))) σ := by
  have hn := hq.1.2.1
  have h23 := hq.1.1.2.2.1
  have hn6 := hq.1.1.1
  obtain ⟨τ, hv, hL, hC, far⟩ := q_follow (G := G) (d := 7) (a := 29) (N := b + 1) (Or.inl rfl) hq hg (by omega) (-1) (pred_s _ (by omega))
  refine ⟨τ, mV_of fun Q hQ => ?_, q_frB (n := n) (c := c) (Or.inl rfl) hC far⟩
  refine F_aload_n dX4_row_0 rfl ?_
  refine F_getr dX4_row_1 rfl rfl (by first | assumption | rfl) rfl ?_
  refine F_iload_n dX4_row_4 rfl ?_
  refine F_cV1i (v_hasGroup (d := 11) isTold_4 _) dX4_row_5 rfl rfl (by decide) (by first | assumption | rfl) rfl rfl rfl (by decide) (Nat.le_of_ble_eq_true rfl) (by omega) ?_
  refine F_if_eqB (tgt := 19) dX4_row_8 rfl (fun c8 => ?_) (fun c8 => ?_)
  · have c8 : grB (σ 4 0) (nI g) = false := c8
    rw [hn, grB_nI hg (by omega)] at c8
    cases c8
  · refine F_iload_n dX4_row_11 rfl ?_
    refine F_iload_n dX4_row_12 rfl ?_
    refine F_cS2i (v_bAreDays (d := 10) _ _) dX4_row_13 rfl rfl rfl (by decide) (Nat.le_of_ble_eq_true rfl) (by omega) ?_
    refine F_if_neB (tgt := 21) dX4_row_16 rfl (fun c16 => ?_) (fun c16 => ?_)
    · refine F_aload_n dX4_row_21 rfl ?_
      refine F_getr dX4_row_22 rfl rfl (by first | assumption | rfl) rfl ?_
      refine F_aload_n dX4_row_25 rfl ?_
      refine F_getr dX4_row_26 rfl rfl (by first | assumption | rfl) rfl ?_
      refine F_iload_n dX4_row_29 rfl ?_
      refine F_iconst (v := (-1)) dX4_row_30 rfl ?_
      refine F_iload_n dX4_row_31 rfl ?_
      refine F_cV_riii_v (hv) dX4_row_32 rfl rfl (by decide) (by first | assumption | rfl) rfl rfl rfl (by decide) (Nat.le_of_ble_eq_true rfl) (by omega) ?_
      refine F_iconst (v := nI 0) dX4_row_35 rfl ?_
      refine F_istore dX4_row_36 (Nat.le_of_ble_eq_true rfl) ?_
      refine F_iconst (v := nI 0) dX4_row_38 rfl ?_
      refine F_istore dX4_row_39 (Nat.le_of_ble_eq_true rfl) ?_
      refine F_iload_n dX4_row_41 rfl ?_
      refine F_istore dX4_row_42 (Nat.le_of_ble_eq_true rfl) ?_
      have hl : ∀ m, m ≤ b + 1 - a → mF G mX4_row 12 44 [some (.ref 3), some (.int (nI g)), some (.int (nI a)), some (.int (nI b)), some (.int (nI (rwB (sLoad (pQ (σ 117) g c (-1))) a m))), some (.int (nI (rwL (sLoad (pQ (σ 117) g c (-1))) a m))), some (.int (nI (a + m)))] [] τ Q := by
        refine loopUp (b + 1 - a) (fun m hm ih => ?_)
        have hle := rwL_le (sLoad (pQ (σ 117) g c (-1))) a m
        have hlb := rwB_le (sLoad (pQ (σ 117) g c (-1))) a m
        have hle1 := rwL_le (sLoad (pQ (σ 117) g c (-1))) a (m + 1)
        have eL : rwL (sLoad (pQ (σ 117) g c (-1))) a (m + 1) = if (0 : Int32) < sLoad (pQ (σ 117) g c (-1)) (a + m) then (rwL (sLoad (pQ (σ 117) g c (-1))) a m) + 1 else 0 := rfl
        have eB : rwB (sLoad (pQ (σ 117) g c (-1))) a (m + 1) = if (rwB (sLoad (pQ (σ 117) g c (-1))) a m) < (rwL (sLoad (pQ (σ 117) g c (-1))) a (m + 1)) then (rwL (sLoad (pQ (σ 117) g c (-1))) a (m + 1)) else (rwB (sLoad (pQ (σ 117) g c (-1))) a m) := rfl
        refine F_iload dX4_row_44 rfl ?_
        refine F_iload_n dX4_row_46 rfl ?_
        refine F_icmp_gtN (tgt := 88) dX4_row_47 rfl (by omega) (by omega) (fun c47 => ?_) (fun c47 => ?_)
        · refine F_iload dX4_row_88 rfl ?_
          refine F_iret dX4_row_90 rfl ?_
          have e1 : m = b + 1 - a := by omega
          subst e1
          exact hQ
        · refine F_aload_n dX4_row_50 rfl ?_
          refine F_getr dX4_row_51 rfl rfl (by first | assumption | rfl) rfl ?_
          refine F_getr dX4_row_54 rfl rfl (by first | assumption | rfl) rfl ?_
          refine F_iload dX4_row_57 rfl ?_
          refine F_ialdE (v := sLoad (pQ (σ 117) g c (-1)) (a + m)) dX4_row_59 (by first | assumption | rfl) (by decide) (by omega) (hL.1.2.2.2 (a + m) (by omega)).1 ?_
          refine F_if_le (tgt := 70) dX4_row_60 rfl (fun c60 => ?_) (fun c60 => ?_)
          · refine F_iconst (v := nI 0) dX4_row_70 rfl ?_
            refine F_top (y := nI (rwL (sLoad (pQ (σ 117) g c (-1))) a (m + 1))) (by first | (rw [if_pos (Int32.not_le.mp c60)] at eL; rw [eL]) | (rw [if_neg (Int32.not_lt.mpr c60)] at eL; rw [eL])) ?_
            refine F_istore dX4_row_71 (Nat.le_of_ble_eq_true rfl) ?_
            refine F_iload dX4_row_73 rfl ?_
            refine F_iload dX4_row_75 rfl ?_
            refine F_max dX4_row_77 rfl rfl (Nat.le_of_ble_eq_true rfl) ?_
            refine F_top (y := nI (rwB (sLoad (pQ (σ 117) g c (-1))) a (m + 1))) (by rw [if_lt_nI (by omega) (by omega)]; rfl) ?_
            refine F_istore dX4_row_80 (Nat.le_of_ble_eq_true rfl) ?_
            refine F_iincN dX4_row_82 rfl ?_
            refine F_goto (tgt := 44) dX4_row_85 rfl ?_
            exact ih (by omega)
          · refine F_iload dX4_row_63 rfl ?_
            refine F_iconst (v := nI 1) dX4_row_65 rfl ?_
            refine F_iaddN dX4_row_66 ?_
            refine F_goto (tgt := 71) dX4_row_67 rfl ?_
            refine F_top (y := nI (rwL (sLoad (pQ (σ 117) g c (-1))) a (m + 1))) (by first | (rw [if_pos (Int32.not_le.mp c60)] at eL; rw [eL]) | (rw [if_neg (Int32.not_lt.mpr c60)] at eL; rw [eL])) ?_
            refine F_istore dX4_row_71 (Nat.le_of_ble_eq_true rfl) ?_
            refine F_iload dX4_row_73 rfl ?_
            refine F_iload dX4_row_75 rfl ?_
            refine F_max dX4_row_77 rfl rfl (Nat.le_of_ble_eq_true rfl) ?_
            refine F_top (y := nI (rwB (sLoad (pQ (σ 117) g c (-1))) a (m + 1))) (by rw [if_lt_nI (by omega) (by omega)]; rfl) ?_
            refine F_istore dX4_row_80 (Nat.le_of_ble_eq_true rfl) ?_
            refine F_iincN dX4_row_82 rfl ?_
            refine F_goto (tgt := 44) dX4_row_85 rfl ?_
            exact ih (by omega)
      exact hl 0 (by omega)
    · rw [dB_nI (by omega), dB_nI hb, decide_eq_true (nI_le hab (by omega))] at c16
      cases c16

theorem m_rowB (hq : QR σ n c) {g a b : Nat} (hg : g < n) (hab : a ≤ b) (hb : b < 70) : Ask G mX5_row [.ref 116, .int (nI g), .int (nI a), .int (nI b)] (nI (rwB (sLoad (pQ (σ 117) g c (-1))) a (b + 1 - a))) σ := by
  have hn := hq.1.2.1
  have h23 := hq.1.1.2.2.1
  have hn6 := hq.1.1.1
  have hq1 := (Fr.thrown hq (nI 0)).qr hq
  obtain ⟨τ, hv, hG, h7, hf⟩ := q_goesR (G := G) (d := 5) (to := b) hq1 hg (by omega)
  have hG : Gone τ (pQ (σ 117) g c (-1)) (b + 1) := hG
  refine ⟨τ, mV_of fun Q hQ => ?_, (Fr.thrown hq (nI 0)).trans hf⟩
  refine F_aload_n dX5_row_0 rfl ?_
  refine F_iconst (v := nI 0) dX5_row_1 rfl ?_
  refine F_put dX5_row_2 rfl rfl (by first | assumption | rfl) rfl rfl rfl rfl ?_
  refine F_aload_n dX5_row_5 rfl ?_
  refine F_iload_n dX5_row_6 rfl ?_
  refine F_iload_n dX5_row_7 rfl ?_
  refine F_iload_n dX5_row_8 rfl ?_
  refine F_cV3i (v_areDays (d := 5) _ _ _ (n := n) h23 (by omega)) dX5_row_9 rfl rfl (by decide) (by first | assumption | rfl) rfl rfl rfl (by decide) (Nat.le_of_ble_eq_true rfl) (by omega) ?_
  refine F_if_neB (tgt := 17) dX5_row_12 rfl (fun c12 => ?_) (fun c12 => ?_)
  · refine F_aload_n dX5_row_17 rfl ?_
    refine F_iload_n dX5_row_18 rfl ?_
    refine F_iload_n dX5_row_19 rfl ?_
    refine F_cV2v (hv) dX5_row_20 rfl rfl (by decide) (by first | assumption | rfl) rfl rfl rfl (by decide) (Nat.le_of_ble_eq_true rfl) (by omega) ?_
    refine F_iconst (v := nI 0) dX5_row_23 rfl ?_
    refine F_istore dX5_row_24 (Nat.le_of_ble_eq_true rfl) ?_
    refine F_iconst (v := nI 0) dX5_row_26 rfl ?_
    refine F_istore dX5_row_27 (Nat.le_of_ble_eq_true rfl) ?_
    refine F_iload_n dX5_row_29 rfl ?_
    refine F_istore dX5_row_30 (Nat.le_of_ble_eq_true rfl) ?_
    have hl : ∀ m, m ≤ b + 1 - a → mF G mX5_row 12 32 [some (.ref 116), some (.int (nI g)), some (.int (nI a)), some (.int (nI b)), some (.int (nI (rwB (sLoad (pQ (σ 117) g c (-1))) a m))), some (.int (nI (rwL (sLoad (pQ (σ 117) g c (-1))) a m))), some (.int (nI (a + m)))] [] τ Q := by
      refine loopUp (b + 1 - a) (fun m hm ih => ?_)
      have hle := rwL_le (sLoad (pQ (σ 117) g c (-1))) a m
      have hlb := rwB_le (sLoad (pQ (σ 117) g c (-1))) a m
      have hle1 := rwL_le (sLoad (pQ (σ 117) g c (-1))) a (m + 1)
      have eL : rwL (sLoad (pQ (σ 117) g c (-1))) a (m + 1) = if (0 : Int32) < sLoad (pQ (σ 117) g c (-1)) (a + m) then (rwL (sLoad (pQ (σ 117) g c (-1))) a m) + 1 else 0 := rfl
      have eB : rwB (sLoad (pQ (σ 117) g c (-1))) a (m + 1) = if (rwB (sLoad (pQ (σ 117) g c (-1))) a m) < (rwL (sLoad (pQ (σ 117) g c (-1))) a (m + 1)) then (rwL (sLoad (pQ (σ 117) g c (-1))) a (m + 1)) else (rwB (sLoad (pQ (σ 117) g c (-1))) a m) := rfl
      refine F_iload dX5_row_32 rfl ?_
      refine F_iload_n dX5_row_34 rfl ?_
      refine F_icmp_gtN (tgt := 80) dX5_row_35 rfl (by omega) (by omega) (fun c35 => ?_) (fun c35 => ?_)
      · refine F_iload dX5_row_80 rfl ?_
        refine F_iret dX5_row_82 rfl ?_
        have e1 : m = b + 1 - a := by omega
        subst e1
        exact hQ
      · refine F_aload_n dX5_row_38 rfl ?_
        refine F_getr dX5_row_39 rfl rfl (by first | assumption | rfl) rfl ?_
        refine F_iload dX5_row_42 rfl ?_
        refine F_ialdE (v := sLoad (pQ (σ 117) g c (-1)) (a + m)) dX5_row_44 (by first | assumption | rfl) (by decide) (by omega) (hG.2 (a + m) (by omega)).1 ?_
        refine F_if_le (tgt := 55) dX5_row_45 rfl (fun c45 => ?_) (fun c45 => ?_)
        · refine F_iconst (v := nI 0) dX5_row_55 rfl ?_
          refine F_top (y := nI (rwL (sLoad (pQ (σ 117) g c (-1))) a (m + 1))) (by first | (rw [if_pos (Int32.not_le.mp c45)] at eL; rw [eL]) | (rw [if_neg (Int32.not_lt.mpr c45)] at eL; rw [eL])) ?_
          refine F_istore dX5_row_56 (Nat.le_of_ble_eq_true rfl) ?_
          refine F_iload dX5_row_58 rfl ?_
          refine F_iload dX5_row_60 rfl ?_
          refine F_icmp_leN (tgt := 70) dX5_row_62 rfl (by omega) (by omega) (fun c62 => ?_) (fun c62 => ?_)
          · refine F_iload dX5_row_70 rfl ?_
            refine F_top (y := nI (rwB (sLoad (pQ (σ 117) g c (-1))) a (m + 1))) (by first | (rw [if_pos (by omega)] at eB; rw [eB]) | (rw [if_neg (by omega)] at eB; rw [eB])) ?_
            refine F_istore dX5_row_72 (Nat.le_of_ble_eq_true rfl) ?_
            refine F_iincN dX5_row_74 rfl ?_
            refine F_goto (tgt := 32) dX5_row_77 rfl ?_
            exact ih (by omega)
          · refine F_iload dX5_row_65 rfl ?_
            refine F_goto (tgt := 72) dX5_row_67 rfl ?_
            refine F_top (y := nI (rwB (sLoad (pQ (σ 117) g c (-1))) a (m + 1))) (by first | (rw [if_pos (by omega)] at eB; rw [eB]) | (rw [if_neg (by omega)] at eB; rw [eB])) ?_
            refine F_istore dX5_row_72 (Nat.le_of_ble_eq_true rfl) ?_
            refine F_iincN dX5_row_74 rfl ?_
            refine F_goto (tgt := 32) dX5_row_77 rfl ?_
            exact ih (by omega)
        · refine F_iload dX5_row_48 rfl ?_
          refine F_iconst (v := nI 1) dX5_row_50 rfl ?_
          refine F_iaddN dX5_row_51 ?_
          refine F_goto (tgt := 56) dX5_row_52 rfl ?_
          refine F_top (y := nI (rwL (sLoad (pQ (σ 117) g c (-1))) a (m + 1))) (by first | (rw [if_pos (Int32.not_le.mp c45)] at eL; rw [eL]) | (rw [if_neg (Int32.not_lt.mpr c45)] at eL; rw [eL])) ?_
          refine F_istore dX5_row_56 (Nat.le_of_ble_eq_true rfl) ?_
          refine F_iload dX5_row_58 rfl ?_
          refine F_iload dX5_row_60 rfl ?_
          refine F_icmp_leN (tgt := 70) dX5_row_62 rfl (by omega) (by omega) (fun c62 => ?_) (fun c62 => ?_)
          · refine F_iload dX5_row_70 rfl ?_
            refine F_top (y := nI (rwB (sLoad (pQ (σ 117) g c (-1))) a (m + 1))) (by first | (rw [if_pos (by omega)] at eB; rw [eB]) | (rw [if_neg (by omega)] at eB; rw [eB])) ?_
            refine F_istore dX5_row_72 (Nat.le_of_ble_eq_true rfl) ?_
            refine F_iincN dX5_row_74 rfl ?_
            refine F_goto (tgt := 32) dX5_row_77 rfl ?_
            exact ih (by omega)
          · refine F_iload dX5_row_65 rfl ?_
            refine F_goto (tgt := 72) dX5_row_67 rfl ?_
            refine F_top (y := nI (rwB (sLoad (pQ (σ 117) g c (-1))) a (m + 1))) (by first | (rw [if_pos (by omega)] at eB; rw [eB]) | (rw [if_neg (by omega)] at eB; rw [eB])) ?_
            refine F_istore dX5_row_72 (Nat.le_of_ble_eq_true rfl) ?_
            refine F_iincN dX5_row_74 rfl ?_
            refine F_goto (tgt := 32) dX5_row_77 rfl ?_
            exact ih (by omega)
    exact hl 0 (by omega)
  · rw [show (up σ 116 0 (nI 0)) 117 23 = nI n from h23, grB_nI hg (by omega), dB_nI (by omega), dB_nI hb, decide_eq_true (nI_le hab (by omega))] at c12
    cases c12

theorem b_rowA (hq : QR σ n c) {g a b : Int32} (h : (grB (nI n) g && (dB a && dB b && decide (a ≤ b))) = false) : Ask G mX4_row [.ref 3, .int g, .int a, .int b] (-1) σ := by
  have hn := hq.1.2.1
  have h23 := hq.1.1.2.2.1
  have hn6 := hq.1.1.1
  refine ⟨σ, mV_of fun Q hQ => ?_, Fr.rfl hq⟩
  refine F_aload_n dX4_row_0 rfl ?_
  refine F_getr dX4_row_1 rfl rfl (by first | assumption | rfl) rfl ?_
  refine F_iload_n dX4_row_4 rfl ?_
  refine F_cV1i (v_hasGroup (d := 11) isTold_4 _) dX4_row_5 rfl rfl (by decide) (by first | assumption | rfl) rfl rfl rfl (by decide) (Nat.le_of_ble_eq_true rfl) (by omega) ?_
  refine F_if_eqB (tgt := 19) dX4_row_8 rfl (fun c8 => ?_) (fun c8 => ?_)
  · refine F_iconst (v := (-1)) dX4_row_19 rfl ?_
    refine F_iret dX4_row_20 rfl ?_
    exact hQ
  · refine F_iload_n dX4_row_11 rfl ?_
    refine F_iload_n dX4_row_12 rfl ?_
    refine F_cS2i (v_bAreDays (d := 10) _ _) dX4_row_13 rfl rfl rfl (by decide) (Nat.le_of_ble_eq_true rfl) (by omega) ?_
    refine F_if_neB (tgt := 21) dX4_row_16 rfl (fun c16 => ?_) (fun c16 => ?_)
    · exfalso
      have c8 : grB (σ 4 0) g = true := c8
      rw [hn] at c8
      rw [c8, c16] at h
      cases h
    · refine F_iconst (v := (-1)) dX4_row_19 rfl ?_
      refine F_iret dX4_row_20 rfl ?_
      exact hQ

theorem m_rowA (hq : QR σ n c) {g a b : Int32} (h : (grB (nI n) g && (dB a && dB b && decide (a ≤ b))) = false) : Ask G mX5_row [.ref 116, .int g, .int a, .int b] (-1) σ := by
  have hn := hq.1.2.1
  have h23 := hq.1.1.2.2.1
  have hn6 := hq.1.1.1
  have hq1 := (Fr.thrown hq (nI 0)).qr hq
  refine ⟨(up σ 116 0 (nI 0)), mV_of fun Q hQ => ?_, Fr.thrown hq _⟩
  refine F_aload_n dX5_row_0 rfl ?_
  refine F_iconst (v := nI 0) dX5_row_1 rfl ?_
  refine F_put dX5_row_2 rfl rfl (by first | assumption | rfl) rfl rfl rfl rfl ?_
  refine F_aload_n dX5_row_5 rfl ?_
  refine F_iload_n dX5_row_6 rfl ?_
  refine F_iload_n dX5_row_7 rfl ?_
  refine F_iload_n dX5_row_8 rfl ?_
  refine F_cV3i (v_areDays (d := 5) _ _ _ (n := n) h23 (by omega)) dX5_row_9 rfl rfl (by decide) (by first | assumption | rfl) rfl rfl rfl (by decide) (Nat.le_of_ble_eq_true rfl) (by omega) ?_
  refine F_if_neB (tgt := 17) dX5_row_12 rfl (fun c12 => ?_) (fun c12 => ?_)
  · rw [show (up σ 116 0 (nI 0)) 117 23 = nI n from h23, Bool.and_assoc, Bool.and_assoc, ← Bool.and_assoc (dB a), h] at c12
    cases c12
  · refine F_iconst (v := (-1)) dX5_row_15 rfl ?_
    refine F_iret dX5_row_16 rfl ?_
    exact hQ

theorem op_row (h : Rel σ) (g a b : Int32) : Same G mX4_row mX5_row [.int g, .int a, .int b] σ := by
  refine Same.of h fun n c hq => ?_
  by_cases hA : (grB (nI n) g && (dB a && dB b && decide (a ≤ b))) = true
  · have hx := Bool.and_eq_true_iff.mp hA
    have hn6 := hq.1.1.1
    obtain ⟨i, hi, e1⟩ := grB_n (x := nI n) rfl (by omega) hx.1
    obtain ⟨x, y, hxy, hy, e2, e3⟩ := days_n hx.2
    subst e1; subst e2; subst e3
    exact ⟨_, b_rowB hq hi hxy hy, fun σ2 h7 hq2 => by rw [← h7]; exact m_rowB hq2 hi hxy hy⟩
  · have hA := Bool.not_eq_true _ ▸ hA
    exact ⟨_, b_rowA hq hA, fun σ2 h7 hq2 => m_rowA hq2 hA⟩
end QB
