/-! ===== the reference: plan, count, camped, the tape ===== -/
section MP
variable {G : mG} {d : Nat} {σ : mS}
theorem m_planA (g a b kind : Int32) {n : Nat} (hn : σ 117 23 = nI n) (h6 : n < 2 ^ 31) (h : (grB (σ 117 23) g && dB a && dB b && decide (a ≤ b) && inR kind (nI 0) (nI 5)) = false) : mV G mX5_plan (d + 4) [.ref 116, .int g, .int a, .int b, .int kind] σ (some (.int (-1))) (up σ 116 0 (nI 0)) := by
  refine mV_of fun Q hQ => ?_
  refine F_aload_n dX5_plan_0 rfl ?_
  refine F_iconst (v := nI 0) dX5_plan_1 rfl ?_
  refine F_put dX5_plan_2 rfl rfl (by first | assumption | rfl) rfl rfl rfl rfl ?_
  refine F_aload_n dX5_plan_5 rfl ?_
  refine F_iload_n dX5_plan_6 rfl ?_
  refine F_iload_n dX5_plan_7 rfl ?_
  refine F_iload_n dX5_plan_8 rfl ?_
  refine F_cV3i (v_areDays (d := d) _ _ _ hn h6) dX5_plan_9 rfl rfl (by decide) (by first | assumption | rfl) rfl rfl rfl (by decide) (Nat.le_of_ble_eq_true rfl) (by omega) ?_
  refine F_if_eqB (tgt := 25) dX5_plan_12 rfl (fun c12 => ?_) (fun c12 => ?_)
  · refine F_iconst (v := (-1)) dX5_plan_25 rfl ?_
    refine F_iret dX5_plan_26 rfl ?_
    exact hQ
  · refine F_iload dX5_plan_15 rfl ?_
    refine F_iconst (v := nI 0) dX5_plan_17 rfl ?_
    refine F_iconst (v := nI 5) dX5_plan_18 rfl ?_
    refine F_cS3i (v_isIn (d := d) _ _ _) dX5_plan_19 rfl rfl rfl (by decide) (Nat.le_of_ble_eq_true rfl) (by omega) ?_
    refine F_if_neB (tgt := 27) dX5_plan_22 rfl (fun c22 => ?_) (fun c22 => ?_)
    · have c12 : (grB (σ 117 23) g && dB a && dB b && decide (a ≤ b)) = true := c12
      rw [c12, c22] at h
      cases h
    · refine F_iconst (v := (-1)) dX5_plan_25 rfl ?_
      refine F_iret dX5_plan_26 rfl ?_
      exact hQ

theorem l_plan1 {g a b : Nat} {kind : Int32} (hg : g < 6) (hab : a ≤ b) (hb : b < 70) {Q : Option Value → mS → Prop} (hk : mF G mX5_plan (d + 1) 67 [some (.ref 116), some (.int (nI g)), some (.int (nI a)), some (.int (nI b)), some (.int kind), some (.int (nI (cntB (fun i => decide (¬ σ 117 (40 + 70 * g + (a + i)) = kind)) (b + 1 - a)))), some (.int (nI (b + 1)))] [] σ Q) :
    ∀ e, e ≤ b + 1 - a → mF G mX5_plan (d + 1) 33 [some (.ref 116), some (.int (nI g)), some (.int (nI a)), some (.int (nI b)), some (.int kind), some (.int (nI (cntB (fun i => decide (¬ σ 117 (40 + 70 * g + (a + i)) = kind)) e))), some (.int (nI (a + e)))] [] σ Q := by
  refine loopUp (b + 1 - a) (fun e he ih => ?_)
  have hle := cntB_le (fun i => decide (¬ σ 117 (40 + 70 * g + (a + i)) = kind)) e
  refine F_iload dX5_plan_33 rfl ?_
  refine F_iload_n dX5_plan_35 rfl ?_
  refine F_icmp_gtN (tgt := 67) dX5_plan_36 rfl (by omega) (by omega) (fun c36 => ?_) (fun c36 => ?_)
  · have e1 : e = b + 1 - a := by omega
    subst e1
    have e2 : a + (b + 1 - a) = b + 1 := by omega
    rw [e2]
    exact hk
  · refine F_iload dX5_plan_39 rfl ?_
    refine F_aload_n dX5_plan_41 rfl ?_
    refine F_iload_n dX5_plan_42 rfl ?_
    refine F_iload dX5_plan_43 rfl ?_
    refine F_cV2i (v_kindOf (d := d) hg (by omega)) dX5_plan_45 rfl rfl (by decide) (by first | assumption | rfl) rfl rfl rfl (by decide) (Nat.le_of_ble_eq_true rfl) (by omega) ?_
    refine F_iload dX5_plan_48 rfl ?_
    refine F_icmp_eq (tgt := 57) dX5_plan_50 rfl (fun c50 => ?_) (fun c50 => ?_)
    · refine F_iconst (v := nI 0) dX5_plan_57 rfl ?_
      refine F_iaddN dX5_plan_58 ?_
      refine F_istore dX5_plan_59 (Nat.le_of_ble_eq_true rfl) ?_
      refine F_iincN dX5_plan_61 rfl ?_
      refine F_goto (tgt := 33) dX5_plan_64 rfl ?_
      have ih := ih (by omega)
      simp only [cntB] at ih
      first
        | (rw [if_pos (by rw [decide_eq_true_eq]; exact c50)] at ih; exact ih)
        | (rw [if_neg (by rw [decide_eq_true_eq]; exact fun z => z c50)] at ih; exact ih)
    · refine F_iconst (v := nI 1) dX5_plan_53 rfl ?_
      refine F_goto (tgt := 58) dX5_plan_54 rfl ?_
      refine F_iaddN dX5_plan_58 ?_
      refine F_istore dX5_plan_59 (Nat.le_of_ble_eq_true rfl) ?_
      refine F_iincN dX5_plan_61 rfl ?_
      refine F_goto (tgt := 33) dX5_plan_64 rfl ?_
      have ih := ih (by omega)
      simp only [cntB] at ih
      first
        | (rw [if_pos (by rw [decide_eq_true_eq]; exact c50)] at ih; exact ih)
        | (rw [if_neg (by rw [decide_eq_true_eq]; exact fun z => z c50)] at ih; exact ih)

theorem l_plan2 {g a b : Nat} {kind many : Int32} (hg : g < 6) (hab : a ≤ b) (hb : b < 70) {Q : Option Value → mS → Prop} (hk : mF G mX5_plan d 112 [some (.ref 116), some (.int (nI g)), some (.int (nI a)), some (.int (nI b)), some (.int kind), some (.int many), some (.int (nI (b + 1)))] [] (upR σ 117 (fillR (σ 117) (40 + 70 * g + a) (40 + 70 * g + a + (b + 1 - a)) kind)) Q) :
    ∀ e, e ≤ b + 1 - a → mF G mX5_plan d 83 [some (.ref 116), some (.int (nI g)), some (.int (nI a)), some (.int (nI b)), some (.int kind), some (.int many), some (.int (nI (a + e)))] [] (upR σ 117 (fillR (σ 117) (40 + 70 * g + a) (40 + 70 * g + a + e) kind)) Q := by
  refine loopUp (b + 1 - a) (fun e he ih => ?_)
  refine F_iload dX5_plan_83 rfl ?_
  refine F_iload_n dX5_plan_85 rfl ?_
  refine F_icmp_gtN (tgt := 112) dX5_plan_86 rfl (by omega) (by omega) (fun c86 => ?_) (fun c86 => ?_)
  · have e1 : e = b + 1 - a := by omega
    subst e1
    have e2 : a + (b + 1 - a) = b + 1 := by omega
    rw [e2]
    exact hk
  · refine F_aload_n dX5_plan_89 rfl ?_
    refine F_getr dX5_plan_90 rfl rfl (by first | assumption | rfl) rfl ?_
    refine F_bipush (v := nI 40) dX5_plan_93 rfl ?_
    refine F_bipush (v := nI 70) dX5_plan_95 rfl ?_
    refine F_iload_n dX5_plan_97 rfl ?_
    refine F_imulN dX5_plan_98 ?_
    refine F_iaddN dX5_plan_99 ?_
    refine F_iload dX5_plan_100 rfl ?_
    refine F_iaddN dX5_plan_102 ?_
    refine F_iload dX5_plan_103 rfl ?_
    refine F_iast dX5_plan_105 (by first | assumption | rfl) (by decide) (by omega) ?_
    refine F_iincN dX5_plan_106 rfl ?_
    refine F_goto (tgt := 83) dX5_plan_109 rfl ?_
    have e3 : 40 + 70 * g + (a + e) = 40 + 70 * g + a + e := by omega
    rw [e3]
    refine F_sg (up_fill _ _ _ _ (by omega)) ?_
    exact ih (by omega)

theorem m_planB {g a b n : Nat} {kind : Int32} (hn : σ 117 23 = nI n) (h6 : n ≤ 6) (hg : g < n) (hab : a ≤ b) (hb : b < 70) (h : inR kind (nI 0) (nI 5) = true) (h0 : cntB (fun i => decide (¬ σ 117 (40 + 70 * g + (a + i)) = kind)) (b + 1 - a) = 0) : mV G mX5_plan (d + 4) [.ref 116, .int (nI g), .int (nI a), .int (nI b), .int kind] σ (some (.int (nI 0))) (upR (up σ 116 0 (nI 0)) 117 (fillR (σ 117) (40 + 70 * g + a) (40 + 70 * g + a + (b + 1 - a)) kind)) := by
  refine mV_of fun Q hQ => ?_
  refine F_aload_n dX5_plan_0 rfl ?_
  refine F_iconst (v := nI 0) dX5_plan_1 rfl ?_
  refine F_put dX5_plan_2 rfl rfl (by first | assumption | rfl) rfl rfl rfl rfl ?_
  refine F_aload_n dX5_plan_5 rfl ?_
  refine F_iload_n dX5_plan_6 rfl ?_
  refine F_iload_n dX5_plan_7 rfl ?_
  refine F_iload_n dX5_plan_8 rfl ?_
  refine F_cV3i (v_areDays (d := d) _ _ _ hn (by omega)) dX5_plan_9 rfl rfl (by decide) (by first | assumption | rfl) rfl rfl rfl (by decide) (Nat.le_of_ble_eq_true rfl) (by omega) ?_
  refine F_if_eqB (tgt := 25) dX5_plan_12 rfl (fun c12 => ?_) (fun c12 => ?_)
  · rw [show up σ 116 0 (nI 0) 117 23 = nI n from hn, grB_nI hg (by omega), dB_nI (by omega), dB_nI hb, decide_eq_true (nI_le hab (by omega))] at c12
    cases c12
  · refine F_iload dX5_plan_15 rfl ?_
    refine F_iconst (v := nI 0) dX5_plan_17 rfl ?_
    refine F_iconst (v := nI 5) dX5_plan_18 rfl ?_
    refine F_cS3i (v_isIn (d := d) _ _ _) dX5_plan_19 rfl rfl rfl (by decide) (Nat.le_of_ble_eq_true rfl) (by omega) ?_
    refine F_if_neB (tgt := 27) dX5_plan_22 rfl (fun c22 => ?_) (fun c22 => ?_)
    · refine F_iconst (v := nI 0) dX5_plan_27 rfl ?_
      refine F_istore dX5_plan_28 (Nat.le_of_ble_eq_true rfl) ?_
      refine F_iload_n dX5_plan_30 rfl ?_
      refine F_istore dX5_plan_31 (Nat.le_of_ble_eq_true rfl) ?_
      have hg : g < 6 := by omega
      refine l_plan1 (σ := up σ 116 0 (nI 0)) hg hab hb ?_ 0 (by omega)
      have h0 : cntB (fun i => decide (¬ up σ 116 0 (nI 0) 117 (40 + 70 * g + (a + i)) = kind)) (b + 1 - a) = 0 := h0
      rw [h0]
      refine F_iload dX5_plan_67 rfl ?_
      refine F_if_leN (tgt := 80) dX5_plan_69 rfl (by omega) (fun c69 => ?_) (fun c69 => ?_)
      · refine F_iload_n dX5_plan_80 rfl ?_
        refine F_istore dX5_plan_81 (Nat.le_of_ble_eq_true rfl) ?_
        refine F_sg (fill0 _ 117 (40 + 70 * g + a) kind).symm ?_
        refine l_plan2 hg hab hb ?_ 0 (by omega)
        refine F_iload dX5_plan_112 rfl ?_
        refine F_iret dX5_plan_114 rfl ?_
        exact hQ
      · exact absurd c69 (by omega)
    · rw [h] at c22
      cases c22

theorem m_planC {g a b n k : Nat} {kind : Int32} (hn : σ 117 23 = nI n) (h6 : n ≤ 6) (hg : g < n) (hab : a ≤ b) (hb : b < 70) (h : inR kind (nI 0) (nI 5) = true) (h0 : 0 < cntB (fun i => decide (¬ σ 117 (40 + 70 * g + (a + i)) = kind)) (b + 1 - a)) (hk : σ 116 4 = nI k) (hk8 : k ≤ 8) : mV G mX5_plan (d + 4) [.ref 116, .int (nI g), .int (nI a), .int (nI b), .int kind] σ (some (.int (nI (cntB (fun i => decide (¬ σ 117 (40 + 70 * g + (a + i)) = kind)) (b + 1 - a))))) (upR (up (upR (up σ 116 0 (nI 0)) 118 (keptF k (σ 118) (σ 117))) 116 4 (nI (min k 7 + 1))) 117 (fillR (σ 117) (40 + 70 * g + a) (40 + 70 * g + a + (b + 1 - a)) kind)) := by
  refine mV_of fun Q hQ => ?_
  refine F_aload_n dX5_plan_0 rfl ?_
  refine F_iconst (v := nI 0) dX5_plan_1 rfl ?_
  refine F_put dX5_plan_2 rfl rfl (by first | assumption | rfl) rfl rfl rfl rfl ?_
  refine F_aload_n dX5_plan_5 rfl ?_
  refine F_iload_n dX5_plan_6 rfl ?_
  refine F_iload_n dX5_plan_7 rfl ?_
  refine F_iload_n dX5_plan_8 rfl ?_
  refine F_cV3i (v_areDays (d := d) _ _ _ hn (by omega)) dX5_plan_9 rfl rfl (by decide) (by first | assumption | rfl) rfl rfl rfl (by decide) (Nat.le_of_ble_eq_true rfl) (by omega) ?_
  refine F_if_eqB (tgt := 25) dX5_plan_12 rfl (fun c12 => ?_) (fun c12 => ?_)
  · rw [show up σ 116 0 (nI 0) 117 23 = nI n from hn, grB_nI hg (by omega), dB_nI (by omega), dB_nI hb, decide_eq_true (nI_le hab (by omega))] at c12
    cases c12
  · refine F_iload dX5_plan_15 rfl ?_
    refine F_iconst (v := nI 0) dX5_plan_17 rfl ?_
    refine F_iconst (v := nI 5) dX5_plan_18 rfl ?_
    refine F_cS3i (v_isIn (d := d) _ _ _) dX5_plan_19 rfl rfl rfl (by decide) (Nat.le_of_ble_eq_true rfl) (by omega) ?_
    refine F_if_neB (tgt := 27) dX5_plan_22 rfl (fun c22 => ?_) (fun c22 => ?_)
    · refine F_iconst (v := nI 0) dX5_plan_27 rfl ?_
      refine F_istore dX5_plan_28 (Nat.le_of_ble_eq_true rfl) ?_
      refine F_iload_n dX5_plan_30 rfl ?_
      refine F_istore dX5_plan_31 (Nat.le_of_ble_eq_true rfl) ?_
      have hg : g < 6 := by omega
      refine l_plan1 (σ := up σ 116 0 (nI 0)) hg hab hb ?_ 0 (by omega)
      have hle := cntB_le (fun i => decide (¬ σ 117 (40 + 70 * g + (a + i)) = kind)) (b + 1 - a)
      refine F_lo (lo2 := [some (.ref 116), some (.int (nI g)), some (.int (nI a)), some (.int (nI b)), some (.int kind), some (.int (nI (cntB (fun i => decide (¬ σ 117 (40 + 70 * g + (a + i)) = kind)) (b + 1 - a)))), some (.int (nI (b + 1)))]) rfl ?_
      refine F_iload dX5_plan_67 rfl ?_
      refine F_if_leN (tgt := 80) dX5_plan_69 rfl (by omega) (fun c69 => ?_) (fun c69 => ?_)
      · exact absurd c69 (by omega)
      · refine F_aload_n dX5_plan_72 rfl ?_
        refine F_aload_n dX5_plan_73 rfl ?_
        refine F_getr dX5_plan_74 rfl rfl (by first | assumption | rfl) rfl ?_
        refine F_cV_r_v (v_keeps (d := d) (r := 117) rfl (by decide) (by decide) hk hk8) dX5_plan_77 rfl rfl (by decide) (by first | assumption | rfl) rfl rfl rfl (by decide) (Nat.le_of_ble_eq_true rfl) (by omega) ?_
        refine F_iload_n dX5_plan_80 rfl ?_
        refine F_istore dX5_plan_81 (Nat.le_of_ble_eq_true rfl) ?_
        refine F_sg (fill0 _ 117 (40 + 70 * g + a) kind).symm ?_
        refine l_plan2 hg hab hb ?_ 0 (by omega)
        refine F_iload dX5_plan_112 rfl ?_
        refine F_iret dX5_plan_114 rfl ?_
        exact hQ
    · rw [h] at c22
      cases c22

theorem m_count10 {k : Nat} (hk : k < 6) : mV G mX5_count (d + 1) [.ref 116, .int (nI (10 + k))] σ (some (.int (σ 117 k))) (up σ 116 0 (nI 0)) := by
  refine mV_of fun Q hQ => ?_
  refine F_aload_n dX5_count_0 rfl ?_
  refine F_iconst (v := nI 0) dX5_count_1 rfl ?_
  refine F_put dX5_count_2 rfl rfl (by first | assumption | rfl) rfl rfl rfl rfl ?_
  refine F_iload_n dX5_count_5 rfl ?_
  refine F_bipush (v := nI 10) dX5_count_6 rfl ?_
  refine F_bipush (v := nI 15) dX5_count_8 rfl ?_
  refine F_cS3i (v_isIn (d := d) _ _ _) dX5_count_10 rfl rfl rfl (by decide) (Nat.le_of_ble_eq_true rfl) (by omega) ?_
  refine F_if_eqB (tgt := 28) dX5_count_13 rfl (fun c13 => ?_) (fun c13 => ?_)
  · rw [(show inR (nI (10 + k)) (nI 10) (nI 15) = true by rw [inR_nI (by decide) (by decide) (by omega)]; simp; omega)] at c13
    cases c13
  · refine F_aload_n dX5_count_16 rfl ?_
    refine F_getr dX5_count_17 rfl rfl (by first | assumption | rfl) rfl ?_
    refine F_iconst (v := nI 0) dX5_count_20 rfl ?_
    refine F_iload_n dX5_count_21 rfl ?_
    refine F_iaddN dX5_count_22 ?_
    refine F_bipush (v := nI 10) dX5_count_23 rfl ?_
    refine F_isubN dX5_count_25 (by omega) ?_
    refine F_ialdE (v := σ 117 k) dX5_count_26 (by first | assumption | rfl) (by decide) (by omega) (by show σ 117 _ = _; congr 1; omega) ?_
    refine F_iret dX5_count_27 rfl ?_
    exact hQ

theorem m_count20 {k : Nat} (hk : k < 8) : mV G mX5_count (d + 1) [.ref 116, .int (nI (20 + k))] σ (some (.int (σ 117 (6 + k)))) (up σ 116 0 (nI 0)) := by
  refine mV_of fun Q hQ => ?_
  refine F_aload_n dX5_count_0 rfl ?_
  refine F_iconst (v := nI 0) dX5_count_1 rfl ?_
  refine F_put dX5_count_2 rfl rfl (by first | assumption | rfl) rfl rfl rfl rfl ?_
  refine F_iload_n dX5_count_5 rfl ?_
  refine F_bipush (v := nI 10) dX5_count_6 rfl ?_
  refine F_bipush (v := nI 15) dX5_count_8 rfl ?_
  refine F_cS3i (v_isIn (d := d) _ _ _) dX5_count_10 rfl rfl rfl (by decide) (Nat.le_of_ble_eq_true rfl) (by omega) ?_
  refine F_if_eqB (tgt := 28) dX5_count_13 rfl (fun c13 => ?_) (fun c13 => ?_)
  · refine F_iload_n dX5_count_28 rfl ?_
    refine F_bipush (v := nI 20) dX5_count_29 rfl ?_
    refine F_bipush (v := nI 27) dX5_count_31 rfl ?_
    refine F_cS3i (v_isIn (d := d) _ _ _) dX5_count_33 rfl rfl rfl (by decide) (Nat.le_of_ble_eq_true rfl) (by omega) ?_
    refine F_if_eqB (tgt := 48) dX5_count_36 rfl (fun c36 => ?_) (fun c36 => ?_)
    · rw [(show inR (nI (20 + k)) (nI 20) (nI 27) = true by rw [inR_nI (by decide) (by decide) (by omega)]; simp; omega)] at c36
      cases c36
    · refine F_aload_n dX5_count_39 rfl ?_
      refine F_iload_n dX5_count_40 rfl ?_
      refine F_bipush (v := nI 20) dX5_count_41 rfl ?_
      refine F_isubN dX5_count_43 (by omega) ?_
      refine F_top (y := nI k) (by congr 1; omega) ?_
      refine F_cV1i (v_of (d := d) hk) dX5_count_44 rfl rfl (by decide) (by first | assumption | rfl) rfl rfl rfl (by decide) (Nat.le_of_ble_eq_true rfl) (by omega) ?_
      refine F_iret dX5_count_47 rfl ?_
      exact hQ
  · rw [(show inR (nI (20 + k)) (nI 10) (nI 15) = false by rw [inR_nI (by decide) (by decide) (by omega)]; simp; omega)] at c13
    cases c13

theorem m_count0 : mV G mX5_count (d + 1) [.ref 116, .int (nI 0)] σ (some (.int (σ 117 23))) (up σ 116 0 (nI 0)) := by
  refine mV_of fun Q hQ => ?_
  refine F_aload_n dX5_count_0 rfl ?_
  refine F_iconst (v := nI 0) dX5_count_1 rfl ?_
  refine F_put dX5_count_2 rfl rfl (by first | assumption | rfl) rfl rfl rfl rfl ?_
  refine F_iload_n dX5_count_5 rfl ?_
  refine F_bipush (v := nI 10) dX5_count_6 rfl ?_
  refine F_bipush (v := nI 15) dX5_count_8 rfl ?_
  refine F_cS3i (v_isIn (d := d) _ _ _) dX5_count_10 rfl rfl rfl (by decide) (Nat.le_of_ble_eq_true rfl) (by omega) ?_
  refine F_if_eqB (tgt := 28) dX5_count_13 rfl (fun c13 => ?_) (fun c13 => ?_)
  · refine F_iload_n dX5_count_28 rfl ?_
    refine F_bipush (v := nI 20) dX5_count_29 rfl ?_
    refine F_bipush (v := nI 27) dX5_count_31 rfl ?_
    refine F_cS3i (v_isIn (d := d) _ _ _) dX5_count_33 rfl rfl rfl (by decide) (Nat.le_of_ble_eq_true rfl) (by omega) ?_
    refine F_if_eqB (tgt := 48) dX5_count_36 rfl (fun c36 => ?_) (fun c36 => ?_)
    · refine F_iload_n dX5_count_48 rfl ?_
      refine F_if_neN (tgt := 59) dX5_count_49 rfl (by omega) (fun c49 => ?_) (fun c49 => ?_)
      · exact absurd rfl c49
      · refine F_aload_n dX5_count_52 rfl ?_
        refine F_cV0i (v_groups (d := d)) dX5_count_53 rfl rfl (by decide) (by first | assumption | rfl) rfl rfl rfl (by decide) (Nat.le_of_ble_eq_true rfl) (by omega) ?_
        refine F_goto (tgt := 96) dX5_count_56 rfl ?_
        refine F_iret dX5_count_96 rfl ?_
        exact hQ
    · rw [(show inR (nI 0) (nI 20) (nI 27) = false by decide +kernel)] at c36
      cases c36
  · rw [(show inR (nI 0) (nI 10) (nI 15) = false by decide +kernel)] at c13
    cases c13

theorem m_count1 : mV G mX5_count (d + 1) [.ref 116, .int (nI 1)] σ (some (.int (σ 117 14))) (up σ 116 0 (nI 0)) := by
  refine mV_of fun Q hQ => ?_
  refine F_aload_n dX5_count_0 rfl ?_
  refine F_iconst (v := nI 0) dX5_count_1 rfl ?_
  refine F_put dX5_count_2 rfl rfl (by first | assumption | rfl) rfl rfl rfl rfl ?_
  refine F_iload_n dX5_count_5 rfl ?_
  refine F_bipush (v := nI 10) dX5_count_6 rfl ?_
  refine F_bipush (v := nI 15) dX5_count_8 rfl ?_
  refine F_cS3i (v_isIn (d := d) _ _ _) dX5_count_10 rfl rfl rfl (by decide) (Nat.le_of_ble_eq_true rfl) (by omega) ?_
  refine F_if_eqB (tgt := 28) dX5_count_13 rfl (fun c13 => ?_) (fun c13 => ?_)
  · refine F_iload_n dX5_count_28 rfl ?_
    refine F_bipush (v := nI 20) dX5_count_29 rfl ?_
    refine F_bipush (v := nI 27) dX5_count_31 rfl ?_
    refine F_cS3i (v_isIn (d := d) _ _ _) dX5_count_33 rfl rfl rfl (by decide) (Nat.le_of_ble_eq_true rfl) (by omega) ?_
    refine F_if_eqB (tgt := 48) dX5_count_36 rfl (fun c36 => ?_) (fun c36 => ?_)
    · refine F_iload_n dX5_count_48 rfl ?_
      refine F_if_neN (tgt := 59) dX5_count_49 rfl (by omega) (fun c49 => ?_) (fun c49 => ?_)
      · refine F_iload_n dX5_count_59 rfl ?_
        refine F_iconst (v := nI 1) dX5_count_60 rfl ?_
        refine F_icmp_neN (tgt := 71) dX5_count_61 rfl (by omega) (by omega) (fun c61 => ?_) (fun c61 => ?_)
        · exact absurd rfl c61
        · refine F_aload_n dX5_count_64 rfl ?_
          refine F_cV0i (v_camps (d := d)) dX5_count_65 rfl rfl (by decide) (by first | assumption | rfl) rfl rfl rfl (by decide) (Nat.le_of_ble_eq_true rfl) (by omega) ?_
          refine F_goto (tgt := 96) dX5_count_68 rfl ?_
          refine F_iret dX5_count_96 rfl ?_
          exact hQ
      · exact absurd c49 (by decide)
    · rw [(show inR (nI 1) (nI 20) (nI 27) = false by decide +kernel)] at c36
      cases c36
  · rw [(show inR (nI 1) (nI 10) (nI 15) = false by decide +kernel)] at c13
    cases c13

theorem m_count2 : mV G mX5_count (d + 1) [.ref 116, .int (nI 2)] σ (some (.int (σ 116 6))) (up σ 116 0 (nI 0)) := by
  refine mV_of fun Q hQ => ?_
  refine F_aload_n dX5_count_0 rfl ?_
  refine F_iconst (v := nI 0) dX5_count_1 rfl ?_
  refine F_put dX5_count_2 rfl rfl (by first | assumption | rfl) rfl rfl rfl rfl ?_
  refine F_iload_n dX5_count_5 rfl ?_
  refine F_bipush (v := nI 10) dX5_count_6 rfl ?_
  refine F_bipush (v := nI 15) dX5_count_8 rfl ?_
  refine F_cS3i (v_isIn (d := d) _ _ _) dX5_count_10 rfl rfl rfl (by decide) (Nat.le_of_ble_eq_true rfl) (by omega) ?_
  refine F_if_eqB (tgt := 28) dX5_count_13 rfl (fun c13 => ?_) (fun c13 => ?_)
  · refine F_iload_n dX5_count_28 rfl ?_
    refine F_bipush (v := nI 20) dX5_count_29 rfl ?_
    refine F_bipush (v := nI 27) dX5_count_31 rfl ?_
    refine F_cS3i (v_isIn (d := d) _ _ _) dX5_count_33 rfl rfl rfl (by decide) (Nat.le_of_ble_eq_true rfl) (by omega) ?_
    refine F_if_eqB (tgt := 48) dX5_count_36 rfl (fun c36 => ?_) (fun c36 => ?_)
    · refine F_iload_n dX5_count_48 rfl ?_
      refine F_if_neN (tgt := 59) dX5_count_49 rfl (by omega) (fun c49 => ?_) (fun c49 => ?_)
      · refine F_iload_n dX5_count_59 rfl ?_
        refine F_iconst (v := nI 1) dX5_count_60 rfl ?_
        refine F_icmp_neN (tgt := 71) dX5_count_61 rfl (by omega) (by omega) (fun c61 => ?_) (fun c61 => ?_)
        · refine F_iload_n dX5_count_71 rfl ?_
          refine F_iconst (v := nI 2) dX5_count_72 rfl ?_
          refine F_icmp_neN (tgt := 83) dX5_count_73 rfl (by omega) (by omega) (fun c73 => ?_) (fun c73 => ?_)
          · exact absurd rfl c73
          · refine F_aload_n dX5_count_76 rfl ?_
            refine F_geti dX5_count_77 rfl rfl (by first | assumption | rfl) rfl ?_
            refine F_goto (tgt := 96) dX5_count_80 rfl ?_
            refine F_iret dX5_count_96 rfl ?_
            exact hQ
        · exact absurd c61 (by decide)
      · exact absurd c49 (by decide)
    · rw [(show inR (nI 2) (nI 20) (nI 27) = false by decide +kernel)] at c36
      cases c36
  · rw [(show inR (nI 2) (nI 10) (nI 15) = false by decide +kernel)] at c13
    cases c13

theorem m_count3 : mV G mX5_count (d + 1) [.ref 116, .int (nI 3)] σ (some (.int (σ 116 4))) (up σ 116 0 (nI 0)) := by
  refine mV_of fun Q hQ => ?_
  refine F_aload_n dX5_count_0 rfl ?_
  refine F_iconst (v := nI 0) dX5_count_1 rfl ?_
  refine F_put dX5_count_2 rfl rfl (by first | assumption | rfl) rfl rfl rfl rfl ?_
  refine F_iload_n dX5_count_5 rfl ?_
  refine F_bipush (v := nI 10) dX5_count_6 rfl ?_
  refine F_bipush (v := nI 15) dX5_count_8 rfl ?_
  refine F_cS3i (v_isIn (d := d) _ _ _) dX5_count_10 rfl rfl rfl (by decide) (Nat.le_of_ble_eq_true rfl) (by omega) ?_
  refine F_if_eqB (tgt := 28) dX5_count_13 rfl (fun c13 => ?_) (fun c13 => ?_)
  · refine F_iload_n dX5_count_28 rfl ?_
    refine F_bipush (v := nI 20) dX5_count_29 rfl ?_
    refine F_bipush (v := nI 27) dX5_count_31 rfl ?_
    refine F_cS3i (v_isIn (d := d) _ _ _) dX5_count_33 rfl rfl rfl (by decide) (Nat.le_of_ble_eq_true rfl) (by omega) ?_
    refine F_if_eqB (tgt := 48) dX5_count_36 rfl (fun c36 => ?_) (fun c36 => ?_)
    · refine F_iload_n dX5_count_48 rfl ?_
      refine F_if_neN (tgt := 59) dX5_count_49 rfl (by omega) (fun c49 => ?_) (fun c49 => ?_)
      · refine F_iload_n dX5_count_59 rfl ?_
        refine F_iconst (v := nI 1) dX5_count_60 rfl ?_
        refine F_icmp_neN (tgt := 71) dX5_count_61 rfl (by omega) (by omega) (fun c61 => ?_) (fun c61 => ?_)
        · refine F_iload_n dX5_count_71 rfl ?_
          refine F_iconst (v := nI 2) dX5_count_72 rfl ?_
          refine F_icmp_neN (tgt := 83) dX5_count_73 rfl (by omega) (by omega) (fun c73 => ?_) (fun c73 => ?_)
          · refine F_iload_n dX5_count_83 rfl ?_
            refine F_iconst (v := nI 3) dX5_count_84 rfl ?_
            refine F_icmp_neN (tgt := 95) dX5_count_85 rfl (by omega) (by omega) (fun c85 => ?_) (fun c85 => ?_)
            · exact absurd rfl c85
            · refine F_aload_n dX5_count_88 rfl ?_
              refine F_geti dX5_count_89 rfl rfl (by first | assumption | rfl) rfl ?_
              refine F_goto (tgt := 96) dX5_count_92 rfl ?_
              refine F_iret dX5_count_96 rfl ?_
              exact hQ
          · exact absurd c73 (by decide)
        · exact absurd c61 (by decide)
      · exact absurd c49 (by decide)
    · rw [(show inR (nI 3) (nI 20) (nI 27) = false by decide +kernel)] at c36
      cases c36
  · rw [(show inR (nI 3) (nI 10) (nI 15) = false by decide +kernel)] at c13
    cases c13

theorem m_countX (w : Int32) (h1 : inR w (nI 10) (nI 15) = false) (h2 : inR w (nI 20) (nI 27) = false) (h3 : ¬ w = nI 0) (h4 : ¬ w = nI 1) (h5 : ¬ w = nI 2) (h6 : ¬ w = nI 3) : mV G mX5_count (d + 1) [.ref 116, .int w] σ (some (.int (-1))) (up σ 116 0 (nI 0)) := by
  refine mV_of fun Q hQ => ?_
  refine F_aload_n dX5_count_0 rfl ?_
  refine F_iconst (v := nI 0) dX5_count_1 rfl ?_
  refine F_put dX5_count_2 rfl rfl (by first | assumption | rfl) rfl rfl rfl rfl ?_
  refine F_iload_n dX5_count_5 rfl ?_
  refine F_bipush (v := nI 10) dX5_count_6 rfl ?_
  refine F_bipush (v := nI 15) dX5_count_8 rfl ?_
  refine F_cS3i (v_isIn (d := d) _ _ _) dX5_count_10 rfl rfl rfl (by decide) (Nat.le_of_ble_eq_true rfl) (by omega) ?_
  refine F_if_eqB (tgt := 28) dX5_count_13 rfl (fun c13 => ?_) (fun c13 => ?_)
  · refine F_iload_n dX5_count_28 rfl ?_
    refine F_bipush (v := nI 20) dX5_count_29 rfl ?_
    refine F_bipush (v := nI 27) dX5_count_31 rfl ?_
    refine F_cS3i (v_isIn (d := d) _ _ _) dX5_count_33 rfl rfl rfl (by decide) (Nat.le_of_ble_eq_true rfl) (by omega) ?_
    refine F_if_eqB (tgt := 48) dX5_count_36 rfl (fun c36 => ?_) (fun c36 => ?_)
    · refine F_iload_n dX5_count_48 rfl ?_
      refine F_if_ne (tgt := 59) dX5_count_49 rfl (fun c49 => ?_) (fun c49 => ?_)
      · refine F_iload_n dX5_count_59 rfl ?_
        refine F_iconst (v := nI 1) dX5_count_60 rfl ?_
        refine F_icmp_ne (tgt := 71) dX5_count_61 rfl (fun c61 => ?_) (fun c61 => ?_)
        · refine F_iload_n dX5_count_71 rfl ?_
          refine F_iconst (v := nI 2) dX5_count_72 rfl ?_
          refine F_icmp_ne (tgt := 83) dX5_count_73 rfl (fun c73 => ?_) (fun c73 => ?_)
          · refine F_iload_n dX5_count_83 rfl ?_
            refine F_iconst (v := nI 3) dX5_count_84 rfl ?_
            refine F_icmp_ne (tgt := 95) dX5_count_85 rfl (fun c85 => ?_) (fun c85 => ?_)
            · refine F_iconst (v := (-1)) dX5_count_95 rfl ?_
              refine F_iret dX5_count_96 rfl ?_
              exact hQ
            · exact absurd c85 h6
          · exact absurd c73 h5
        · exact absurd c61 h4
      · exact absurd c49 h3
    · rw [h2] at c36
      cases c36
  · rw [h1] at c13
    cases c13

theorem m_campedA (c last : Int32) {n : Nat} (hn : σ 117 14 = nI n) (h4 : n ≤ 4) (h : grB (σ 117 14) c = false) : mV G mX5_camped (d + 1) [.ref 116, .int c, .int last] σ (some (.int (nI 0))) (up σ 116 0 (nI 1)) := by
  refine mV_of fun Q hQ => ?_
  refine F_aload_n dX5_camped_0 rfl ?_
  refine F_iload_n dX5_camped_1 rfl ?_
  refine F_iconst (v := nI 0) dX5_camped_2 rfl ?_
  refine F_aload_n dX5_camped_3 rfl ?_
  refine F_cV0i (v_camps (d := d)) dX5_camped_4 rfl rfl (by decide) (by first | assumption | rfl) rfl rfl rfl (by decide) (Nat.le_of_ble_eq_true rfl) (by omega) ?_
  refine F_top (y := nI n) hn ?_
  refine F_iconst (v := nI 1) dX5_camped_7 rfl ?_
  refine F_isub dX5_camped_8 ?_
  refine F_cS3i (v_isIn (d := d) _ _ _) dX5_camped_9 rfl rfl rfl (by decide) (Nat.le_of_ble_eq_true rfl) (by omega) ?_
  refine F_if_eqB (tgt := 19) dX5_camped_12 rfl (fun c12 => ?_) (fun c12 => ?_)
  · refine F_iconst (v := nI 1) dX5_camped_19 rfl ?_
    refine F_put dX5_camped_20 rfl rfl (by first | assumption | rfl) rfl rfl rfl rfl ?_
    refine F_aload_n dX5_camped_23 rfl ?_
    refine F_getE (v := nI 1) dX5_camped_24 rfl rfl (by first | assumption | rfl) rfl rfl ?_
    refine F_iconst (v := nI 1) dX5_camped_27 rfl ?_
    refine F_icmp_neN (tgt := 35) dX5_camped_28 rfl (by omega) (by omega) (fun c28 => ?_) (fun c28 => ?_)
    · exact absurd rfl c28
    · refine F_iconst (v := nI 0) dX5_camped_31 rfl ?_
      refine F_goto (tgt := 56) dX5_camped_32 rfl ?_
      refine F_iret dX5_camped_56 rfl ?_
      exact hQ
  · rw [inR_grp c (by omega), ← hn, h] at c12
    cases c12

theorem m_campedB {c n : Nat} (last : Int32) (hn : σ 117 14 = nI n) (hc : c < n) (h4 : n ≤ 4) : mV G mX5_camped (d + 1) [.ref 116, .int (nI c), .int last] σ (some (.int (σ 117 (15 + 2 * c + (if last = 0 then 0 else 1))))) (up σ 116 0 (nI 0)) := by
  refine mV_of fun Q hQ => ?_
  refine F_aload_n dX5_camped_0 rfl ?_
  refine F_iload_n dX5_camped_1 rfl ?_
  refine F_iconst (v := nI 0) dX5_camped_2 rfl ?_
  refine F_aload_n dX5_camped_3 rfl ?_
  refine F_cV0i (v_camps (d := d)) dX5_camped_4 rfl rfl (by decide) (by first | assumption | rfl) rfl rfl rfl (by decide) (Nat.le_of_ble_eq_true rfl) (by omega) ?_
  refine F_top (y := nI n) hn ?_
  refine F_iconst (v := nI 1) dX5_camped_7 rfl ?_
  refine F_isub dX5_camped_8 ?_
  refine F_cS3i (v_isIn (d := d) _ _ _) dX5_camped_9 rfl rfl rfl (by decide) (Nat.le_of_ble_eq_true rfl) (by omega) ?_
  refine F_if_eqB (tgt := 19) dX5_camped_12 rfl (fun c12 => ?_) (fun c12 => ?_)
  · rw [inR_grp _ (by omega), grB_nI hc (by omega)] at c12
    cases c12
  · refine F_iconst (v := nI 0) dX5_camped_15 rfl ?_
    refine F_goto (tgt := 20) dX5_camped_16 rfl ?_
    refine F_put dX5_camped_20 rfl rfl (by first | assumption | rfl) rfl rfl rfl rfl ?_
    refine F_aload_n dX5_camped_23 rfl ?_
    refine F_getE (v := nI 0) dX5_camped_24 rfl rfl (by first | assumption | rfl) rfl rfl ?_
    refine F_iconst (v := nI 1) dX5_camped_27 rfl ?_
    refine F_icmp_neN (tgt := 35) dX5_camped_28 rfl (by omega) (by omega) (fun c28 => ?_) (fun c28 => ?_)
    · refine F_aload_n dX5_camped_35 rfl ?_
      refine F_getr dX5_camped_36 rfl rfl (by first | assumption | rfl) rfl ?_
      refine F_bipush (v := nI 15) dX5_camped_39 rfl ?_
      refine F_iconst (v := nI 2) dX5_camped_41 rfl ?_
      refine F_iload_n dX5_camped_42 rfl ?_
      refine F_imulN dX5_camped_43 ?_
      refine F_iaddN dX5_camped_44 ?_
      refine F_iload_n dX5_camped_45 rfl ?_
      refine F_if_eq (tgt := 53) dX5_camped_46 rfl (fun c46 => ?_) (fun c46 => ?_)
      · refine F_iconst (v := nI 0) dX5_camped_53 rfl ?_
        refine F_iaddN dX5_camped_54 ?_
        refine F_iald dX5_camped_55 (by first | assumption | rfl) (by decide) (by omega) ?_
        refine F_iret dX5_camped_56 rfl ?_
        first | (rw [if_pos c46] at hQ; exact hQ) | (rw [if_neg c46] at hQ; exact hQ)
      · refine F_iconst (v := nI 1) dX5_camped_49 rfl ?_
        refine F_goto (tgt := 54) dX5_camped_50 rfl ?_
        refine F_iaddN dX5_camped_54 ?_
        refine F_iald dX5_camped_55 (by first | assumption | rfl) (by decide) (by omega) ?_
        refine F_iret dX5_camped_56 rfl ?_
        first | (rw [if_pos c46] at hQ; exact hQ) | (rw [if_neg c46] at hQ; exact hQ)
    · exact absurd c28 (by decide)

/-- the bytes of a number, the highest first -/
def byF (w : Int32) (s : Nat) : Int32 := vp_nar .byte (w >>> (nI s &&& 31)).toInt8.toInt32
def put4 (f : Nat → Int32) (n : Nat) (w : Int32) : Nat → Int32 := upd (upd (upd (upd f n (byF w 24)) (n + 1) (byF w 16)) (n + 2) (byF w 8)) (n + 3) (byF w 0)
theorem l_put24 {w : Int32} {n : Nat} (hn : σ 116 6 = nI n) (h4 : n < 400) {Q : Option Value → mS → Prop} (hk : mF G mX5_put d 3 [some (.ref 116), some (.int w), some (.int (nI 16))] [] (up (up σ 120 n (byF w 24)) 116 6 (nI (n + 1))) Q) : mF G mX5_put d 3 [some (.ref 116), some (.int w), some (.int (nI 24))] [] σ Q := by
  refine F_iload_n dX5_put_3 rfl ?_
  refine F_if_ltN (tgt := 36) dX5_put_4 rfl (by omega) ?_
  refine F_aload_n dX5_put_7 rfl ?_
  refine F_getr dX5_put_8 rfl rfl (by first | assumption | rfl) rfl ?_
  refine F_aload_n dX5_put_11 rfl ?_
  refine F_getE (v := nI n) dX5_put_12 rfl rfl (by first | assumption | rfl) rfl hn ?_
  refine F_iload_n dX5_put_15 rfl ?_
  refine F_iload_n dX5_put_16 rfl ?_
  refine F_ishr dX5_put_17 ?_
  refine F_i2b dX5_put_18 ?_
  refine F_bast dX5_put_19 (by first | assumption | rfl) (by decide) (by omega) ?_
  refine F_aload_n dX5_put_20 rfl ?_
  refine F_dup dX5_put_21 rfl ?_
  refine F_getE (v := nI n) dX5_put_22 rfl rfl (by first | assumption | rfl) rfl hn ?_
  refine F_iconst (v := nI 1) dX5_put_25 rfl ?_
  refine F_iaddN dX5_put_26 ?_
  refine F_put dX5_put_27 rfl rfl (by first | assumption | rfl) rfl rfl rfl rfl ?_
  refine F_iinc (v := nI 16) dX5_put_30 rfl (by decide) ?_
  refine F_goto (tgt := 3) dX5_put_33 rfl ?_
  exact hk

theorem l_put16 {w : Int32} {n : Nat} (hn : σ 116 6 = nI n) (h4 : n < 400) {Q : Option Value → mS → Prop} (hk : mF G mX5_put d 3 [some (.ref 116), some (.int w), some (.int (nI 8))] [] (up (up σ 120 n (byF w 16)) 116 6 (nI (n + 1))) Q) : mF G mX5_put d 3 [some (.ref 116), some (.int w), some (.int (nI 16))] [] σ Q := by
  refine F_iload_n dX5_put_3 rfl ?_
  refine F_if_ltN (tgt := 36) dX5_put_4 rfl (by omega) ?_
  refine F_aload_n dX5_put_7 rfl ?_
  refine F_getr dX5_put_8 rfl rfl (by first | assumption | rfl) rfl ?_
  refine F_aload_n dX5_put_11 rfl ?_
  refine F_getE (v := nI n) dX5_put_12 rfl rfl (by first | assumption | rfl) rfl hn ?_
  refine F_iload_n dX5_put_15 rfl ?_
  refine F_iload_n dX5_put_16 rfl ?_
  refine F_ishr dX5_put_17 ?_
  refine F_i2b dX5_put_18 ?_
  refine F_bast dX5_put_19 (by first | assumption | rfl) (by decide) (by omega) ?_
  refine F_aload_n dX5_put_20 rfl ?_
  refine F_dup dX5_put_21 rfl ?_
  refine F_getE (v := nI n) dX5_put_22 rfl rfl (by first | assumption | rfl) rfl hn ?_
  refine F_iconst (v := nI 1) dX5_put_25 rfl ?_
  refine F_iaddN dX5_put_26 ?_
  refine F_put dX5_put_27 rfl rfl (by first | assumption | rfl) rfl rfl rfl rfl ?_
  refine F_iinc (v := nI 8) dX5_put_30 rfl (by decide) ?_
  refine F_goto (tgt := 3) dX5_put_33 rfl ?_
  exact hk

theorem l_put8 {w : Int32} {n : Nat} (hn : σ 116 6 = nI n) (h4 : n < 400) {Q : Option Value → mS → Prop} (hk : mF G mX5_put d 3 [some (.ref 116), some (.int w), some (.int (nI 0))] [] (up (up σ 120 n (byF w 8)) 116 6 (nI (n + 1))) Q) : mF G mX5_put d 3 [some (.ref 116), some (.int w), some (.int (nI 8))] [] σ Q := by
  refine F_iload_n dX5_put_3 rfl ?_
  refine F_if_ltN (tgt := 36) dX5_put_4 rfl (by omega) ?_
  refine F_aload_n dX5_put_7 rfl ?_
  refine F_getr dX5_put_8 rfl rfl (by first | assumption | rfl) rfl ?_
  refine F_aload_n dX5_put_11 rfl ?_
  refine F_getE (v := nI n) dX5_put_12 rfl rfl (by first | assumption | rfl) rfl hn ?_
  refine F_iload_n dX5_put_15 rfl ?_
  refine F_iload_n dX5_put_16 rfl ?_
  refine F_ishr dX5_put_17 ?_
  refine F_i2b dX5_put_18 ?_
  refine F_bast dX5_put_19 (by first | assumption | rfl) (by decide) (by omega) ?_
  refine F_aload_n dX5_put_20 rfl ?_
  refine F_dup dX5_put_21 rfl ?_
  refine F_getE (v := nI n) dX5_put_22 rfl rfl (by first | assumption | rfl) rfl hn ?_
  refine F_iconst (v := nI 1) dX5_put_25 rfl ?_
  refine F_iaddN dX5_put_26 ?_
  refine F_put dX5_put_27 rfl rfl (by first | assumption | rfl) rfl rfl rfl rfl ?_
  refine F_iinc (v := nI 0) dX5_put_30 rfl (by decide) ?_
  refine F_goto (tgt := 3) dX5_put_33 rfl ?_
  exact hk

theorem l_put0 {w : Int32} {n : Nat} (hn : σ 116 6 = nI n) (h4 : n < 400) {Q : Option Value → mS → Prop} (hk : mF G mX5_put d 3 [some (.ref 116), some (.int w), some (.int (-8))] [] (up (up σ 120 n (byF w 0)) 116 6 (nI (n + 1))) Q) : mF G mX5_put d 3 [some (.ref 116), some (.int w), some (.int (nI 0))] [] σ Q := by
  refine F_iload_n dX5_put_3 rfl ?_
  refine F_if_ltN (tgt := 36) dX5_put_4 rfl (by omega) ?_
  refine F_aload_n dX5_put_7 rfl ?_
  refine F_getr dX5_put_8 rfl rfl (by first | assumption | rfl) rfl ?_
  refine F_aload_n dX5_put_11 rfl ?_
  refine F_getE (v := nI n) dX5_put_12 rfl rfl (by first | assumption | rfl) rfl hn ?_
  refine F_iload_n dX5_put_15 rfl ?_
  refine F_iload_n dX5_put_16 rfl ?_
  refine F_ishr dX5_put_17 ?_
  refine F_i2b dX5_put_18 ?_
  refine F_bast dX5_put_19 (by first | assumption | rfl) (by decide) (by omega) ?_
  refine F_aload_n dX5_put_20 rfl ?_
  refine F_dup dX5_put_21 rfl ?_
  refine F_getE (v := nI n) dX5_put_22 rfl rfl (by first | assumption | rfl) rfl hn ?_
  refine F_iconst (v := nI 1) dX5_put_25 rfl ?_
  refine F_iaddN dX5_put_26 ?_
  refine F_put dX5_put_27 rfl rfl (by first | assumption | rfl) rfl rfl rfl rfl ?_
  refine F_iinc (v := -8) dX5_put_30 rfl (by decide) ?_
  refine F_goto (tgt := 3) dX5_put_33 rfl ?_
  exact hk

theorem v_put (w : Int32) {n : Nat} (hn : σ 116 6 = nI n) (h4 : n + 4 ≤ 400) : mV G mX5_put d [.ref 116, .int w] σ none (up (upR σ 120 (put4 (σ 120) n w)) 116 6 (nI (n + 4))) := by
  refine mV_of fun Q hQ => ?_
  refine F_bipush (v := nI 24) dX5_put_0 rfl ?_
  refine F_istore_n dX5_put_2 (Nat.le_of_ble_eq_true rfl) ?_
  refine l_put24 hn (by omega) ?_
  refine l_put16 (n := n + 1) rfl (by omega) ?_
  refine l_put8 (n := n + 2) rfl (by omega) ?_
  refine l_put0 (n := n + 3) rfl (by omega) ?_
  refine F_iload_n dX5_put_3 rfl ?_
  refine F_if_lt (tgt := 36) dX5_put_4 rfl (fun c4 => ?_) (fun c4 => ?_)
  · refine F_vret dX5_put_36 rfl ?_
    refine Qn hQ ?_
    funext b
    by_cases h1 : b = 116
    · subst h1
      simp [up, upR]
      funext j
      simp only [upd]
      split <;> rfl
    · by_cases h2 : b = 120
      · subst h2; simp [up, upR, put4]
      · simp [up, upR, h1, h2]
  · exact absurd (by decide) c4

theorem m_feedA (a b c e f : Int32) {n : Nat} (hn : σ 116 6 = nI n) (h : n ≤ 400) (hf : 400 < n + 20) : mV G mX5_feed (d + 1) [.ref 116, .int a, .int b, .int c, .int e, .int f] σ (some (.int (-1))) (up σ 116 0 (nI 0)) := by
  refine mV_of fun Q hQ => ?_
  refine F_aload_n dX5_feed_0 rfl ?_
  refine F_iconst (v := nI 0) dX5_feed_1 rfl ?_
  refine F_put dX5_feed_2 rfl rfl (by first | assumption | rfl) rfl rfl rfl rfl ?_
  refine F_aload_n dX5_feed_5 rfl ?_
  refine F_getE (v := nI n) dX5_feed_6 rfl rfl (by first | assumption | rfl) rfl hn ?_
  refine F_bipush (v := nI 20) dX5_feed_9 rfl ?_
  refine F_iaddN dX5_feed_11 ?_
  refine F_sipush (v := nI 400) dX5_feed_12 rfl ?_
  refine F_icmp_leN (tgt := 20) dX5_feed_15 rfl (by omega) (by omega) (fun c15 => ?_) (fun c15 => ?_)
  · exact absurd c15 (by omega)
  · refine F_iconst (v := (-1)) dX5_feed_18 rfl ?_
    refine F_iret dX5_feed_19 rfl ?_
    exact hQ

theorem m_feedB (a b c e f : Int32) {n : Nat} (hn : σ 116 6 = nI n) (hf : n + 20 ≤ 400) : mV G mX5_feed (d + 1) [.ref 116, .int a, .int b, .int c, .int e, .int f] σ (some (.int (nI (n + 20)))) (up (upR (up σ 116 0 (nI 0)) 120 (put4 (put4 (put4 (put4 (put4 (σ 120) n a) (n + 4) b) (n + 8) c) (n + 12) e) (n + 16) f)) 116 6 (nI (n + 20))) := by
  refine mV_of fun Q hQ => ?_
  refine F_aload_n dX5_feed_0 rfl ?_
  refine F_iconst (v := nI 0) dX5_feed_1 rfl ?_
  refine F_put dX5_feed_2 rfl rfl (by first | assumption | rfl) rfl rfl rfl rfl ?_
  refine F_aload_n dX5_feed_5 rfl ?_
  refine F_getE (v := nI n) dX5_feed_6 rfl rfl (by first | assumption | rfl) rfl hn ?_
  refine F_bipush (v := nI 20) dX5_feed_9 rfl ?_
  refine F_iaddN dX5_feed_11 ?_
  refine F_sipush (v := nI 400) dX5_feed_12 rfl ?_
  refine F_icmp_leN (tgt := 20) dX5_feed_15 rfl (by omega) (by omega) (fun c15 => ?_) (fun c15 => ?_)
  · refine F_aload_n dX5_feed_20 rfl ?_
    refine F_iload_n dX5_feed_21 rfl ?_
    refine F_cV1v (v_put (d := d) _ (n := n) hn (by omega)) dX5_feed_22 rfl rfl (by decide) (by first | assumption | rfl) rfl rfl rfl (by decide) (Nat.le_of_ble_eq_true rfl) (by omega) ?_
    refine F_aload_n dX5_feed_25 rfl ?_
    refine F_iload_n dX5_feed_26 rfl ?_
    refine F_cV1v (v_put (d := d) _ (n := n + 4) rfl (by omega)) dX5_feed_27 rfl rfl (by decide) (by first | assumption | rfl) rfl rfl rfl (by decide) (Nat.le_of_ble_eq_true rfl) (by omega) ?_
    refine F_aload_n dX5_feed_30 rfl ?_
    refine F_iload_n dX5_feed_31 rfl ?_
    refine F_cV1v (v_put (d := d) _ (n := n + 8) rfl (by omega)) dX5_feed_32 rfl rfl (by decide) (by first | assumption | rfl) rfl rfl rfl (by decide) (Nat.le_of_ble_eq_true rfl) (by omega) ?_
    refine F_aload_n dX5_feed_35 rfl ?_
    refine F_iload dX5_feed_36 rfl ?_
    refine F_cV1v (v_put (d := d) _ (n := n + 12) rfl (by omega)) dX5_feed_38 rfl rfl (by decide) (by first | assumption | rfl) rfl rfl rfl (by decide) (Nat.le_of_ble_eq_true rfl) (by omega) ?_
    refine F_aload_n dX5_feed_41 rfl ?_
    refine F_iload dX5_feed_42 rfl ?_
    refine F_cV1v (v_put (d := d) _ (n := n + 16) rfl (by omega)) dX5_feed_44 rfl rfl (by decide) (by first | assumption | rfl) rfl rfl rfl (by decide) (Nat.le_of_ble_eq_true rfl) (by omega) ?_
    refine F_aload_n dX5_feed_47 rfl ?_
    refine F_getE (v := nI (n + 20)) dX5_feed_48 rfl rfl (by first | assumption | rfl) rfl rfl ?_
    refine F_iret dX5_feed_51 rfl ?_
    refine Qn hQ ?_
    funext b0
    by_cases h1 : b0 = 116
    · subst h1
      simp [up, upR]
      funext j
      simp only [upd]
      split <;> rfl
    · by_cases h2 : b0 = 120
      · subst h2; simp [up, upR]
      · simp [up, upR, h1, h2]
  · exact absurd hf c15

theorem m_endA (n : Int32) (h : inR n (nI 0) (σ 116 6) = false) : mV G mX5_end (d + 1) [.ref 116, .int n] σ (some (.int (nI 0))) (up σ 116 0 (nI 0)) := by
  refine mV_of fun Q hQ => ?_
  refine F_aload_n dX5_end_0 rfl ?_
  refine F_iconst (v := nI 0) dX5_end_1 rfl ?_
  refine F_put dX5_end_2 rfl rfl (by first | assumption | rfl) rfl rfl rfl rfl ?_
  refine F_iload_n dX5_end_5 rfl ?_
  refine F_iconst (v := nI 0) dX5_end_6 rfl ?_
  refine F_aload_n dX5_end_7 rfl ?_
  refine F_geti dX5_end_8 rfl rfl (by first | assumption | rfl) rfl ?_
  refine F_cS3i (v_isIn (d := d) _ _ _) dX5_end_11 rfl rfl rfl (by decide) (Nat.le_of_ble_eq_true rfl) (by omega) ?_
  refine F_if_neB (tgt := 19) dX5_end_14 rfl (fun c14 => ?_) (fun c14 => ?_)
  · rw [show inR n (nI 0) (σ 116 6) = true from c14] at h
    cases h
  · refine F_iconst (v := nI 0) dX5_end_17 rfl ?_
    refine F_zret dX5_end_18 rfl (by first | exact Or.inl rfl | exact Or.inr rfl | exact bI_01 _) ?_
    exact hQ

theorem m_endB (n : Int32) (h : inR n (nI 0) (σ 116 6) = true) : mV G mX5_end (d + 1) [.ref 116, .int n] σ (some (.int (nI 1))) (up (up σ 116 0 (nI 0)) 116 6 n) := by
  refine mV_of fun Q hQ => ?_
  refine F_aload_n dX5_end_0 rfl ?_
  refine F_iconst (v := nI 0) dX5_end_1 rfl ?_
  refine F_put dX5_end_2 rfl rfl (by first | assumption | rfl) rfl rfl rfl rfl ?_
  refine F_iload_n dX5_end_5 rfl ?_
  refine F_iconst (v := nI 0) dX5_end_6 rfl ?_
  refine F_aload_n dX5_end_7 rfl ?_
  refine F_geti dX5_end_8 rfl rfl (by first | assumption | rfl) rfl ?_
  refine F_cS3i (v_isIn (d := d) _ _ _) dX5_end_11 rfl rfl rfl (by decide) (Nat.le_of_ble_eq_true rfl) (by omega) ?_
  refine F_if_neB (tgt := 19) dX5_end_14 rfl (fun c14 => ?_) (fun c14 => ?_)
  · refine F_aload_n dX5_end_19 rfl ?_
    refine F_iload_n dX5_end_20 rfl ?_
    refine F_put dX5_end_21 rfl rfl (by first | assumption | rfl) rfl rfl rfl rfl ?_
    refine F_iconst (v := nI 1) dX5_end_24 rfl ?_
    refine F_zret dX5_end_25 rfl (by first | exact Or.inl rfl | exact Or.inr rfl | exact bI_01 _) ?_
    exact hQ
  · rw [show inR n (nI 0) (σ 116 6) = false from c14] at h
    cases h

theorem m_fault  : mV G mX5_fault d [.ref 116] σ (some (.int (σ 116 7))) (up σ 116 0 (nI 0)) := by
  refine mV_of fun Q hQ => ?_
  refine F_aload_n dX5_fault_0 rfl ?_
  refine F_iconst (v := nI 0) dX5_fault_1 rfl ?_
  refine F_put dX5_fault_2 rfl rfl (by first | assumption | rfl) rfl rfl rfl rfl ?_
  refine F_aload_n dX5_fault_5 rfl ?_
  refine F_geti dX5_fault_6 rfl rfl (by first | assumption | rfl) rfl ?_
  refine F_iret dX5_fault_9 rfl ?_
  exact hQ

end MP
