/-! ===== the reference: group, load, set, camp, strike, undo ===== -/
section MT2
variable {G : mG} {d : Nat} {σ : mS}
theorem m_groupA (fit tired : Int32) (h : (inR fit (nI 0) (nI 9999) && inR tired (nI 0) (nI 9999)) = false) : mV G mX5_group (d + 1) [.ref 116, .int fit, .int tired] σ (some (.int (-1))) (up σ 116 0 (nI 0)) := by
  refine mV_of fun Q hQ => ?_
  refine F_aload_n dX5_group_0 rfl ?_
  refine F_iconst (v := nI 0) dX5_group_1 rfl ?_
  refine F_put dX5_group_2 rfl rfl (by first | assumption | rfl) rfl rfl rfl rfl ?_
  refine F_iload_n dX5_group_5 rfl ?_
  refine F_iconst (v := nI 0) dX5_group_6 rfl ?_
  refine F_sipush (v := nI 9999) dX5_group_7 rfl ?_
  refine F_cS3i (v_isIn (d := d) _ _ _) dX5_group_10 rfl rfl rfl (by decide) (Nat.le_of_ble_eq_true rfl) (by omega) ?_
  refine F_if_eqB (tgt := 27) dX5_group_13 rfl (fun c13 => ?_) (fun c13 => ?_)
  · refine F_iconst (v := (-1)) dX5_group_27 rfl ?_
    refine F_iret dX5_group_28 rfl ?_
    exact hQ
  · refine F_iload_n dX5_group_16 rfl ?_
    refine F_iconst (v := nI 0) dX5_group_17 rfl ?_
    refine F_sipush (v := nI 9999) dX5_group_18 rfl ?_
    refine F_cS3i (v_isIn (d := d) _ _ _) dX5_group_21 rfl rfl rfl (by decide) (Nat.le_of_ble_eq_true rfl) (by omega) ?_
    refine F_if_neB (tgt := 29) dX5_group_24 rfl (fun c24 => ?_) (fun c24 => ?_)
    · rw [c13, c24] at h
      cases h
    · refine F_iconst (v := (-1)) dX5_group_27 rfl ?_
      refine F_iret dX5_group_28 rfl ?_
      exact hQ

theorem m_groupB (fit tired : Int32) (h : (inR fit (nI 0) (nI 9999) && inR tired (nI 0) (nI 9999)) = true) (hn : σ 117 23 = nI 6) : mV G mX5_group (d + 1) [.ref 116, .int fit, .int tired] σ (some (.int (-2))) (up σ 116 0 (nI 0)) := by
  refine mV_of fun Q hQ => ?_
  refine F_aload_n dX5_group_0 rfl ?_
  refine F_iconst (v := nI 0) dX5_group_1 rfl ?_
  refine F_put dX5_group_2 rfl rfl (by first | assumption | rfl) rfl rfl rfl rfl ?_
  refine F_iload_n dX5_group_5 rfl ?_
  refine F_iconst (v := nI 0) dX5_group_6 rfl ?_
  refine F_sipush (v := nI 9999) dX5_group_7 rfl ?_
  refine F_cS3i (v_isIn (d := d) _ _ _) dX5_group_10 rfl rfl rfl (by decide) (Nat.le_of_ble_eq_true rfl) (by omega) ?_
  refine F_if_eqB (tgt := 27) dX5_group_13 rfl (fun c13 => ?_) (fun c13 => ?_)
  · rw [c13] at h
    cases h
  · refine F_iload_n dX5_group_16 rfl ?_
    refine F_iconst (v := nI 0) dX5_group_17 rfl ?_
    refine F_sipush (v := nI 9999) dX5_group_18 rfl ?_
    refine F_cS3i (v_isIn (d := d) _ _ _) dX5_group_21 rfl rfl rfl (by decide) (Nat.le_of_ble_eq_true rfl) (by omega) ?_
    refine F_if_neB (tgt := 29) dX5_group_24 rfl (fun c24 => ?_) (fun c24 => ?_)
    · refine F_aload_n dX5_group_29 rfl ?_
      refine F_cV0i (v_groups (d := d)) dX5_group_30 rfl rfl (by decide) (by first | assumption | rfl) rfl rfl rfl (by decide) (Nat.le_of_ble_eq_true rfl) (by omega) ?_
      refine F_top (y := nI 6) hn ?_
      refine F_bipush (v := nI 6) dX5_group_33 rfl ?_
      refine F_icmp_neN (tgt := 41) dX5_group_35 rfl (by omega) (by omega) (fun c35 => ?_) (fun c35 => ?_)
      · exact absurd rfl c35
      · refine F_bipush (v := (-2)) dX5_group_38 rfl ?_
        refine F_iret dX5_group_40 rfl ?_
        exact hQ
    · rw [c13, c24] at h
      cases h

theorem m_groupC (fit tired : Int32) (h : (inR fit (nI 0) (nI 9999) && inR tired (nI 0) (nI 9999)) = true) {n k : Nat} (hn : σ 117 23 = nI n) (h6 : n < 6) (hk : σ 116 4 = nI k) (hk8 : k ≤ 8) : mV G mX5_group (d + 2) [.ref 116, .int fit, .int tired] σ (some (.int (nI n))) (upR (up (upR (up σ 116 0 (nI 0)) 118 (keptF k (σ 118) (σ 117))) 116 4 (nI (min k 7 + 1))) 117 (comesF (σ 117) n fit tired)) := by
  refine mV_of fun Q hQ => ?_
  refine F_aload_n dX5_group_0 rfl ?_
  refine F_iconst (v := nI 0) dX5_group_1 rfl ?_
  refine F_put dX5_group_2 rfl rfl (by first | assumption | rfl) rfl rfl rfl rfl ?_
  refine F_iload_n dX5_group_5 rfl ?_
  refine F_iconst (v := nI 0) dX5_group_6 rfl ?_
  refine F_sipush (v := nI 9999) dX5_group_7 rfl ?_
  refine F_cS3i (v_isIn (d := d) _ _ _) dX5_group_10 rfl rfl rfl (by decide) (Nat.le_of_ble_eq_true rfl) (by omega) ?_
  refine F_if_eqB (tgt := 27) dX5_group_13 rfl (fun c13 => ?_) (fun c13 => ?_)
  · rw [c13] at h
    cases h
  · refine F_iload_n dX5_group_16 rfl ?_
    refine F_iconst (v := nI 0) dX5_group_17 rfl ?_
    refine F_sipush (v := nI 9999) dX5_group_18 rfl ?_
    refine F_cS3i (v_isIn (d := d) _ _ _) dX5_group_21 rfl rfl rfl (by decide) (Nat.le_of_ble_eq_true rfl) (by omega) ?_
    refine F_if_neB (tgt := 29) dX5_group_24 rfl (fun c24 => ?_) (fun c24 => ?_)
    · refine F_aload_n dX5_group_29 rfl ?_
      refine F_cV0i (v_groups (d := d)) dX5_group_30 rfl rfl (by decide) (by first | assumption | rfl) rfl rfl rfl (by decide) (Nat.le_of_ble_eq_true rfl) (by omega) ?_
      refine F_top (y := nI n) hn ?_
      refine F_bipush (v := nI 6) dX5_group_33 rfl ?_
      refine F_icmp_neN (tgt := 41) dX5_group_35 rfl (by omega) (by omega) (fun c35 => ?_) (fun c35 => ?_)
      · refine F_aload_n dX5_group_41 rfl ?_
        refine F_aload_n dX5_group_42 rfl ?_
        refine F_getr dX5_group_43 rfl rfl (by first | assumption | rfl) rfl ?_
        refine F_cV_r_v (v_keeps (d := d) (r := 117) rfl (by decide) (by decide) hk hk8) dX5_group_46 rfl rfl (by decide) (by first | assumption | rfl) rfl rfl rfl (by decide) (Nat.le_of_ble_eq_true rfl) (by omega) ?_
        refine F_aload_n dX5_group_49 rfl ?_
        refine F_iload_n dX5_group_50 rfl ?_
        refine F_iload_n dX5_group_51 rfl ?_
        refine F_cV2v (v_comes (d := d) _ _ hn h6) dX5_group_52 rfl rfl (by decide) (by first | assumption | rfl) rfl rfl rfl (by decide) (Nat.le_of_ble_eq_true rfl) (by omega) ?_
        refine F_aload_n dX5_group_55 rfl ?_
        refine F_cV0i (v_groups (d := d)) dX5_group_56 rfl rfl (by decide) (by first | assumption | rfl) rfl rfl rfl (by decide) (Nat.le_of_ble_eq_true rfl) (by omega) ?_
        refine F_top (y := nI (n + 1)) rfl ?_
        refine F_iconst (v := nI 1) dX5_group_59 rfl ?_
        refine F_isubN dX5_group_60 (by omega) ?_
        refine F_iret dX5_group_61 rfl ?_
        exact hQ
      · exact absurd c35 (by omega)
    · rw [c13, c24] at h
      cases h

theorem m_loadA (kind v : Int32) (h : (inR kind (nI 1) (nI 5) && inR v (nI 0) (nI 300)) = false) : mV G mX5_load (d + 1) [.ref 116, .int kind, .int v] σ (some (.int (nI 0))) (up σ 116 0 (nI 0)) := by
  refine mV_of fun Q hQ => ?_
  refine F_aload_n dX5_load_0 rfl ?_
  refine F_iconst (v := nI 0) dX5_load_1 rfl ?_
  refine F_put dX5_load_2 rfl rfl (by first | assumption | rfl) rfl rfl rfl rfl ?_
  refine F_iload_n dX5_load_5 rfl ?_
  refine F_iconst (v := nI 1) dX5_load_6 rfl ?_
  refine F_iconst (v := nI 5) dX5_load_7 rfl ?_
  refine F_cS3i (v_isIn (d := d) _ _ _) dX5_load_8 rfl rfl rfl (by decide) (Nat.le_of_ble_eq_true rfl) (by omega) ?_
  refine F_if_eqB (tgt := 37) dX5_load_11 rfl (fun c11 => ?_) (fun c11 => ?_)
  · refine F_iconst (v := nI 0) dX5_load_37 rfl ?_
    refine F_zret dX5_load_38 rfl (by first | exact Or.inl rfl | exact Or.inr rfl | exact bI_01 _) ?_
    exact hQ
  · refine F_iload_n dX5_load_14 rfl ?_
    refine F_iconst (v := nI 0) dX5_load_15 rfl ?_
    refine F_sipush (v := nI 300) dX5_load_16 rfl ?_
    refine F_cS3i (v_isIn (d := d) _ _ _) dX5_load_19 rfl rfl rfl (by decide) (Nat.le_of_ble_eq_true rfl) (by omega) ?_
    refine F_if_eqB (tgt := 37) dX5_load_22 rfl (fun c22 => ?_) (fun c22 => ?_)
    · refine F_iconst (v := nI 0) dX5_load_37 rfl ?_
      refine F_zret dX5_load_38 rfl (by first | exact Or.inl rfl | exact Or.inr rfl | exact bI_01 _) ?_
      exact hQ
    · rw [c11, c22] at h
      cases h

theorem m_loadB (v : Int32) {k : Nat} (hk : k < 6) (h : (inR (nI k) (nI 1) (nI 5) && inR v (nI 0) (nI 300)) = true) (hs : σ 117 k = v) : mV G mX5_load (d + 1) [.ref 116, .int (nI k), .int v] σ (some (.int (nI 0))) (up σ 116 0 (nI 0)) := by
  refine mV_of fun Q hQ => ?_
  refine F_aload_n dX5_load_0 rfl ?_
  refine F_iconst (v := nI 0) dX5_load_1 rfl ?_
  refine F_put dX5_load_2 rfl rfl (by first | assumption | rfl) rfl rfl rfl rfl ?_
  refine F_iload_n dX5_load_5 rfl ?_
  refine F_iconst (v := nI 1) dX5_load_6 rfl ?_
  refine F_iconst (v := nI 5) dX5_load_7 rfl ?_
  refine F_cS3i (v_isIn (d := d) _ _ _) dX5_load_8 rfl rfl rfl (by decide) (Nat.le_of_ble_eq_true rfl) (by omega) ?_
  refine F_if_eqB (tgt := 37) dX5_load_11 rfl (fun c11 => ?_) (fun c11 => ?_)
  · rw [c11] at h
    cases h
  · refine F_iload_n dX5_load_14 rfl ?_
    refine F_iconst (v := nI 0) dX5_load_15 rfl ?_
    refine F_sipush (v := nI 300) dX5_load_16 rfl ?_
    refine F_cS3i (v_isIn (d := d) _ _ _) dX5_load_19 rfl rfl rfl (by decide) (Nat.le_of_ble_eq_true rfl) (by omega) ?_
    refine F_if_eqB (tgt := 37) dX5_load_22 rfl (fun c22 => ?_) (fun c22 => ?_)
    · rw [c11, c22] at h
      cases h
    · refine F_aload_n dX5_load_25 rfl ?_
      refine F_getr dX5_load_26 rfl rfl (by first | assumption | rfl) rfl ?_
      refine F_iconst (v := nI 0) dX5_load_29 rfl ?_
      refine F_iload_n dX5_load_30 rfl ?_
      refine F_iaddN dX5_load_31 ?_
      refine F_ialdE (v := v) dX5_load_32 (by first | assumption | rfl) (by decide) (by omega) (by rw [Nat.zero_add]; exact hs) ?_
      refine F_iload_n dX5_load_33 rfl ?_
      refine F_icmp_ne (tgt := 39) dX5_load_34 rfl (fun c34 => ?_) (fun c34 => ?_)
      · exact absurd rfl c34
      · refine F_iconst (v := nI 0) dX5_load_37 rfl ?_
        refine F_zret dX5_load_38 rfl (by first | exact Or.inl rfl | exact Or.inr rfl | exact bI_01 _) ?_
        exact hQ

theorem m_loadC (v : Int32) {k : Nat} (hk : k < 6) (h : (inR (nI k) (nI 1) (nI 5) && inR v (nI 0) (nI 300)) = true) (hs : ¬ σ 117 k = v) : mV G mX5_load (d + 1) [.ref 116, .int (nI k), .int v] σ (some (.int (nI 1))) (upR (up σ 116 0 (nI 0)) 117 (upd (σ 117) k v)) := by
  refine mV_of fun Q hQ => ?_
  refine F_aload_n dX5_load_0 rfl ?_
  refine F_iconst (v := nI 0) dX5_load_1 rfl ?_
  refine F_put dX5_load_2 rfl rfl (by first | assumption | rfl) rfl rfl rfl rfl ?_
  refine F_iload_n dX5_load_5 rfl ?_
  refine F_iconst (v := nI 1) dX5_load_6 rfl ?_
  refine F_iconst (v := nI 5) dX5_load_7 rfl ?_
  refine F_cS3i (v_isIn (d := d) _ _ _) dX5_load_8 rfl rfl rfl (by decide) (Nat.le_of_ble_eq_true rfl) (by omega) ?_
  refine F_if_eqB (tgt := 37) dX5_load_11 rfl (fun c11 => ?_) (fun c11 => ?_)
  · rw [c11] at h
    cases h
  · refine F_iload_n dX5_load_14 rfl ?_
    refine F_iconst (v := nI 0) dX5_load_15 rfl ?_
    refine F_sipush (v := nI 300) dX5_load_16 rfl ?_
    refine F_cS3i (v_isIn (d := d) _ _ _) dX5_load_19 rfl rfl rfl (by decide) (Nat.le_of_ble_eq_true rfl) (by omega) ?_
    refine F_if_eqB (tgt := 37) dX5_load_22 rfl (fun c22 => ?_) (fun c22 => ?_)
    · rw [c11, c22] at h
      cases h
    · refine F_aload_n dX5_load_25 rfl ?_
      refine F_getr dX5_load_26 rfl rfl (by first | assumption | rfl) rfl ?_
      refine F_iconst (v := nI 0) dX5_load_29 rfl ?_
      refine F_iload_n dX5_load_30 rfl ?_
      refine F_iaddN dX5_load_31 ?_
      refine F_ialdE (v := σ 117 k) dX5_load_32 (by first | assumption | rfl) (by decide) (by omega) (by rw [Nat.zero_add]; rfl) ?_
      refine F_iload_n dX5_load_33 rfl ?_
      refine F_icmp_ne (tgt := 39) dX5_load_34 rfl (fun c34 => ?_) (fun c34 => ?_)
      · refine F_aload_n dX5_load_39 rfl ?_
        refine F_getr dX5_load_40 rfl rfl (by first | assumption | rfl) rfl ?_
        refine F_iconst (v := nI 0) dX5_load_43 rfl ?_
        refine F_iload_n dX5_load_44 rfl ?_
        refine F_iaddN dX5_load_45 ?_
        refine F_iload_n dX5_load_46 rfl ?_
        refine F_iast dX5_load_47 (by first | assumption | rfl) (by decide) (by omega) ?_
        refine F_iconst (v := nI 1) dX5_load_48 rfl ?_
        refine F_zret dX5_load_49 rfl (by first | exact Or.inl rfl | exact Or.inr rfl | exact bI_01 _) ?_
        rw [Nat.zero_add]
        exact hQ
      · exact absurd c34 hs

theorem m_setA (t v : Int32) (h : inR t (nI 0) (nI 7) = false) : mV G mX5_set (d + 1) [.ref 116, .int t, .int v] σ (some (.int (nI 0))) (up σ 116 0 (nI 0)) := by
  refine mV_of fun Q hQ => ?_
  refine F_aload_n dX5_set_0 rfl ?_
  refine F_iconst (v := nI 0) dX5_set_1 rfl ?_
  refine F_put dX5_set_2 rfl rfl (by first | assumption | rfl) rfl rfl rfl rfl ?_
  refine F_iload_n dX5_set_5 rfl ?_
  refine F_iconst (v := nI 0) dX5_set_6 rfl ?_
  refine F_bipush (v := nI 7) dX5_set_7 rfl ?_
  refine F_cS3i (v_isIn (d := d) _ _ _) dX5_set_9 rfl rfl rfl (by decide) (Nat.le_of_ble_eq_true rfl) (by omega) ?_
  refine F_if_eqB (tgt := 32) dX5_set_12 rfl (fun c12 => ?_) (fun c12 => ?_)
  · refine F_iconst (v := nI 0) dX5_set_32 rfl ?_
    refine F_zret dX5_set_33 rfl (by first | exact Or.inl rfl | exact Or.inr rfl | exact bI_01 _) ?_
    exact hQ
  · rw [c12] at h
    cases h

theorem m_setB (v : Int32) {k : Nat} (hk : k < 8) (h : inR v (mLeast.getD k 0) (mMost.getD k 0) = false) : mV G mX5_set (d + 2) [.ref 116, .int (nI k), .int v] σ (some (.int (nI 0))) (up σ 116 0 (nI 0)) := by
  refine mV_of fun Q hQ => ?_
  refine F_aload_n dX5_set_0 rfl ?_
  refine F_iconst (v := nI 0) dX5_set_1 rfl ?_
  refine F_put dX5_set_2 rfl rfl (by first | assumption | rfl) rfl rfl rfl rfl ?_
  refine F_iload_n dX5_set_5 rfl ?_
  refine F_iconst (v := nI 0) dX5_set_6 rfl ?_
  refine F_bipush (v := nI 7) dX5_set_7 rfl ?_
  refine F_cS3i (v_isIn (d := d) _ _ _) dX5_set_9 rfl rfl rfl (by decide) (Nat.le_of_ble_eq_true rfl) (by omega) ?_
  refine F_if_eqB (tgt := 32) dX5_set_12 rfl (fun c12 => ?_) (fun c12 => ?_)
  · refine F_iconst (v := nI 0) dX5_set_32 rfl ?_
    refine F_zret dX5_set_33 rfl (by first | exact Or.inl rfl | exact Or.inr rfl | exact bI_01 _) ?_
    exact hQ
  · refine F_iload_n dX5_set_15 rfl ?_
    refine F_iload_n dX5_set_16 rfl ?_
    refine F_cS2i (v_maySet (d := d) _ hk) dX5_set_17 rfl rfl rfl (by decide) (Nat.le_of_ble_eq_true rfl) (by omega) ?_
    refine F_if_eqB (tgt := 32) dX5_set_20 rfl (fun c20 => ?_) (fun c20 => ?_)
    · refine F_iconst (v := nI 0) dX5_set_32 rfl ?_
      refine F_zret dX5_set_33 rfl (by first | exact Or.inl rfl | exact Or.inr rfl | exact bI_01 _) ?_
      exact hQ
    · rw [c20] at h
      cases h

theorem m_setC (v : Int32) {k : Nat} (hk : k < 8) (h : inR v (mLeast.getD k 0) (mMost.getD k 0) = true) (hs : σ 117 (6 + k) = v) : mV G mX5_set (d + 2) [.ref 116, .int (nI k), .int v] σ (some (.int (nI 0))) (up σ 116 0 (nI 0)) := by
  refine mV_of fun Q hQ => ?_
  refine F_aload_n dX5_set_0 rfl ?_
  refine F_iconst (v := nI 0) dX5_set_1 rfl ?_
  refine F_put dX5_set_2 rfl rfl (by first | assumption | rfl) rfl rfl rfl rfl ?_
  refine F_iload_n dX5_set_5 rfl ?_
  refine F_iconst (v := nI 0) dX5_set_6 rfl ?_
  refine F_bipush (v := nI 7) dX5_set_7 rfl ?_
  refine F_cS3i (v_isIn (d := d) _ _ _) dX5_set_9 rfl rfl rfl (by decide) (Nat.le_of_ble_eq_true rfl) (by omega) ?_
  refine F_if_eqB (tgt := 32) dX5_set_12 rfl (fun c12 => ?_) (fun c12 => ?_)
  · rw [(show inR (nI k) (nI 0) (nI 7) = true by rw [inR_nI (by decide) (by decide) (by omega)]; simp; omega)] at c12
    cases c12
  · refine F_iload_n dX5_set_15 rfl ?_
    refine F_iload_n dX5_set_16 rfl ?_
    refine F_cS2i (v_maySet (d := d) _ hk) dX5_set_17 rfl rfl rfl (by decide) (Nat.le_of_ble_eq_true rfl) (by omega) ?_
    refine F_if_eqB (tgt := 32) dX5_set_20 rfl (fun c20 => ?_) (fun c20 => ?_)
    · rw [c20] at h
      cases h
    · refine F_aload_n dX5_set_23 rfl ?_
      refine F_iload_n dX5_set_24 rfl ?_
      refine F_cV1i (v_of (d := d) hk) dX5_set_25 rfl rfl (by decide) (by first | assumption | rfl) rfl rfl rfl (by decide) (Nat.le_of_ble_eq_true rfl) (by omega) ?_
      refine F_top (y := v) hs ?_
      refine F_iload_n dX5_set_28 rfl ?_
      refine F_icmp_ne (tgt := 34) dX5_set_29 rfl (fun c29 => ?_) (fun c29 => ?_)
      · exact absurd rfl c29
      · refine F_iconst (v := nI 0) dX5_set_32 rfl ?_
        refine F_zret dX5_set_33 rfl (by first | exact Or.inl rfl | exact Or.inr rfl | exact bI_01 _) ?_
        exact hQ

theorem m_setD (v : Int32) {k : Nat} (hk : k < 8) (h : inR v (mLeast.getD k 0) (mMost.getD k 0) = true) (hs : ¬ σ 117 (6 + k) = v) : mV G mX5_set (d + 2) [.ref 116, .int (nI k), .int v] σ (some (.int (nI 1))) (upR (up σ 116 0 (nI 0)) 117 (upd (σ 117) (6 + k) v)) := by
  refine mV_of fun Q hQ => ?_
  refine F_aload_n dX5_set_0 rfl ?_
  refine F_iconst (v := nI 0) dX5_set_1 rfl ?_
  refine F_put dX5_set_2 rfl rfl (by first | assumption | rfl) rfl rfl rfl rfl ?_
  refine F_iload_n dX5_set_5 rfl ?_
  refine F_iconst (v := nI 0) dX5_set_6 rfl ?_
  refine F_bipush (v := nI 7) dX5_set_7 rfl ?_
  refine F_cS3i (v_isIn (d := d) _ _ _) dX5_set_9 rfl rfl rfl (by decide) (Nat.le_of_ble_eq_true rfl) (by omega) ?_
  refine F_if_eqB (tgt := 32) dX5_set_12 rfl (fun c12 => ?_) (fun c12 => ?_)
  · rw [(show inR (nI k) (nI 0) (nI 7) = true by rw [inR_nI (by decide) (by decide) (by omega)]; simp; omega)] at c12
    cases c12
  · refine F_iload_n dX5_set_15 rfl ?_
    refine F_iload_n dX5_set_16 rfl ?_
    refine F_cS2i (v_maySet (d := d) _ hk) dX5_set_17 rfl rfl rfl (by decide) (Nat.le_of_ble_eq_true rfl) (by omega) ?_
    refine F_if_eqB (tgt := 32) dX5_set_20 rfl (fun c20 => ?_) (fun c20 => ?_)
    · rw [c20] at h
      cases h
    · refine F_aload_n dX5_set_23 rfl ?_
      refine F_iload_n dX5_set_24 rfl ?_
      refine F_cV1i (v_of (d := d) hk) dX5_set_25 rfl rfl (by decide) (by first | assumption | rfl) rfl rfl rfl (by decide) (Nat.le_of_ble_eq_true rfl) (by omega) ?_
      refine F_iload_n dX5_set_28 rfl ?_
      refine F_icmp_ne (tgt := 34) dX5_set_29 rfl (fun c29 => ?_) (fun c29 => ?_)
      · refine F_aload_n dX5_set_34 rfl ?_
        refine F_getr dX5_set_35 rfl rfl (by first | assumption | rfl) rfl ?_
        refine F_bipush (v := nI 6) dX5_set_38 rfl ?_
        refine F_iload_n dX5_set_40 rfl ?_
        refine F_iaddN dX5_set_41 ?_
        refine F_iload_n dX5_set_42 rfl ?_
        refine F_iast dX5_set_43 (by first | assumption | rfl) (by decide) (by omega) ?_
        refine F_iconst (v := nI 1) dX5_set_44 rfl ?_
        refine F_zret dX5_set_45 rfl (by first | exact Or.inl rfl | exact Or.inr rfl | exact bI_01 _) ?_
        exact hQ
      · exact absurd c29 hs

theorem m_campA (a b : Int32) (h : (dB a && dB b && decide (a ≤ b)) = false) : mV G mX5_camp (d + 2) [.ref 116, .int a, .int b] σ (some (.int (-1))) (up σ 116 0 (nI 0)) := by
  refine mV_of fun Q hQ => ?_
  refine F_aload_n dX5_camp_0 rfl ?_
  refine F_iconst (v := nI 0) dX5_camp_1 rfl ?_
  refine F_put dX5_camp_2 rfl rfl (by first | assumption | rfl) rfl rfl rfl rfl ?_
  refine F_iload_n dX5_camp_5 rfl ?_
  refine F_cS1i (v_isDay (d := d) _) dX5_camp_6 rfl rfl rfl (by decide) (Nat.le_of_ble_eq_true rfl) (by omega) ?_
  refine F_if_eqB (tgt := 24) dX5_camp_9 rfl (fun c9 => ?_) (fun c9 => ?_)
  · refine F_iconst (v := (-1)) dX5_camp_24 rfl ?_
    refine F_iret dX5_camp_25 rfl ?_
    exact hQ
  · refine F_iload_n dX5_camp_12 rfl ?_
    refine F_cS1i (v_isDay (d := d) _) dX5_camp_13 rfl rfl rfl (by decide) (Nat.le_of_ble_eq_true rfl) (by omega) ?_
    refine F_if_eqB (tgt := 24) dX5_camp_16 rfl (fun c16 => ?_) (fun c16 => ?_)
    · refine F_iconst (v := (-1)) dX5_camp_24 rfl ?_
      refine F_iret dX5_camp_25 rfl ?_
      exact hQ
    · refine F_iload_n dX5_camp_19 rfl ?_
      refine F_iload_n dX5_camp_20 rfl ?_
      refine F_icmp_ge (tgt := 26) dX5_camp_21 rfl (fun c21 => ?_) (fun c21 => ?_)
      · rw [c9, c16, decide_eq_true c21] at h
        cases h
      · refine F_iconst (v := (-1)) dX5_camp_24 rfl ?_
        refine F_iret dX5_camp_25 rfl ?_
        exact hQ

theorem m_campB (a b : Int32) (h : (dB a && dB b && decide (a ≤ b)) = true) (hn : σ 117 14 = nI 4) : mV G mX5_camp (d + 2) [.ref 116, .int a, .int b] σ (some (.int (-2))) (up σ 116 0 (nI 0)) := by
  refine mV_of fun Q hQ => ?_
  refine F_aload_n dX5_camp_0 rfl ?_
  refine F_iconst (v := nI 0) dX5_camp_1 rfl ?_
  refine F_put dX5_camp_2 rfl rfl (by first | assumption | rfl) rfl rfl rfl rfl ?_
  refine F_iload_n dX5_camp_5 rfl ?_
  refine F_cS1i (v_isDay (d := d) _) dX5_camp_6 rfl rfl rfl (by decide) (Nat.le_of_ble_eq_true rfl) (by omega) ?_
  refine F_if_eqB (tgt := 24) dX5_camp_9 rfl (fun c9 => ?_) (fun c9 => ?_)
  · rw [c9] at h
    cases h
  · refine F_iload_n dX5_camp_12 rfl ?_
    refine F_cS1i (v_isDay (d := d) _) dX5_camp_13 rfl rfl rfl (by decide) (Nat.le_of_ble_eq_true rfl) (by omega) ?_
    refine F_if_eqB (tgt := 24) dX5_camp_16 rfl (fun c16 => ?_) (fun c16 => ?_)
    · rw [c9, c16] at h
      cases h
    · refine F_iload_n dX5_camp_19 rfl ?_
      refine F_iload_n dX5_camp_20 rfl ?_
      refine F_icmp_ge (tgt := 26) dX5_camp_21 rfl (fun c21 => ?_) (fun c21 => ?_)
      · refine F_aload_n dX5_camp_26 rfl ?_
        refine F_cV0i (v_camps (d := d)) dX5_camp_27 rfl rfl (by decide) (by first | assumption | rfl) rfl rfl rfl (by decide) (Nat.le_of_ble_eq_true rfl) (by omega) ?_
        refine F_top (y := nI 4) hn ?_
        refine F_iconst (v := nI 4) dX5_camp_30 rfl ?_
        refine F_icmp_neN (tgt := 37) dX5_camp_31 rfl (by omega) (by omega) (fun c31 => ?_) (fun c31 => ?_)
        · exact absurd rfl c31
        · refine F_bipush (v := (-2)) dX5_camp_34 rfl ?_
          refine F_iret dX5_camp_36 rfl ?_
          exact hQ
      · rw [decide_eq_false c21, Bool.and_false] at h
        cases h

theorem m_campC (a b : Int32) (h : (dB a && dB b && decide (a ≤ b)) = true) {n k : Nat} (hn : σ 117 14 = nI n) (h4 : n < 4) (hk : σ 116 4 = nI k) (hk8 : k ≤ 8) : mV G mX5_camp (d + 2) [.ref 116, .int a, .int b] σ (some (.int (nI n))) (upR (up (upR (up σ 116 0 (nI 0)) 118 (keptF k (σ 118) (σ 117))) 116 4 (nI (min k 7 + 1))) 117 (campComesF (σ 117) n a b)) := by
  refine mV_of fun Q hQ => ?_
  refine F_aload_n dX5_camp_0 rfl ?_
  refine F_iconst (v := nI 0) dX5_camp_1 rfl ?_
  refine F_put dX5_camp_2 rfl rfl (by first | assumption | rfl) rfl rfl rfl rfl ?_
  refine F_iload_n dX5_camp_5 rfl ?_
  refine F_cS1i (v_isDay (d := d) _) dX5_camp_6 rfl rfl rfl (by decide) (Nat.le_of_ble_eq_true rfl) (by omega) ?_
  refine F_if_eqB (tgt := 24) dX5_camp_9 rfl (fun c9 => ?_) (fun c9 => ?_)
  · rw [c9] at h
    cases h
  · refine F_iload_n dX5_camp_12 rfl ?_
    refine F_cS1i (v_isDay (d := d) _) dX5_camp_13 rfl rfl rfl (by decide) (Nat.le_of_ble_eq_true rfl) (by omega) ?_
    refine F_if_eqB (tgt := 24) dX5_camp_16 rfl (fun c16 => ?_) (fun c16 => ?_)
    · rw [c9, c16] at h
      cases h
    · refine F_iload_n dX5_camp_19 rfl ?_
      refine F_iload_n dX5_camp_20 rfl ?_
      refine F_icmp_ge (tgt := 26) dX5_camp_21 rfl (fun c21 => ?_) (fun c21 => ?_)
      · refine F_aload_n dX5_camp_26 rfl ?_
        refine F_cV0i (v_camps (d := d)) dX5_camp_27 rfl rfl (by decide) (by first | assumption | rfl) rfl rfl rfl (by decide) (Nat.le_of_ble_eq_true rfl) (by omega) ?_
        refine F_top (y := nI n) hn ?_
        refine F_iconst (v := nI 4) dX5_camp_30 rfl ?_
        refine F_icmp_neN (tgt := 37) dX5_camp_31 rfl (by omega) (by omega) (fun c31 => ?_) (fun c31 => ?_)
        · refine F_aload_n dX5_camp_37 rfl ?_
          refine F_aload_n dX5_camp_38 rfl ?_
          refine F_getr dX5_camp_39 rfl rfl (by first | assumption | rfl) rfl ?_
          refine F_cV_r_v (v_keeps (d := d) (r := 117) rfl (by decide) (by decide) hk hk8) dX5_camp_42 rfl rfl (by decide) (by first | assumption | rfl) rfl rfl rfl (by decide) (Nat.le_of_ble_eq_true rfl) (by omega) ?_
          refine F_aload_n dX5_camp_45 rfl ?_
          refine F_iload_n dX5_camp_46 rfl ?_
          refine F_iload_n dX5_camp_47 rfl ?_
          refine F_cV2v (v_campComes (d := d) _ _ hn h4) dX5_camp_48 rfl rfl (by decide) (by first | assumption | rfl) rfl rfl rfl (by decide) (Nat.le_of_ble_eq_true rfl) (by omega) ?_
          refine F_aload_n dX5_camp_51 rfl ?_
          refine F_cV0i (v_camps (d := d)) dX5_camp_52 rfl rfl (by decide) (by first | assumption | rfl) rfl rfl rfl (by decide) (Nat.le_of_ble_eq_true rfl) (by omega) ?_
          refine F_top (y := nI (n + 1)) rfl ?_
          refine F_iconst (v := nI 1) dX5_camp_55 rfl ?_
          refine F_isubN dX5_camp_56 (by omega) ?_
          refine F_iret dX5_camp_57 rfl ?_
          exact hQ
        · exact absurd c31 (by omega)
      · rw [decide_eq_false c21, Bool.and_false] at h
        cases h

/-- the row without a camp -/
def strikesF (f : Nat → Int32) (c n : Nat) : Nat → Int32 := upd (va_cpy f f (17 + 2 * c) (15 + 2 * c) (2 * (n - 1 - c))) 14 (nI (n - 1))
theorem l_strikes {c n : Nat} (hn : σ 117 14 = nI n) (hc : c < n) (h4 : n ≤ 4) {Q : Option Value → mS → Prop} (hk : mF G mX5_strikes (d + 1) 42 [some (.ref 116), some (.int (nI c)), some (.int (nI (15 + 2 * c + 2 * (n - 1 - c))))] [] (upR σ 117 (va_cpy (σ 117) (σ 117) (17 + 2 * c) (15 + 2 * c) (2 * (n - 1 - c)))) Q) :
    ∀ e, e ≤ 2 * (n - 1 - c) → mF G mX5_strikes (d + 1) 7 [some (.ref 116), some (.int (nI c)), some (.int (nI (15 + 2 * c + e)))] [] (upR σ 117 (va_cpy (σ 117) (σ 117) (17 + 2 * c) (15 + 2 * c) e)) Q := by
  refine loopUp (2 * (n - 1 - c)) (fun e he ih => ?_)
  refine F_iload_n dX5_strikes_7 rfl ?_
  refine F_bipush (v := nI 15) dX5_strikes_8 rfl ?_
  refine F_iconst (v := nI 2) dX5_strikes_10 rfl ?_
  refine F_aload_n dX5_strikes_11 rfl ?_
  refine F_cV0i (v_camps (d := d)) dX5_strikes_12 rfl rfl (by decide) (by first | assumption | rfl) rfl rfl rfl (by decide) (Nat.le_of_ble_eq_true rfl) (by omega) ?_
  refine F_top (y := nI n) (by rw [upR_s]; simp only [va_cpy]; rw [if_neg (by omega)]; exact hn) ?_
  refine F_imulN dX5_strikes_15 ?_
  refine F_iaddN dX5_strikes_16 ?_
  refine F_iconst (v := nI 2) dX5_strikes_17 rfl ?_
  refine F_isubN dX5_strikes_18 (by omega) ?_
  refine F_icmp_geN (tgt := 42) dX5_strikes_19 rfl (by omega) (by omega) (fun c19 => ?_) (fun c19 => ?_)
  · have : e = 2 * (n - 1 - c) := by omega
    subst this
    exact hk
  · refine F_aload_n dX5_strikes_22 rfl ?_
    refine F_getr dX5_strikes_23 rfl rfl (by first | assumption | rfl) rfl ?_
    refine F_iload_n dX5_strikes_26 rfl ?_
    refine F_aload_n dX5_strikes_27 rfl ?_
    refine F_getr dX5_strikes_28 rfl rfl (by first | assumption | rfl) rfl ?_
    refine F_iload_n dX5_strikes_31 rfl ?_
    refine F_iconst (v := nI 2) dX5_strikes_32 rfl ?_
    refine F_iaddN dX5_strikes_33 ?_
    refine F_ialdE (v := σ 117 (17 + 2 * c + e)) dX5_strikes_34 (by first | assumption | rfl) (by decide) (by omega) (by rw [upR_s]; simp only [va_cpy]; rw [if_neg (by omega)]; congr 1; omega) ?_
    refine F_iast dX5_strikes_35 (by first | assumption | rfl) (by decide) (by omega) ?_
    refine F_iincN dX5_strikes_36 rfl ?_
    refine F_goto (tgt := 7) dX5_strikes_39 rfl ?_
    refine F_sg (up_cpy _ _ _ _ rfl rfl) ?_
    exact ih (by omega)

theorem v_strikes {c n : Nat} (hn : σ 117 14 = nI n) (hc : c < n) (h4 : n ≤ 4) : mV G mX5_strikes (d + 1) [.ref 116, .int (nI c)] σ none (upR σ 117 (strikesF (σ 117) c n)) := by
  refine mV_of fun Q hQ => ?_
  refine F_bipush (v := nI 15) dX5_strikes_0 rfl ?_
  refine F_iconst (v := nI 2) dX5_strikes_2 rfl ?_
  refine F_iload_n dX5_strikes_3 rfl ?_
  refine F_imulN dX5_strikes_4 ?_
  refine F_iaddN dX5_strikes_5 ?_
  refine F_istore_n dX5_strikes_6 (Nat.le_of_ble_eq_true rfl) ?_
  refine F_sg (cpy_0 _ 117 (σ 117) (17 + 2 * c) (15 + 2 * c)).symm ?_
  refine l_strikes hn hc h4 ?_ 0 (by omega)
  refine F_aload_n dX5_strikes_42 rfl ?_
  refine F_getr dX5_strikes_43 rfl rfl (by first | assumption | rfl) rfl ?_
  refine F_bipush (v := nI 14) dX5_strikes_46 rfl ?_
  refine F_dup2 dX5_strikes_48 rfl rfl ?_
  refine F_ialdE (v := nI n) dX5_strikes_49 (by first | assumption | rfl) (by decide) (by omega) (by rw [upR_s]; simp only [va_cpy]; rw [if_neg (by omega)]; exact hn) ?_
  refine F_iconst (v := nI 1) dX5_strikes_50 rfl ?_
  refine F_isubN dX5_strikes_51 (by omega) ?_
  refine F_iast dX5_strikes_52 (by first | assumption | rfl) (by decide) (by omega) ?_
  refine F_vret dX5_strikes_53 rfl ?_
  refine Qn hQ ?_
  rw [up_upR]
  rfl

theorem m_strikeA (c : Int32) {n : Nat} (hn : σ 117 14 = nI n) (h4 : n ≤ 4) (h : grB (σ 117 14) c = false) : mV G mX5_strike (d + 1) [.ref 116, .int c] σ (some (.int (-1))) (up σ 116 0 (nI 0)) := by
  refine mV_of fun Q hQ => ?_
  refine F_aload_n dX5_strike_0 rfl ?_
  refine F_iconst (v := nI 0) dX5_strike_1 rfl ?_
  refine F_put dX5_strike_2 rfl rfl (by first | assumption | rfl) rfl rfl rfl rfl ?_
  refine F_iload_n dX5_strike_5 rfl ?_
  refine F_iconst (v := nI 0) dX5_strike_6 rfl ?_
  refine F_aload_n dX5_strike_7 rfl ?_
  refine F_cV0i (v_camps (d := d)) dX5_strike_8 rfl rfl (by decide) (by first | assumption | rfl) rfl rfl rfl (by decide) (Nat.le_of_ble_eq_true rfl) (by omega) ?_
  refine F_top (y := nI n) hn ?_
  refine F_iconst (v := nI 1) dX5_strike_11 rfl ?_
  refine F_isub dX5_strike_12 ?_
  refine F_cS3i (v_isIn (d := d) _ _ _) dX5_strike_13 rfl rfl rfl (by decide) (Nat.le_of_ble_eq_true rfl) (by omega) ?_
  refine F_if_neB (tgt := 21) dX5_strike_16 rfl (fun c16 => ?_) (fun c16 => ?_)
  · rw [inR_grp c (by omega), ← hn, h] at c16
    cases c16
  · refine F_iconst (v := (-1)) dX5_strike_19 rfl ?_
    refine F_iret dX5_strike_20 rfl ?_
    exact hQ

theorem m_strikeB {c n k : Nat} (hn : σ 117 14 = nI n) (hc : c < n) (h4 : n ≤ 4) (hk : σ 116 4 = nI k) (hk8 : k ≤ 8) : mV G mX5_strike (d + 2) [.ref 116, .int (nI c)] σ (some (.int (nI (n - 1)))) (upR (up (upR (up σ 116 0 (nI 0)) 118 (keptF k (σ 118) (σ 117))) 116 4 (nI (min k 7 + 1))) 117 (strikesF (σ 117) c n)) := by
  refine mV_of fun Q hQ => ?_
  refine F_aload_n dX5_strike_0 rfl ?_
  refine F_iconst (v := nI 0) dX5_strike_1 rfl ?_
  refine F_put dX5_strike_2 rfl rfl (by first | assumption | rfl) rfl rfl rfl rfl ?_
  refine F_iload_n dX5_strike_5 rfl ?_
  refine F_iconst (v := nI 0) dX5_strike_6 rfl ?_
  refine F_aload_n dX5_strike_7 rfl ?_
  refine F_cV0i (v_camps (d := d)) dX5_strike_8 rfl rfl (by decide) (by first | assumption | rfl) rfl rfl rfl (by decide) (Nat.le_of_ble_eq_true rfl) (by omega) ?_
  refine F_top (y := nI n) hn ?_
  refine F_iconst (v := nI 1) dX5_strike_11 rfl ?_
  refine F_isub dX5_strike_12 ?_
  refine F_cS3i (v_isIn (d := d) _ _ _) dX5_strike_13 rfl rfl rfl (by decide) (Nat.le_of_ble_eq_true rfl) (by omega) ?_
  refine F_if_neB (tgt := 21) dX5_strike_16 rfl (fun c16 => ?_) (fun c16 => ?_)
  · refine F_aload_n dX5_strike_21 rfl ?_
    refine F_aload_n dX5_strike_22 rfl ?_
    refine F_getr dX5_strike_23 rfl rfl (by first | assumption | rfl) rfl ?_
    refine F_cV_r_v (v_keeps (d := d) (r := 117) rfl (by decide) (by decide) hk hk8) dX5_strike_26 rfl rfl (by decide) (by first | assumption | rfl) rfl rfl rfl (by decide) (Nat.le_of_ble_eq_true rfl) (by omega) ?_
    refine F_aload_n dX5_strike_29 rfl ?_
    refine F_iload_n dX5_strike_30 rfl ?_
    refine F_cV1v (v_strikes (d := d) hn hc h4) dX5_strike_31 rfl rfl (by decide) (by first | assumption | rfl) rfl rfl rfl (by decide) (Nat.le_of_ble_eq_true rfl) (by omega) ?_
    refine F_aload_n dX5_strike_34 rfl ?_
    refine F_cV0i (v_camps (d := d)) dX5_strike_35 rfl rfl (by decide) (by first | assumption | rfl) rfl rfl rfl (by decide) (Nat.le_of_ble_eq_true rfl) (by omega) ?_
    refine F_iret dX5_strike_38 rfl ?_
    exact hQ
  · rw [inR_grp _ (by omega), grB_nI hc (by omega)] at c16
    cases c16

theorem l_undo {k : Nat} (hk7 : k ≤ 7) (hk : σ 116 4 = nI k) {Q : Option Value → mS → Prop} (hx : mF G mX5_undo d 60 [some (.ref 116), some (.int (nI 460))] [] (upR σ 117 (va_cpy (σ 118) (σ 117) (460 * k) 0 460)) Q) :
    ∀ e, e ≤ 460 → mF G mX5_undo d 26 [some (.ref 116), some (.int (nI e))] [] (upR σ 117 (va_cpy (σ 118) (σ 117) (460 * k) 0 e)) Q := by
  refine loopUp 460 (fun e he ih => ?_)
  refine F_iload_n dX5_undo_26 rfl ?_
  refine F_sipush (v := nI 460) dX5_undo_27 rfl ?_
  refine F_icmp_geN (tgt := 60) dX5_undo_30 rfl (by omega) (by omega) (fun c30 => ?_) (fun c30 => ?_)
  · have : e = 460 := by omega
    subst this
    exact hx
  · refine F_aload_n dX5_undo_33 rfl ?_
    refine F_getr dX5_undo_34 rfl rfl (by first | assumption | rfl) rfl ?_
    refine F_iload_n dX5_undo_37 rfl ?_
    refine F_aload_n dX5_undo_38 rfl ?_
    refine F_getr dX5_undo_39 rfl rfl (by first | assumption | rfl) rfl ?_
    refine F_sipush (v := nI 460) dX5_undo_42 rfl ?_
    refine F_aload_n dX5_undo_45 rfl ?_
    refine F_getE (v := nI k) dX5_undo_46 rfl rfl (by first | assumption | rfl) rfl hk ?_
    refine F_imulN dX5_undo_49 ?_
    refine F_iload_n dX5_undo_50 rfl ?_
    refine F_iaddN dX5_undo_51 ?_
    refine F_iald dX5_undo_52 (by first | assumption | rfl) (by decide) (by omega) ?_
    refine F_iast dX5_undo_53 (by first | assumption | rfl) (by decide) (by omega) ?_
    refine F_iincN dX5_undo_54 rfl ?_
    refine F_goto (tgt := 26) dX5_undo_57 rfl ?_
    refine F_sg (up_cpy _ _ _ _ (Nat.zero_add e).symm rfl) ?_
    exact ih (by omega)

theorem m_undoA (hk : σ 116 4 = nI 0) : mV G mX5_undo d [.ref 116] σ (some (.int (-1))) (up σ 116 0 (nI 0)) := by
  refine mV_of fun Q hQ => ?_
  refine F_aload_n dX5_undo_0 rfl ?_
  refine F_iconst (v := nI 0) dX5_undo_1 rfl ?_
  refine F_put dX5_undo_2 rfl rfl (by first | assumption | rfl) rfl rfl rfl rfl ?_
  refine F_aload_n dX5_undo_5 rfl ?_
  refine F_getE (v := nI 0) dX5_undo_6 rfl rfl (by first | assumption | rfl) rfl hk ?_
  refine F_if_neN (tgt := 14) dX5_undo_9 rfl (by omega) (fun c9 => ?_) (fun c9 => ?_)
  · exact absurd rfl c9
  · refine F_iconst (v := (-1)) dX5_undo_12 rfl ?_
    refine F_iret dX5_undo_13 rfl ?_
    exact hQ

theorem m_undoB {k : Nat} (hk : σ 116 4 = nI (k + 1)) (hk7 : k ≤ 7) : mV G mX5_undo d [.ref 116] σ (some (.int (nI k))) (upR (up (up σ 116 0 (nI 0)) 116 4 (nI k)) 117 (va_cpy (σ 118) (σ 117) (460 * k) 0 460)) := by
  refine mV_of fun Q hQ => ?_
  refine F_aload_n dX5_undo_0 rfl ?_
  refine F_iconst (v := nI 0) dX5_undo_1 rfl ?_
  refine F_put dX5_undo_2 rfl rfl (by first | assumption | rfl) rfl rfl rfl rfl ?_
  refine F_aload_n dX5_undo_5 rfl ?_
  refine F_getE (v := nI (k + 1)) dX5_undo_6 rfl rfl (by first | assumption | rfl) rfl hk ?_
  refine F_if_neN (tgt := 14) dX5_undo_9 rfl (by omega) (fun c9 => ?_) (fun c9 => ?_)
  · refine F_aload_n dX5_undo_14 rfl ?_
    refine F_dup dX5_undo_15 rfl ?_
    refine F_getE (v := nI (k + 1)) dX5_undo_16 rfl rfl (by first | assumption | rfl) rfl hk ?_
    refine F_iconst (v := nI 1) dX5_undo_19 rfl ?_
    refine F_isubN dX5_undo_20 (by omega) ?_
    refine F_put dX5_undo_21 rfl rfl (by first | assumption | rfl) rfl rfl rfl rfl ?_
    refine F_iconst (v := nI 0) dX5_undo_24 rfl ?_
    refine F_istore_n dX5_undo_25 (Nat.le_of_ble_eq_true rfl) ?_
    refine F_sg (cpy_0 _ 117 (σ 118) (460 * k) 0).symm ?_
    refine l_undo hk7 (up_s _ _ _ _) ?_ 0 (by omega)
    refine F_aload_n dX5_undo_60 rfl ?_
    refine F_getE (v := nI k) dX5_undo_61 rfl rfl (by first | assumption | rfl) rfl rfl ?_
    refine F_iret dX5_undo_64 rfl ?_
    exact hQ
  · exact absurd c9 (by omega)

end MT2
