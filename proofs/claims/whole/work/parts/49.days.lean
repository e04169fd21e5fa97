/-! ===== days on both sides ===== -/
theorem dX2_readDays_0 : decode cX2_readDays 0 = .ok (.aload_n 0, 1) := by decide +kernel
theorem dX2_readDays_1 : decode cX2_readDays 1 = .ok (.invokevirtual 43, 3) := by decide +kernel
theorem dX2_readDays_4 : decode cX2_readDays 4 = .ok (.bipush 12, 2) := by decide +kernel
theorem dX2_readDays_6 : decode cX2_readDays 6 = .ok (.if_icmp .ne 13, 3) := by decide +kernel
theorem dX2_readDays_9 : decode cX2_readDays 9 = .ok (.aload_n 0, 1) := by decide +kernel
theorem dX2_readDays_10 : decode cX2_readDays 10 = .ok (.iconst 1, 1) := by decide +kernel
theorem dX2_readDays_11 : decode cX2_readDays 11 = .ok (.bipush 70, 2) := by decide +kernel
theorem dX2_readDays_13 : decode cX2_readDays 13 = .ok (.invokevirtual 79, 3) := by decide +kernel
theorem dX2_readDays_16 : decode cX2_readDays 16 = .ok (.goto 4, 3) := by decide +kernel
theorem dX2_readDays_19 : decode cX2_readDays 19 = .ok (.iconst 1, 1) := by decide +kernel
theorem dX2_readDays_20 : decode cX2_readDays 20 = .ok (.istore_n 1, 1) := by decide +kernel
theorem dX2_readDays_21 : decode cX2_readDays 21 = .ok (.iload_n 1, 1) := by decide +kernel
theorem dX2_readDays_22 : decode cX2_readDays 22 = .ok (.iconst (-1), 1) := by decide +kernel
theorem dX2_readDays_23 : decode cX2_readDays 23 = .ok (.if_icmp .ne 5, 3) := by decide +kernel
theorem dX2_readDays_26 : decode cX2_readDays 26 = .ok (.iconst 0, 1) := by decide +kernel
theorem dX2_readDays_27 : decode cX2_readDays 27 = .ok (.ireturn, 1) := by decide +kernel
theorem dX2_readDays_28 : decode cX2_readDays 28 = .ok (.aload_n 0, 1) := by decide +kernel
theorem dX2_readDays_29 : decode cX2_readDays 29 = .ok (.invokevirtual 43, 3) := by decide +kernel
theorem dX2_readDays_32 : decode cX2_readDays 32 = .ok (.istore_n 2, 1) := by decide +kernel
theorem dX2_readDays_33 : decode cX2_readDays 33 = .ok (.iload_n 2, 1) := by decide +kernel
theorem dX2_readDays_34 : decode cX2_readDays 34 = .ok (.bipush 6, 2) := by decide +kernel
theorem dX2_readDays_36 : decode cX2_readDays 36 = .ok (.if_icmp .lt 9, 3) := by decide +kernel
theorem dX2_readDays_39 : decode cX2_readDays 39 = .ok (.aload_n 0, 1) := by decide +kernel
theorem dX2_readDays_40 : decode cX2_readDays 40 = .ok (.iconst 1, 1) := by decide +kernel
theorem dX2_readDays_41 : decode cX2_readDays 41 = .ok (.invokevirtual 70, 3) := by decide +kernel
theorem dX2_readDays_44 : decode cX2_readDays 44 = .ok (.ireturn, 1) := by decide +kernel
theorem dX2_readDays_45 : decode cX2_readDays 45 = .ok (.aload_n 0, 1) := by decide +kernel
theorem dX2_readDays_46 : decode cX2_readDays 46 = .ok (.getfield 108, 3) := by decide +kernel
theorem dX2_readDays_49 : decode cX2_readDays 49 = .ok (.iload_n 1, 1) := by decide +kernel
theorem dX2_readDays_50 : decode cX2_readDays 50 = .ok (.iadd, 1) := by decide +kernel
theorem dX2_readDays_51 : decode cX2_readDays 51 = .ok (.bipush 70, 2) := by decide +kernel
theorem dX2_readDays_53 : decode cX2_readDays 53 = .ok (.if_icmp .le 9, 3) := by decide +kernel
theorem dX2_readDays_56 : decode cX2_readDays 56 = .ok (.aload_n 0, 1) := by decide +kernel
theorem dX2_readDays_57 : decode cX2_readDays 57 = .ok (.iconst 4, 1) := by decide +kernel
theorem dX2_readDays_58 : decode cX2_readDays 58 = .ok (.invokevirtual 70, 3) := by decide +kernel
theorem dX2_readDays_61 : decode cX2_readDays 61 = .ok (.ireturn, 1) := by decide +kernel
theorem dX2_readDays_62 : decode cX2_readDays 62 = .ok (.aload_n 0, 1) := by decide +kernel
theorem dX2_readDays_63 : decode cX2_readDays 63 = .ok (.getfield 21, 3) := by decide +kernel
theorem dX2_readDays_66 : decode cX2_readDays 66 = .ok (.aload_n 0, 1) := by decide +kernel
theorem dX2_readDays_67 : decode cX2_readDays 67 = .ok (.getfield 105, 3) := by decide +kernel
theorem dX2_readDays_70 : decode cX2_readDays 70 = .ok (.aload_n 0, 1) := by decide +kernel
theorem dX2_readDays_71 : decode cX2_readDays 71 = .ok (.getfield 108, 3) := by decide +kernel
theorem dX2_readDays_74 : decode cX2_readDays 74 = .ok (.aload_n 0, 1) := by decide +kernel
theorem dX2_readDays_75 : decode cX2_readDays 75 = .ok (.getfield 108, 3) := by decide +kernel
theorem dX2_readDays_78 : decode cX2_readDays 78 = .ok (.iload_n 1, 1) := by decide +kernel
theorem dX2_readDays_79 : decode cX2_readDays 79 = .ok (.iadd, 1) := by decide +kernel
theorem dX2_readDays_80 : decode cX2_readDays 80 = .ok (.iconst 1, 1) := by decide +kernel
theorem dX2_readDays_81 : decode cX2_readDays 81 = .ok (.isub, 1) := by decide +kernel
theorem dX2_readDays_82 : decode cX2_readDays 82 = .ok (.iload_n 2, 1) := by decide +kernel
theorem dX2_readDays_83 : decode cX2_readDays 83 = .ok (.invokevirtual 127, 3) := by decide +kernel
theorem dX2_readDays_86 : decode cX2_readDays 86 = .ok (.aload_n 0, 1) := by decide +kernel
theorem dX2_readDays_87 : decode cX2_readDays 87 = .ok (.dup, 1) := by decide +kernel
theorem dX2_readDays_88 : decode cX2_readDays 88 = .ok (.getfield 108, 3) := by decide +kernel
theorem dX2_readDays_91 : decode cX2_readDays 91 = .ok (.iload_n 1, 1) := by decide +kernel
theorem dX2_readDays_92 : decode cX2_readDays 92 = .ok (.iadd, 1) := by decide +kernel
theorem dX2_readDays_93 : decode cX2_readDays 93 = .ok (.putfield 108, 3) := by decide +kernel
theorem dX2_readDays_96 : decode cX2_readDays 96 = .ok (.aload_n 0, 1) := by decide +kernel
theorem dX2_readDays_97 : decode cX2_readDays 97 = .ok (.invokevirtual 76, 3) := by decide +kernel
theorem dX2_readDays_100 : decode cX2_readDays 100 = .ok (.iconst 1, 1) := by decide +kernel
theorem dX2_readDays_101 : decode cX2_readDays 101 = .ok (.ireturn, 1) := by decide +kernel

section DYS
variable {G : mG} {b : Nat → Int32} {L s i n c : Nat} {f0 : Nat → Int32} {g d0 day o : Nat} {K : Nat → Int32} {ad tm : Nat → Nat} {σB : mS}
theorem LM.isnum (h4 : L ≤ 400) (hby : ∀ k, k < L → isByte (b k)) {d : Nat} {σM : mS} {p : Nat} {f : Nat → Int32} (h : LM σM b L p f) (ht : tkn b L p = 12) : mV G mX5_isNumber (d + 1) [.ref 116] σM (some (.int (bI true))) (up σM 116 9 (nI p)) := by
  obtain ⟨m1, ⟨a, m2, m3, m4⟩, m5, m6, m7⟩ := h
  have hv := v_isNumber (G := G) (d := d) m1 h4 m2 m3 (by rw [m7]; exact hby)
  obtain ⟨t1, t2, t3⟩ := tkn_12 ht
  rw [m7, ← m4, decide_eq_true t1, t3] at hv
  exact hv
theorem tkn_lt (b : Nat → Int32) (L p : Nat) : tkn b L p < 18 := by
  by_cases h : p < L
  · exact (tkn_16 h).2
  · unfold tkn
    rw [if_neg h]
    decide
theorem kdV_a {v : Nat} (h : 6 ≤ wtok v) : kdV v = -1 := if_neg (by omega)
theorem kdV_b {v T : Nat} (h : wtok v = T) (hT : T < 6) : kdV v = nI T := by
  unfold kdV
  rw [h, if_pos hT]

theorem i_days0 (h4 : L ≤ 400) (hby : ∀ k, k < L → isByte (b k)) (hP : PB σB b L s i f0 g d0 day o K ad tm n c) (ht : tkn b L (tps b L i) = 12) (hbad : inR (nI (tkv b L (tps b L i))) (nI 1) (nI 70) = false) : ISim G mX2_readDays mX5_item b L s i f0 g d0 day o K ad tm n c σB := by
  obtain ⟨hB, hK, p4, p5, p6, p7, p8, p9, p10, p11, p12⟩ := id hP
  obtain ⟨h1, h2, h3, h5, h6⟩ := id hB
  have hp4 : tps b L i ≤ 400 := Nat.le_trans (tps_le b L i) h4
  obtain ⟨-, hr, lt1, hN, hB2, hNM⟩ | ⟨k, k0, k3, ke, kn, hN, hNM⟩ := num (G := G) (d := 6) h4 hby hB (nI 1) (nI 70)
  · rw [hbad] at hr
    cases hr
  refine ⟨false, up σB 13 3 (nI (k + 8 * tps b L i)), mV_of fun Q hQ => ?_, BFr.t _ _ _, Or.inr ⟨rfl, k + 8 * tps b L i, by omega, by omega, rfl, fun σM hM hat => ?_⟩⟩
  · refine F_aload_n dX2_readDays_0 rfl ?_
    refine F_cV0i (v_token (d := 7) h1 h2 h3) dX2_readDays_1 rfl rfl (by decide) rfl rfl rfl rfl (by decide) (Nat.le_of_ble_eq_true rfl) (by omega) ?_
    refine F_bipush (v := nI 12) dX2_readDays_4 rfl ?_
    refine F_icmp_neN (tgt := 19) dX2_readDays_6 rfl (by omega) (by omega) (fun c6 => ?_) (fun c6 => ?_)
    · exact absurd ht c6
    · refine F_aload_n dX2_readDays_9 rfl ?_
      refine F_iconst (v := nI 1) dX2_readDays_10 rfl ?_
      refine F_bipush (v := nI 70) dX2_readDays_11 rfl ?_
      refine F_cV2i (hN) dX2_readDays_13 rfl rfl (by decide) rfl rfl rfl rfl (by decide) (Nat.le_of_ble_eq_true rfl) (by omega) ?_
      refine F_goto (tgt := 20) dX2_readDays_16 rfl ?_
      refine F_istore_n dX2_readDays_20 (Nat.le_of_ble_eq_true rfl) ?_
      refine F_iload_n dX2_readDays_21 rfl ?_
      refine F_iconst (v := (-1)) dX2_readDays_22 rfl ?_
      refine F_icmp_ne (tgt := 28) dX2_readDays_23 rfl (fun c23 => ?_) (fun c23 => ?_)
      · exact absurd rfl c23
      · refine F_iconst (v := nI 0) dX2_readDays_26 rfl ?_
        refine F_zret dX2_readDays_27 rfl (by first | exact Or.inl rfl | exact Or.inr rfl | exact bI_01 _) ?_
        exact hQ
  · obtain ⟨hLM, m1, m2, m3, m4, m5⟩ := hM
    have hnn := LM.isnum (G := G) (d := 5) h4 hby hLM ht
    obtain ⟨v, τ, hx, e7, e10, e117, hfr⟩ := hNM _ _ hLM.here
    have hne := fl_ne (k := k) k0 (by omega) hp4
    refine ⟨τ, mV_of fun Q hQ => ?_, e7, (MFr.atq _ _).trans hfr⟩
    refine F_aload_n dX5_item_0 rfl ?_
    refine F_cV0i (hnn) dX5_item_1 rfl rfl (by decide) rfl rfl rfl rfl (by decide) (Nat.le_of_ble_eq_true rfl) (by omega) ?_
    refine F_istore_n dX5_item_4 (Nat.le_of_ble_eq_true rfl) ?_
    refine F_iload_n dX5_item_5 rfl ?_
    refine F_if_eqB (tgt := 19) dX5_item_6 rfl (fun c6 => ?_) (fun c6 => ?_)
    · cases c6
    · refine F_aload_n dX5_item_9 rfl ?_
      refine F_iconst (v := nI 1) dX5_item_10 rfl ?_
      refine F_bipush (v := nI 70) dX5_item_11 rfl ?_
      refine F_cV2i (hx) dX5_item_13 rfl rfl (by decide) rfl rfl rfl rfl (by decide) (Nat.le_of_ble_eq_true rfl) (by omega) ?_
      refine F_goto (tgt := 20) dX5_item_16 rfl ?_
      refine F_istore_n dX5_item_20 (Nat.le_of_ble_eq_true rfl) ?_
      refine F_aload_n dX5_item_21 rfl ?_
      refine F_getE (v := nI (k + 8 * tps b L i)) dX5_item_22 rfl rfl rfl rfl e7 ?_
      refine F_if_eqN (tgt := 29) dX5_item_25 rfl (by omega) (fun c25 => ?_) (fun c25 => ?_)
      · exact absurd c25 (by omega)
      · refine F_vret dX5_item_28 rfl ?_
        exact hQ

theorem i_daysA0 (h4 : L ≤ 400) (hby : ∀ k, k < L → isByte (b k)) (hP : PB σB b L s i f0 g d0 day o K ad tm n c) (ht : tkn b L (tps b L i) ≠ 12) (ht2 : tkn b L (tps b L i) ≠ 11) (hbad : 6 ≤ (tkn b L (tps b L i))) : ISim G mX2_readDays mX5_item b L s i f0 g d0 day o K ad tm n c σB := by
  obtain ⟨hB, hK, p4, p5, p6, p7, p8, p9, p10, p11, p12⟩ := id hP
  obtain ⟨h1, h2, h3, h5, h6⟩ := id hB
  have hp4 : tps b L i ≤ 400 := Nat.le_trans (tps_le b L i) h4
  have hv2 : 1 ≤ 1 ∧ 1 ≤ 70 := by omega
  have hB2 := id hB
  obtain ⟨g1, g2, g3, g4, g5⟩ := id hB2
  have hp5 : tps b L i ≤ 400 := Nat.le_trans (tps_le b L _) h4
  have t17 := tkn_lt b L (tps b L i)
  have t18 := tkn_lt b L (tps b L i)
  refine ⟨false, up σB 13 3 (nI (1 + 8 * tps b L i)), mV_of fun Q hQ => ?_, BFr.t _ _ _, Or.inr ⟨rfl, (1 + 8 * tps b L i), by omega, by omega, rfl, fun σM hM hat => ?_⟩⟩
  · refine F_aload_n dX2_readDays_0 rfl ?_
    refine F_cV0i (v_token (d := 7) h1 h2 h3) dX2_readDays_1 rfl rfl (by decide) rfl rfl rfl rfl (by decide) (Nat.le_of_ble_eq_true rfl) (by omega) ?_
    refine F_bipush (v := nI 12) dX2_readDays_4 rfl ?_
    refine F_icmp_neN (tgt := 19) dX2_readDays_6 rfl (by omega) (by omega) (fun c6 => ?_) (fun c6 => ?_)
    · refine F_iconst (v := nI 1) dX2_readDays_19 rfl ?_
      refine F_istore_n dX2_readDays_20 (Nat.le_of_ble_eq_true rfl) ?_
      refine F_iload_n dX2_readDays_21 rfl ?_
      refine F_iconst (v := (-1)) dX2_readDays_22 rfl ?_
      refine F_icmp_ne (tgt := 28) dX2_readDays_23 rfl (fun c23 => ?_) (fun c23 => ?_)
      · refine F_aload_n dX2_readDays_28 rfl ?_
        refine F_cV0i (v_token (d := 7) g1 g2 g3) dX2_readDays_29 rfl rfl (by decide) rfl rfl rfl rfl (by decide) (Nat.le_of_ble_eq_true rfl) (by omega) ?_
        refine F_istore_n dX2_readDays_32 (Nat.le_of_ble_eq_true rfl) ?_
        refine F_iload_n dX2_readDays_33 rfl ?_
        refine F_bipush (v := nI 6) dX2_readDays_34 rfl ?_
        refine F_icmp_ltN (tgt := 45) dX2_readDays_36 rfl (by omega) (by omega) (fun c36 => ?_) (fun c36 => ?_)
        · exact absurd c36 (by omega)
        · refine F_aload_n dX2_readDays_39 rfl ?_
          refine F_iconst (v := nI 1) dX2_readDays_40 rfl ?_
          refine F_cV1i (v_fail (d := 7) g1 g2 g3 1) dX2_readDays_41 rfl rfl (by decide) rfl rfl rfl rfl (by decide) (Nat.le_of_ble_eq_true rfl) (by omega) ?_
          refine F_zret dX2_readDays_44 rfl (by first | exact Or.inl rfl | exact Or.inr rfl | exact bI_01 _) ?_
          exact hQ
      · exact absurd c23 (by decide)
    · exact absurd (Decidable.not_not.mp c6) ht
  · obtain ⟨hLM, m1, m2, m3, m4, m5⟩ := hM
    have hnn := LM.nonum (G := G) (d := 5) h4 hby hLM ht
    have hLh := hLM.here
    obtain ⟨v, q, w1, hw, w3, w4, w5⟩ := wrd (G := G) (d := 5) h4 hLh
    obtain ⟨l1, l2, l3, l4, l5⟩ := id hLM
    have hk6 : 6 ≤ wtok v := by
      rw [w3]
      split <;> omega
    have hk := kdV_a hk6
    have hk11 : v ≠ 1279278 := fun z => by
      rw [z] at w3
      have e11 : wtok 1279278 = 11 := by decide
      rw [e11] at w3
      split at w3 <;> omega
    refine ⟨up (atS (up σM 116 9 (nI (tps b L i))) q (tps b L i)) 116 7 (nI (1 + 8 * tps b L i)), mV_of fun Q hQ => ?_, rfl, ((MFr.atq _ _).trans (MFr.atS _ _ _)).trans (MFr.fault _ _)⟩
    refine F_aload_n dX5_item_0 rfl ?_
    refine F_cV0i (hnn) dX5_item_1 rfl rfl (by decide) rfl rfl rfl rfl (by decide) (Nat.le_of_ble_eq_true rfl) (by omega) ?_
    refine F_istore_n dX5_item_4 (Nat.le_of_ble_eq_true rfl) ?_
    refine F_iload_n dX5_item_5 rfl ?_
    refine F_if_eqB (tgt := 19) dX5_item_6 rfl (fun c6 => ?_) (fun c6 => ?_)
    · refine F_iconst (v := nI 1) dX5_item_19 rfl ?_
      refine F_istore_n dX5_item_20 (Nat.le_of_ble_eq_true rfl) ?_
      refine F_aload_n dX5_item_21 rfl ?_
      refine F_getE (v := nI 0) dX5_item_22 rfl rfl rfl rfl l3 ?_
      refine F_if_eqN (tgt := 29) dX5_item_25 rfl (by omega) (fun c25 => ?_) (fun c25 => ?_)
      · refine F_aload_n dX5_item_29 rfl ?_
        refine F_cV0i (hw) dX5_item_30 rfl rfl (by decide) rfl rfl rfl rfl (by decide) (Nat.le_of_ble_eq_true rfl) (by omega) ?_
        refine F_istore_n dX5_item_33 (Nat.le_of_ble_eq_true rfl) ?_
        refine F_iload_n dX5_item_34 rfl ?_
        refine F_cS1i (v_kindBy (d := 5) w1) dX5_item_35 rfl rfl rfl (by decide) (Nat.le_of_ble_eq_true rfl) (by omega) ?_
        refine F_top (y := (-1)) hk ?_
        refine F_istore dX5_item_38 (Nat.le_of_ble_eq_true rfl) ?_
        refine F_iload dX5_item_40 rfl ?_
        refine F_iconst (v := (-1)) dX5_item_42 rfl ?_
        refine F_icmp_eq (tgt := 54) dX5_item_43 rfl (fun c43 => ?_) (fun c43 => ?_)
        · refine F_iload_n dX5_item_54 rfl ?_
          refine F_if_neB (tgt := 74) dX5_item_55 rfl (fun c55 => ?_) (fun c55 => ?_)
          · cases c55
          · refine F_iload_n dX5_item_58 rfl ?_
            refine F_iconst (v := nI 0) dX5_item_59 rfl ?_
            refine F_iconst (v := nI 1) dX5_item_60 rfl ?_
            refine F_bipush (v := nI 7) dX5_item_61 rfl ?_
            refine F_iconst (v := nI 1) dX5_item_63 rfl ?_
            refine F_bipush (v := nI 9) dX5_item_64 rfl ?_
            refine F_bipush (v := nI 14) dX5_item_66 rfl ?_
            refine F_cS6i (v_letters (d := 5) _ _ _ _ _ _) dX5_item_68 rfl rfl rfl (by decide) (Nat.le_of_ble_eq_true rfl) (by omega) ?_
            refine F_icmp_eqN (tgt := 84) dX5_item_71 rfl (by omega) (by omega) (fun c71 => ?_) (fun c71 => ?_)
            · exact absurd c71 hk11
            · refine F_aload_n dX5_item_74 rfl ?_
              refine F_iconst (v := nI 1) dX5_item_75 rfl ?_
              refine F_aload_n dX5_item_76 rfl ?_
              refine F_getE (v := nI (tps b L i)) dX5_item_77 rfl rfl rfl rfl rfl ?_
              refine F_cV2v (v_failsB (d := 5) 1 (tps b L i) l3) dX5_item_80 rfl rfl (by decide) rfl rfl rfl rfl (by decide) (Nat.le_of_ble_eq_true rfl) (by omega) ?_
              refine F_vret dX5_item_83 rfl ?_
              exact hQ
        · exact absurd rfl c43
      · exact absurd rfl c25
    · cases c6

theorem i_daysB0 (h4 : L ≤ 400) (hby : ∀ k, k < L → isByte (b k)) (hP : PB σB b L s i f0 g d0 day o K ad tm n c) (ht : tkn b L (tps b L i) ≠ 12) (ht2 : tkn b L (tps b L i) ≠ 11) (hkd : (tkn b L (tps b L i)) < 6) (hbad : 70 < day + 1) : ISim G mX2_readDays mX5_item b L s i f0 g d0 day o K ad tm n c σB := by
  obtain ⟨hB, hK, p4, p5, p6, p7, p8, p9, p10, p11, p12⟩ := id hP
  obtain ⟨h1, h2, h3, h5, h6⟩ := id hB
  have hp4 : tps b L i ≤ 400 := Nat.le_trans (tps_le b L i) h4
  have hv2 : 1 ≤ 1 ∧ 1 ≤ 70 := by omega
  have hB2 := id hB
  obtain ⟨g1, g2, g3, g4, g5⟩ := id hB2
  have hp5 : tps b L i ≤ 400 := Nat.le_trans (tps_le b L _) h4
  have t17 := tkn_lt b L (tps b L i)
  have t18 := tkn_lt b L (tps b L i)
  refine ⟨false, up σB 13 3 (nI (4 + 8 * tps b L i)), mV_of fun Q hQ => ?_, BFr.t _ _ _, Or.inr ⟨rfl, (4 + 8 * tps b L i), by omega, by omega, rfl, fun σM hM hat => ?_⟩⟩
  · refine F_aload_n dX2_readDays_0 rfl ?_
    refine F_cV0i (v_token (d := 7) h1 h2 h3) dX2_readDays_1 rfl rfl (by decide) rfl rfl rfl rfl (by decide) (Nat.le_of_ble_eq_true rfl) (by omega) ?_
    refine F_bipush (v := nI 12) dX2_readDays_4 rfl ?_
    refine F_icmp_neN (tgt := 19) dX2_readDays_6 rfl (by omega) (by omega) (fun c6 => ?_) (fun c6 => ?_)
    · refine F_iconst (v := nI 1) dX2_readDays_19 rfl ?_
      refine F_istore_n dX2_readDays_20 (Nat.le_of_ble_eq_true rfl) ?_
      refine F_iload_n dX2_readDays_21 rfl ?_
      refine F_iconst (v := (-1)) dX2_readDays_22 rfl ?_
      refine F_icmp_ne (tgt := 28) dX2_readDays_23 rfl (fun c23 => ?_) (fun c23 => ?_)
      · refine F_aload_n dX2_readDays_28 rfl ?_
        refine F_cV0i (v_token (d := 7) g1 g2 g3) dX2_readDays_29 rfl rfl (by decide) rfl rfl rfl rfl (by decide) (Nat.le_of_ble_eq_true rfl) (by omega) ?_
        refine F_istore_n dX2_readDays_32 (Nat.le_of_ble_eq_true rfl) ?_
        refine F_iload_n dX2_readDays_33 rfl ?_
        refine F_bipush (v := nI 6) dX2_readDays_34 rfl ?_
        refine F_icmp_ltN (tgt := 45) dX2_readDays_36 rfl (by omega) (by omega) (fun c36 => ?_) (fun c36 => ?_)
        · refine F_aload_n dX2_readDays_45 rfl ?_
          refine F_getE (v := nI day) dX2_readDays_46 rfl rfl rfl rfl p5 ?_
          refine F_iload_n dX2_readDays_49 rfl ?_
          refine F_iaddN dX2_readDays_50 ?_
          refine F_bipush (v := nI 70) dX2_readDays_51 rfl ?_
          refine F_icmp_leN (tgt := 62) dX2_readDays_53 rfl (by omega) (by omega) (fun c53 => ?_) (fun c53 => ?_)
          · exact absurd c53 (by omega)
          · refine F_aload_n dX2_readDays_56 rfl ?_
            refine F_iconst (v := nI 4) dX2_readDays_57 rfl ?_
            refine F_cV1i (v_fail (d := 7) g1 g2 g3 4) dX2_readDays_58 rfl rfl (by decide) rfl rfl rfl rfl (by decide) (Nat.le_of_ble_eq_true rfl) (by omega) ?_
            refine F_zret dX2_readDays_61 rfl (by first | exact Or.inl rfl | exact Or.inr rfl | exact bI_01 _) ?_
            exact hQ
        · exact absurd hkd c36
      · exact absurd c23 (by decide)
    · exact absurd (Decidable.not_not.mp c6) ht
  · obtain ⟨hLM, m1, m2, m3, m4, m5⟩ := hM
    have hnn := LM.nonum (G := G) (d := 5) h4 hby hLM ht
    have hLh := hLM.here
    obtain ⟨v, q, w1, hw, w3, w4, w5⟩ := wrd (G := G) (d := 5) h4 hLh
    obtain ⟨l1, l2, l3, l4, l5⟩ := id hLM
    rw [if_pos (by omega)] at w3
    have hk := kdV_b w3 hkd
    have hn := v_namedA (G := G) (d := 5) (σ := (atS (up σM 116 9 (nI (tps b L i))) q (tps b L i))) (m := day - d0) (k := 1) (r := 70 - d0) m1 m3 (by omega) (by omega) (by omega) (p := tps b L i) rfl l3 (nI (tkn b L (tps b L i))) (by omega)
    refine ⟨up (atS (up σM 116 9 (nI (tps b L i))) q (tps b L i)) 116 7 (nI (4 + 8 * tps b L i)), mV_of fun Q hQ => ?_, rfl, ((MFr.atq _ _).trans (MFr.atS _ _ _)).trans (MFr.fault _ _)⟩
    refine F_aload_n dX5_item_0 rfl ?_
    refine F_cV0i (hnn) dX5_item_1 rfl rfl (by decide) rfl rfl rfl rfl (by decide) (Nat.le_of_ble_eq_true rfl) (by omega) ?_
    refine F_istore_n dX5_item_4 (Nat.le_of_ble_eq_true rfl) ?_
    refine F_iload_n dX5_item_5 rfl ?_
    refine F_if_eqB (tgt := 19) dX5_item_6 rfl (fun c6 => ?_) (fun c6 => ?_)
    · refine F_iconst (v := nI 1) dX5_item_19 rfl ?_
      refine F_istore_n dX5_item_20 (Nat.le_of_ble_eq_true rfl) ?_
      refine F_aload_n dX5_item_21 rfl ?_
      refine F_getE (v := nI 0) dX5_item_22 rfl rfl rfl rfl l3 ?_
      refine F_if_eqN (tgt := 29) dX5_item_25 rfl (by omega) (fun c25 => ?_) (fun c25 => ?_)
      · refine F_aload_n dX5_item_29 rfl ?_
        refine F_cV0i (hw) dX5_item_30 rfl rfl (by decide) rfl rfl rfl rfl (by decide) (Nat.le_of_ble_eq_true rfl) (by omega) ?_
        refine F_istore_n dX5_item_33 (Nat.le_of_ble_eq_true rfl) ?_
        refine F_iload_n dX5_item_34 rfl ?_
        refine F_cS1i (v_kindBy (d := 5) w1) dX5_item_35 rfl rfl rfl (by decide) (Nat.le_of_ble_eq_true rfl) (by omega) ?_
        refine F_top (y := nI (tkn b L (tps b L i))) hk ?_
        refine F_istore dX5_item_38 (Nat.le_of_ble_eq_true rfl) ?_
        refine F_iload dX5_item_40 rfl ?_
        refine F_iconst (v := (-1)) dX5_item_42 rfl ?_
        refine F_icmp_eq (tgt := 54) dX5_item_43 rfl (fun c43 => ?_) (fun c43 => ?_)
        · exact absurd c43 (nI_n1 (by omega))
        · refine F_aload_n dX5_item_46 rfl ?_
          refine F_iload dX5_item_47 rfl ?_
          refine F_iload_n dX5_item_49 rfl ?_
          refine F_cV2v (hn) dX5_item_50 rfl rfl (by decide) rfl rfl rfl rfl (by decide) (Nat.le_of_ble_eq_true rfl) (by omega) ?_
          refine F_vret dX5_item_53 rfl ?_
          exact hQ
      · exact absurd rfl c25
    · cases c6

theorem i_daysC0 (h4 : L ≤ 400) (hby : ∀ k, k < L → isByte (b k)) (hP : PB σB b L s i f0 g d0 day o K ad tm n c) (ht : tkn b L (tps b L i) ≠ 12) (ht2 : tkn b L (tps b L i) ≠ 11) (hkd : (tkn b L (tps b L i)) < 6) (hle : day + 1 ≤ 70) : ISim G mX2_readDays mX5_item b L s i f0 g d0 day o K ad tm n c σB := by
  obtain ⟨hB, hK, p4, p5, p6, p7, p8, p9, p10, p11, p12⟩ := id hP
  obtain ⟨h1, h2, h3, h5, h6⟩ := id hB
  have hp4 : tps b L i ≤ 400 := Nat.le_trans (tps_le b L i) h4
  have hv2 : 1 ≤ 1 ∧ 1 ≤ 70 := by omega
  have hB2 := id hB
  obtain ⟨g1, g2, g3, g4, g5⟩ := id hB2
  have hp5 : tps b L i ≤ 400 := Nat.le_trans (tps_le b L _) h4
  have t17 := tkn_lt b L (tps b L i)
  have t18 := tkn_lt b L (tps b L i)
  have hlt3 := g1.lt g3 (by omega)
  have hn6 := h6.1.1
  have hr := fun x (hx : x < 70) => (h6.2.2.2.2.2.2.1 g p7).2.2 x hx
  have hc1 : TC (up (upR σB 22 (fillR (σB 22) (g * 70 + day) (g * 70 + day + (day + 1 - 1 + 1 - day)) (nI (tkn b L (tps b L i))))) 13 5 (nI (day + 1))) b L s := g1.rows (fun z z1 z2 => by rw [up_n _ _ _ (by omega), upR_n _ _ (by omega)])
  have hfk := v_fillKinds (G := G) (d := 7) (σ := σB) (b := 19) isTold_19 (g := g) (a := day) (e := day + 1 - 1) (kind := nI (tkn b L (tps b L i))) (by omega) (by omega) (by omega)
  refine ⟨true, (up (up (upR σB 22 (fillR (σB 22) (g * 70 + day) (g * 70 + day + (day + 1 - 1 + 1 - day)) (nI (tkn b L (tps b L i))))) 13 5 (nI (day + 1))) 13 2 (nI (i + 1))), mV_of fun Q hQ => ?_, fun z z1 z2 => ?_, Or.inl ⟨rfl, i + 1, day + 1, o, fillR K day (day + 1) (nI (tkn b L (tps b L i))), ad, tm, by omega, ⟨⟨?_, rfl, by omega, h5, ?_⟩, hK.fill hkd, p4, rfl, p6, p7, by omega, hle, p10, fun k hk => ?_, fun k hk hk2 => ?_⟩, fun σM hM hat => ?_⟩⟩
  · refine F_aload_n dX2_readDays_0 rfl ?_
    refine F_cV0i (v_token (d := 7) h1 h2 h3) dX2_readDays_1 rfl rfl (by decide) rfl rfl rfl rfl (by decide) (Nat.le_of_ble_eq_true rfl) (by omega) ?_
    refine F_bipush (v := nI 12) dX2_readDays_4 rfl ?_
    refine F_icmp_neN (tgt := 19) dX2_readDays_6 rfl (by omega) (by omega) (fun c6 => ?_) (fun c6 => ?_)
    · refine F_iconst (v := nI 1) dX2_readDays_19 rfl ?_
      refine F_istore_n dX2_readDays_20 (Nat.le_of_ble_eq_true rfl) ?_
      refine F_iload_n dX2_readDays_21 rfl ?_
      refine F_iconst (v := (-1)) dX2_readDays_22 rfl ?_
      refine F_icmp_ne (tgt := 28) dX2_readDays_23 rfl (fun c23 => ?_) (fun c23 => ?_)
      · refine F_aload_n dX2_readDays_28 rfl ?_
        refine F_cV0i (v_token (d := 7) g1 g2 g3) dX2_readDays_29 rfl rfl (by decide) rfl rfl rfl rfl (by decide) (Nat.le_of_ble_eq_true rfl) (by omega) ?_
        refine F_istore_n dX2_readDays_32 (Nat.le_of_ble_eq_true rfl) ?_
        refine F_iload_n dX2_readDays_33 rfl ?_
        refine F_bipush (v := nI 6) dX2_readDays_34 rfl ?_
        refine F_icmp_ltN (tgt := 45) dX2_readDays_36 rfl (by omega) (by omega) (fun c36 => ?_) (fun c36 => ?_)
        · refine F_aload_n dX2_readDays_45 rfl ?_
          refine F_getE (v := nI day) dX2_readDays_46 rfl rfl rfl rfl p5 ?_
          refine F_iload_n dX2_readDays_49 rfl ?_
          refine F_iaddN dX2_readDays_50 ?_
          refine F_bipush (v := nI 70) dX2_readDays_51 rfl ?_
          refine F_icmp_leN (tgt := 62) dX2_readDays_53 rfl (by omega) (by omega) (fun c53 => ?_) (fun c53 => ?_)
          · refine F_aload_n dX2_readDays_62 rfl ?_
            refine F_getr dX2_readDays_63 rfl rfl rfl rfl ?_
            refine F_aload_n dX2_readDays_66 rfl ?_
            refine F_getE (v := nI g) dX2_readDays_67 rfl rfl rfl rfl p4 ?_
            refine F_aload_n dX2_readDays_70 rfl ?_
            refine F_getE (v := nI day) dX2_readDays_71 rfl rfl rfl rfl p5 ?_
            refine F_aload_n dX2_readDays_74 rfl ?_
            refine F_getE (v := nI day) dX2_readDays_75 rfl rfl rfl rfl p5 ?_
            refine F_iload_n dX2_readDays_78 rfl ?_
            refine F_iaddN dX2_readDays_79 ?_
            refine F_iconst (v := nI 1) dX2_readDays_80 rfl ?_
            refine F_isubN dX2_readDays_81 (by omega) ?_
            refine F_iload_n dX2_readDays_82 rfl ?_
            refine F_cV4v (hfk) dX2_readDays_83 rfl rfl (by decide) rfl rfl rfl rfl (by decide) (Nat.le_of_ble_eq_true rfl) (by omega) ?_
            refine F_aload_n dX2_readDays_86 rfl ?_
            refine F_dup dX2_readDays_87 rfl ?_
            refine F_getE (v := nI day) dX2_readDays_88 rfl rfl rfl rfl p5 ?_
            refine F_iload_n dX2_readDays_91 rfl ?_
            refine F_iaddN dX2_readDays_92 ?_
            refine F_put dX2_readDays_93 rfl rfl rfl rfl rfl rfl rfl ?_
            refine F_aload_n dX2_readDays_96 rfl ?_
            refine F_cV0v (v_step (d := 7) hc1 g2 g3 hlt3) dX2_readDays_97 rfl rfl (by decide) rfl rfl rfl rfl (by decide) (Nat.le_of_ble_eq_true rfl) (by omega) ?_
            refine F_iconst (v := nI 1) dX2_readDays_100 rfl ?_
            refine F_zret dX2_readDays_101 rfl (by first | exact Or.inl rfl | exact Or.inr rfl | exact bI_01 _) ?_
            exact hQ
          · exact absurd hle c53
        · exact absurd hkd c36
      · exact absurd c23 (by decide)
    · exact absurd (Decidable.not_not.mp c6) ht
  · rw [up_n _ _ _ z1, up_n _ _ _ z1, upR_n _ _ (by omega)]
  · exact g1.rows (fun z z1 z2 => by rw [up_n _ _ _ (by omega), up_n _ _ _ (by omega), upR_n _ _ (by omega)])
  · have hT := TRf.pl h6 p7 (hK.fill (a := day) (e := day + 1) hkd) (q := (fillR (σB 22) (g * 70 + day) (g * 70 + day + (day + 1 - 1 + 1 - day)) (nI (tkn b L (tps b L i))))) (fun x hx => ?_) (fun x hx => ?_)
    · rw [plR_plR] at hT
      exact hT
    · simp only [fillR]
      by_cases hin : day ≤ x ∧ x < day + 1
      · rw [if_pos (by omega), if_pos hin]
      · rw [if_neg (by omega), if_neg hin]
        have := hr x hx
        rw [plR_in _ _ _ hx] at this
        exact this
    · simp only [fillR]
      rw [if_neg (by omega)]
  · obtain ⟨y1, y2, y3, y4, y5, y6⟩ := p11 k (by omega)
    exact ⟨y1, y2, y3, by omega, y5, y6⟩
  · simp only [fillR]
    rw [if_neg (by omega)]
    exact p12 k hk (by omega)
  · obtain ⟨hLM, m1, m2, m3, m4, m5⟩ := hM
    have hnn := LM.nonum (G := G) (d := 5) h4 hby hLM ht
    have hLh := hLM.here
    obtain ⟨v, q, w1, hw, w3, w4, w5⟩ := wrd (G := G) (d := 5) h4 hLh
    obtain ⟨l1, l2, l3, l4, l5⟩ := id hLM
    rw [if_pos (by omega)] at w3
    have hk := kdV_b w3 hkd
    have hn := v_namedB (G := G) (d := 5) (σ := (atS (up σM 116 9 (nI (tps b L i))) q (tps b L i))) (m := day - d0) (k := 1) (r := 70 - d0) m1 m3 (by omega) (by omega) (by omega) (nI (tkn b L (tps b L i))) (by omega)
    have hL4 := w4 (by omega)
    rw [← g1.next hlt3] at hL4
    obtain ⟨j1, j2, j3, j4, j5⟩ := hL4
    refine ⟨up (upR (atS (up σM 116 9 (nI (tps b L i))) q (tps b L i)) 121 (fillR (σM 121) (day - d0) (day - d0 + 1) (nI (tkn b L (tps b L i))))) 116 14 (nI (day - d0 + 1)), mV_of fun Q hQ => ?_, ⟨⟨j1, j2, j3, j4, j5⟩, ?_, m2, m3, m4, fun k hk => ?_⟩, (((MFr.atq _ _).trans (MFr.atS _ _ _)).trans (MFr.row _ _)).trans (MFr.many _ _)⟩
    refine F_aload_n dX5_item_0 rfl ?_
    refine F_cV0i (hnn) dX5_item_1 rfl rfl (by decide) rfl rfl rfl rfl (by decide) (Nat.le_of_ble_eq_true rfl) (by omega) ?_
    refine F_istore_n dX5_item_4 (Nat.le_of_ble_eq_true rfl) ?_
    refine F_iload_n dX5_item_5 rfl ?_
    refine F_if_eqB (tgt := 19) dX5_item_6 rfl (fun c6 => ?_) (fun c6 => ?_)
    · refine F_iconst (v := nI 1) dX5_item_19 rfl ?_
      refine F_istore_n dX5_item_20 (Nat.le_of_ble_eq_true rfl) ?_
      refine F_aload_n dX5_item_21 rfl ?_
      refine F_getE (v := nI 0) dX5_item_22 rfl rfl rfl rfl l3 ?_
      refine F_if_eqN (tgt := 29) dX5_item_25 rfl (by omega) (fun c25 => ?_) (fun c25 => ?_)
      · refine F_aload_n dX5_item_29 rfl ?_
        refine F_cV0i (hw) dX5_item_30 rfl rfl (by decide) rfl rfl rfl rfl (by decide) (Nat.le_of_ble_eq_true rfl) (by omega) ?_
        refine F_istore_n dX5_item_33 (Nat.le_of_ble_eq_true rfl) ?_
        refine F_iload_n dX5_item_34 rfl ?_
        refine F_cS1i (v_kindBy (d := 5) w1) dX5_item_35 rfl rfl rfl (by decide) (Nat.le_of_ble_eq_true rfl) (by omega) ?_
        refine F_top (y := nI (tkn b L (tps b L i))) hk ?_
        refine F_istore dX5_item_38 (Nat.le_of_ble_eq_true rfl) ?_
        refine F_iload dX5_item_40 rfl ?_
        refine F_iconst (v := (-1)) dX5_item_42 rfl ?_
        refine F_icmp_eq (tgt := 54) dX5_item_43 rfl (fun c43 => ?_) (fun c43 => ?_)
        · exact absurd c43 (nI_n1 (by omega))
        · refine F_aload_n dX5_item_46 rfl ?_
          refine F_iload dX5_item_47 rfl ?_
          refine F_iload_n dX5_item_49 rfl ?_
          refine F_cV2v (hn) dX5_item_50 rfl rfl (by decide) rfl rfl rfl rfl (by decide) (Nat.le_of_ble_eq_true rfl) (by omega) ?_
          refine F_vret dX5_item_53 rfl ?_
          exact hQ
      · exact absurd rfl c25
    · cases c6

    · show nI _ = nI _
      congr 1
      omega
    · show fillR (σM 121) (day - d0) (day - d0 + 1) (nI (tkn b L (tps b L i))) k = fillR K day (day + 1) (nI (tkn b L (tps b L i))) (d0 + k)
      simp only [fillR]
      by_cases hin : day - d0 ≤ k
      · rw [if_pos (by omega), if_pos (by omega)]
      · rw [if_neg (by omega), if_neg (by omega)]
        exact m5 k (by omega)
theorem i_daysA1 (h4 : L ≤ 400) (hby : ∀ k, k < L → isByte (b k)) (hP : PB σB b L s i f0 g d0 day o K ad tm n c) (ht : tkn b L (tps b L i) = 12) (hok : inR (nI (tkv b L (tps b L i))) (nI 1) (nI 70) = true) (hbad : 6 ≤ (tkn b L (tps b L (i + 1)))) : ISim G mX2_readDays mX5_item b L s i f0 g d0 day o K ad tm n c σB := by
  obtain ⟨hB, hK, p4, p5, p6, p7, p8, p9, p10, p11, p12⟩ := id hP
  obtain ⟨h1, h2, h3, h5, h6⟩ := id hB
  have hp4 : tps b L i ≤ 400 := Nat.le_trans (tps_le b L i) h4
  obtain ⟨-, -, lt1, hN, hB2, hNM⟩ | ⟨k, k0, k3, ke, kn, hN, hNM⟩ := num (G := G) (d := 6) h4 hby hB (nI 1) (nI 70)
  rotate_left
  · exact absurd ⟨ht, hok⟩ kn
  have v1 := tkv_le b L (tps b L i)
  have hv2 := hok
  rw [inR_nI (by decide) (by decide) (by omega), Bool.and_eq_true, decide_eq_true_eq, decide_eq_true_eq] at hv2
  obtain ⟨g1, g2, g3, g4, g5⟩ := id hB2
  have hp5 : tps b L (i + 1) ≤ 400 := Nat.le_trans (tps_le b L _) h4
  have t17 := tkn_lt b L (tps b L i)
  have t18 := tkn_lt b L (tps b L (i + 1))
  refine ⟨false, up (up σB 13 2 (nI (i + 1))) 13 3 (nI (1 + 8 * tps b L (i + 1))), mV_of fun Q hQ => ?_, (BFr.t _ _ _).trans (BFr.t _ _ _), Or.inr ⟨rfl, (1 + 8 * tps b L (i + 1)), by omega, by omega, rfl, fun σM hM hat => ?_⟩⟩
  · refine F_aload_n dX2_readDays_0 rfl ?_
    refine F_cV0i (v_token (d := 7) h1 h2 h3) dX2_readDays_1 rfl rfl (by decide) rfl rfl rfl rfl (by decide) (Nat.le_of_ble_eq_true rfl) (by omega) ?_
    refine F_bipush (v := nI 12) dX2_readDays_4 rfl ?_
    refine F_icmp_neN (tgt := 19) dX2_readDays_6 rfl (by omega) (by omega) (fun c6 => ?_) (fun c6 => ?_)
    · exact absurd ht c6
    · refine F_aload_n dX2_readDays_9 rfl ?_
      refine F_iconst (v := nI 1) dX2_readDays_10 rfl ?_
      refine F_bipush (v := nI 70) dX2_readDays_11 rfl ?_
      refine F_cV2i (hN) dX2_readDays_13 rfl rfl (by decide) rfl rfl rfl rfl (by decide) (Nat.le_of_ble_eq_true rfl) (by omega) ?_
      refine F_goto (tgt := 20) dX2_readDays_16 rfl ?_
      refine F_istore_n dX2_readDays_20 (Nat.le_of_ble_eq_true rfl) ?_
      refine F_iload_n dX2_readDays_21 rfl ?_
      refine F_iconst (v := (-1)) dX2_readDays_22 rfl ?_
      refine F_icmp_ne (tgt := 28) dX2_readDays_23 rfl (fun c23 => ?_) (fun c23 => ?_)
      · refine F_aload_n dX2_readDays_28 rfl ?_
        refine F_cV0i (v_token (d := 7) g1 g2 g3) dX2_readDays_29 rfl rfl (by decide) rfl rfl rfl rfl (by decide) (Nat.le_of_ble_eq_true rfl) (by omega) ?_
        refine F_istore_n dX2_readDays_32 (Nat.le_of_ble_eq_true rfl) ?_
        refine F_iload_n dX2_readDays_33 rfl ?_
        refine F_bipush (v := nI 6) dX2_readDays_34 rfl ?_
        refine F_icmp_ltN (tgt := 45) dX2_readDays_36 rfl (by omega) (by omega) (fun c36 => ?_) (fun c36 => ?_)
        · exact absurd c36 (by omega)
        · refine F_aload_n dX2_readDays_39 rfl ?_
          refine F_iconst (v := nI 1) dX2_readDays_40 rfl ?_
          refine F_cV1i (v_fail (d := 7) g1 g2 g3 1) dX2_readDays_41 rfl rfl (by decide) rfl rfl rfl rfl (by decide) (Nat.le_of_ble_eq_true rfl) (by omega) ?_
          refine F_zret dX2_readDays_44 rfl (by first | exact Or.inl rfl | exact Or.inr rfl | exact bI_01 _) ?_
          exact hQ
      · exact absurd (c23) (nI_n1 (by omega))
  · obtain ⟨hLM, m1, m2, m3, m4, m5⟩ := hM
    have hnn := LM.isnum (G := G) (d := 5) h4 hby hLM ht
    obtain ⟨q0, hx, hLh⟩ := hNM _ _ hLM.here
    obtain ⟨v, q, w1, hw, w3, w4, w5⟩ := wrd (G := G) (d := 5) h4 hLh
    obtain ⟨l1, l2, l3, l4, l5⟩ := id hLM
    have hk6 : 6 ≤ wtok v := by
      rw [w3]
      split <;> omega
    have hk := kdV_a hk6
    refine ⟨up (atS (atS (up σM 116 9 (nI (tps b L i))) q0 (tps b L i)) q (tps b L (i + 1))) 116 7 (nI (1 + 8 * tps b L (i + 1))), mV_of fun Q hQ => ?_, rfl, (((MFr.atq _ _).trans (MFr.atS _ _ _)).trans (MFr.atS _ _ _)).trans (MFr.fault _ _)⟩
    refine F_aload_n dX5_item_0 rfl ?_
    refine F_cV0i (hnn) dX5_item_1 rfl rfl (by decide) rfl rfl rfl rfl (by decide) (Nat.le_of_ble_eq_true rfl) (by omega) ?_
    refine F_istore_n dX5_item_4 (Nat.le_of_ble_eq_true rfl) ?_
    refine F_iload_n dX5_item_5 rfl ?_
    refine F_if_eqB (tgt := 19) dX5_item_6 rfl (fun c6 => ?_) (fun c6 => ?_)
    · cases c6
    · refine F_aload_n dX5_item_9 rfl ?_
      refine F_iconst (v := nI 1) dX5_item_10 rfl ?_
      refine F_bipush (v := nI 70) dX5_item_11 rfl ?_
      refine F_cV2i (hx) dX5_item_13 rfl rfl (by decide) rfl rfl rfl rfl (by decide) (Nat.le_of_ble_eq_true rfl) (by omega) ?_
      refine F_goto (tgt := 20) dX5_item_16 rfl ?_
      refine F_istore_n dX5_item_20 (Nat.le_of_ble_eq_true rfl) ?_
      refine F_aload_n dX5_item_21 rfl ?_
      refine F_getE (v := nI 0) dX5_item_22 rfl rfl rfl rfl l3 ?_
      refine F_if_eqN (tgt := 29) dX5_item_25 rfl (by omega) (fun c25 => ?_) (fun c25 => ?_)
      · refine F_aload_n dX5_item_29 rfl ?_
        refine F_cV0i (hw) dX5_item_30 rfl rfl (by decide) rfl rfl rfl rfl (by decide) (Nat.le_of_ble_eq_true rfl) (by omega) ?_
        refine F_istore_n dX5_item_33 (Nat.le_of_ble_eq_true rfl) ?_
        refine F_iload_n dX5_item_34 rfl ?_
        refine F_cS1i (v_kindBy (d := 5) w1) dX5_item_35 rfl rfl rfl (by decide) (Nat.le_of_ble_eq_true rfl) (by omega) ?_
        refine F_top (y := (-1)) hk ?_
        refine F_istore dX5_item_38 (Nat.le_of_ble_eq_true rfl) ?_
        refine F_iload dX5_item_40 rfl ?_
        refine F_iconst (v := (-1)) dX5_item_42 rfl ?_
        refine F_icmp_eq (tgt := 54) dX5_item_43 rfl (fun c43 => ?_) (fun c43 => ?_)
        · refine F_iload_n dX5_item_54 rfl ?_
          refine F_if_neB (tgt := 74) dX5_item_55 rfl (fun c55 => ?_) (fun c55 => ?_)
          · refine F_aload_n dX5_item_74 rfl ?_
            refine F_iconst (v := nI 1) dX5_item_75 rfl ?_
            refine F_aload_n dX5_item_76 rfl ?_
            refine F_getE (v := nI (tps b L (i + 1))) dX5_item_77 rfl rfl rfl rfl rfl ?_
            refine F_cV2v (v_failsB (d := 5) 1 (tps b L (i + 1)) l3) dX5_item_80 rfl rfl (by decide) rfl rfl rfl rfl (by decide) (Nat.le_of_ble_eq_true rfl) (by omega) ?_
            refine F_vret dX5_item_83 rfl ?_
            exact hQ
          · cases c55
        · exact absurd rfl c43
      · exact absurd rfl c25

theorem i_daysB1 (h4 : L ≤ 400) (hby : ∀ k, k < L → isByte (b k)) (hP : PB σB b L s i f0 g d0 day o K ad tm n c) (ht : tkn b L (tps b L i) = 12) (hok : inR (nI (tkv b L (tps b L i))) (nI 1) (nI 70) = true) (hkd : (tkn b L (tps b L (i + 1))) < 6) (hbad : 70 < day + (tkv b L (tps b L i))) : ISim G mX2_readDays mX5_item b L s i f0 g d0 day o K ad tm n c σB := by
  obtain ⟨hB, hK, p4, p5, p6, p7, p8, p9, p10, p11, p12⟩ := id hP
  obtain ⟨h1, h2, h3, h5, h6⟩ := id hB
  have hp4 : tps b L i ≤ 400 := Nat.le_trans (tps_le b L i) h4
  obtain ⟨-, -, lt1, hN, hB2, hNM⟩ | ⟨k, k0, k3, ke, kn, hN, hNM⟩ := num (G := G) (d := 6) h4 hby hB (nI 1) (nI 70)
  rotate_left
  · exact absurd ⟨ht, hok⟩ kn
  have v1 := tkv_le b L (tps b L i)
  have hv2 := hok
  rw [inR_nI (by decide) (by decide) (by omega), Bool.and_eq_true, decide_eq_true_eq, decide_eq_true_eq] at hv2
  obtain ⟨g1, g2, g3, g4, g5⟩ := id hB2
  have hp5 : tps b L (i + 1) ≤ 400 := Nat.le_trans (tps_le b L _) h4
  have t17 := tkn_lt b L (tps b L i)
  have t18 := tkn_lt b L (tps b L (i + 1))
  refine ⟨false, up (up σB 13 2 (nI (i + 1))) 13 3 (nI (4 + 8 * tps b L (i + 1))), mV_of fun Q hQ => ?_, (BFr.t _ _ _).trans (BFr.t _ _ _), Or.inr ⟨rfl, (4 + 8 * tps b L (i + 1)), by omega, by omega, rfl, fun σM hM hat => ?_⟩⟩
  · refine F_aload_n dX2_readDays_0 rfl ?_
    refine F_cV0i (v_token (d := 7) h1 h2 h3) dX2_readDays_1 rfl rfl (by decide) rfl rfl rfl rfl (by decide) (Nat.le_of_ble_eq_true rfl) (by omega) ?_
    refine F_bipush (v := nI 12) dX2_readDays_4 rfl ?_
    refine F_icmp_neN (tgt := 19) dX2_readDays_6 rfl (by omega) (by omega) (fun c6 => ?_) (fun c6 => ?_)
    · exact absurd ht c6
    · refine F_aload_n dX2_readDays_9 rfl ?_
      refine F_iconst (v := nI 1) dX2_readDays_10 rfl ?_
      refine F_bipush (v := nI 70) dX2_readDays_11 rfl ?_
      refine F_cV2i (hN) dX2_readDays_13 rfl rfl (by decide) rfl rfl rfl rfl (by decide) (Nat.le_of_ble_eq_true rfl) (by omega) ?_
      refine F_goto (tgt := 20) dX2_readDays_16 rfl ?_
      refine F_istore_n dX2_readDays_20 (Nat.le_of_ble_eq_true rfl) ?_
      refine F_iload_n dX2_readDays_21 rfl ?_
      refine F_iconst (v := (-1)) dX2_readDays_22 rfl ?_
      refine F_icmp_ne (tgt := 28) dX2_readDays_23 rfl (fun c23 => ?_) (fun c23 => ?_)
      · refine F_aload_n dX2_readDays_28 rfl ?_
        refine F_cV0i (v_token (d := 7) g1 g2 g3) dX2_readDays_29 rfl rfl (by decide) rfl rfl rfl rfl (by decide) (Nat.le_of_ble_eq_true rfl) (by omega) ?_
        refine F_istore_n dX2_readDays_32 (Nat.le_of_ble_eq_true rfl) ?_
        refine F_iload_n dX2_readDays_33 rfl ?_
        refine F_bipush (v := nI 6) dX2_readDays_34 rfl ?_
        refine F_icmp_ltN (tgt := 45) dX2_readDays_36 rfl (by omega) (by omega) (fun c36 => ?_) (fun c36 => ?_)
        · refine F_aload_n dX2_readDays_45 rfl ?_
          refine F_getE (v := nI day) dX2_readDays_46 rfl rfl rfl rfl p5 ?_
          refine F_iload_n dX2_readDays_49 rfl ?_
          refine F_iaddN dX2_readDays_50 ?_
          refine F_bipush (v := nI 70) dX2_readDays_51 rfl ?_
          refine F_icmp_leN (tgt := 62) dX2_readDays_53 rfl (by omega) (by omega) (fun c53 => ?_) (fun c53 => ?_)
          · exact absurd c53 (by omega)
          · refine F_aload_n dX2_readDays_56 rfl ?_
            refine F_iconst (v := nI 4) dX2_readDays_57 rfl ?_
            refine F_cV1i (v_fail (d := 7) g1 g2 g3 4) dX2_readDays_58 rfl rfl (by decide) rfl rfl rfl rfl (by decide) (Nat.le_of_ble_eq_true rfl) (by omega) ?_
            refine F_zret dX2_readDays_61 rfl (by first | exact Or.inl rfl | exact Or.inr rfl | exact bI_01 _) ?_
            exact hQ
        · exact absurd hkd c36
      · exact absurd (c23) (nI_n1 (by omega))
  · obtain ⟨hLM, m1, m2, m3, m4, m5⟩ := hM
    have hnn := LM.isnum (G := G) (d := 5) h4 hby hLM ht
    obtain ⟨q0, hx, hLh⟩ := hNM _ _ hLM.here
    obtain ⟨v, q, w1, hw, w3, w4, w5⟩ := wrd (G := G) (d := 5) h4 hLh
    obtain ⟨l1, l2, l3, l4, l5⟩ := id hLM
    rw [if_pos (by omega)] at w3
    have hk := kdV_b w3 hkd
    have hn := v_namedA (G := G) (d := 5) (σ := (atS (atS (up σM 116 9 (nI (tps b L i))) q0 (tps b L i)) q (tps b L (i + 1)))) (m := day - d0) (k := (tkv b L (tps b L i))) (r := 70 - d0) m1 m3 (by omega) (by omega) (by omega) (p := tps b L (i + 1)) rfl l3 (nI (tkn b L (tps b L (i + 1)))) (by omega)
    refine ⟨up (atS (atS (up σM 116 9 (nI (tps b L i))) q0 (tps b L i)) q (tps b L (i + 1))) 116 7 (nI (4 + 8 * tps b L (i + 1))), mV_of fun Q hQ => ?_, rfl, (((MFr.atq _ _).trans (MFr.atS _ _ _)).trans (MFr.atS _ _ _)).trans (MFr.fault _ _)⟩
    refine F_aload_n dX5_item_0 rfl ?_
    refine F_cV0i (hnn) dX5_item_1 rfl rfl (by decide) rfl rfl rfl rfl (by decide) (Nat.le_of_ble_eq_true rfl) (by omega) ?_
    refine F_istore_n dX5_item_4 (Nat.le_of_ble_eq_true rfl) ?_
    refine F_iload_n dX5_item_5 rfl ?_
    refine F_if_eqB (tgt := 19) dX5_item_6 rfl (fun c6 => ?_) (fun c6 => ?_)
    · cases c6
    · refine F_aload_n dX5_item_9 rfl ?_
      refine F_iconst (v := nI 1) dX5_item_10 rfl ?_
      refine F_bipush (v := nI 70) dX5_item_11 rfl ?_
      refine F_cV2i (hx) dX5_item_13 rfl rfl (by decide) rfl rfl rfl rfl (by decide) (Nat.le_of_ble_eq_true rfl) (by omega) ?_
      refine F_goto (tgt := 20) dX5_item_16 rfl ?_
      refine F_istore_n dX5_item_20 (Nat.le_of_ble_eq_true rfl) ?_
      refine F_aload_n dX5_item_21 rfl ?_
      refine F_getE (v := nI 0) dX5_item_22 rfl rfl rfl rfl l3 ?_
      refine F_if_eqN (tgt := 29) dX5_item_25 rfl (by omega) (fun c25 => ?_) (fun c25 => ?_)
      · refine F_aload_n dX5_item_29 rfl ?_
        refine F_cV0i (hw) dX5_item_30 rfl rfl (by decide) rfl rfl rfl rfl (by decide) (Nat.le_of_ble_eq_true rfl) (by omega) ?_
        refine F_istore_n dX5_item_33 (Nat.le_of_ble_eq_true rfl) ?_
        refine F_iload_n dX5_item_34 rfl ?_
        refine F_cS1i (v_kindBy (d := 5) w1) dX5_item_35 rfl rfl rfl (by decide) (Nat.le_of_ble_eq_true rfl) (by omega) ?_
        refine F_top (y := nI (tkn b L (tps b L (i + 1)))) hk ?_
        refine F_istore dX5_item_38 (Nat.le_of_ble_eq_true rfl) ?_
        refine F_iload dX5_item_40 rfl ?_
        refine F_iconst (v := (-1)) dX5_item_42 rfl ?_
        refine F_icmp_eq (tgt := 54) dX5_item_43 rfl (fun c43 => ?_) (fun c43 => ?_)
        · exact absurd c43 (nI_n1 (by omega))
        · refine F_aload_n dX5_item_46 rfl ?_
          refine F_iload dX5_item_47 rfl ?_
          refine F_iload_n dX5_item_49 rfl ?_
          refine F_cV2v (hn) dX5_item_50 rfl rfl (by decide) rfl rfl rfl rfl (by decide) (Nat.le_of_ble_eq_true rfl) (by omega) ?_
          refine F_vret dX5_item_53 rfl ?_
          exact hQ
      · exact absurd rfl c25

theorem i_daysC1 (h4 : L ≤ 400) (hby : ∀ k, k < L → isByte (b k)) (hP : PB σB b L s i f0 g d0 day o K ad tm n c) (ht : tkn b L (tps b L i) = 12) (hok : inR (nI (tkv b L (tps b L i))) (nI 1) (nI 70) = true) (hkd : (tkn b L (tps b L (i + 1))) < 6) (hle : day + (tkv b L (tps b L i)) ≤ 70) : ISim G mX2_readDays mX5_item b L s i f0 g d0 day o K ad tm n c σB := by
  obtain ⟨hB, hK, p4, p5, p6, p7, p8, p9, p10, p11, p12⟩ := id hP
  obtain ⟨h1, h2, h3, h5, h6⟩ := id hB
  have hp4 : tps b L i ≤ 400 := Nat.le_trans (tps_le b L i) h4
  obtain ⟨-, -, lt1, hN, hB2, hNM⟩ | ⟨k, k0, k3, ke, kn, hN, hNM⟩ := num (G := G) (d := 6) h4 hby hB (nI 1) (nI 70)
  rotate_left
  · exact absurd ⟨ht, hok⟩ kn
  have v1 := tkv_le b L (tps b L i)
  have hv2 := hok
  rw [inR_nI (by decide) (by decide) (by omega), Bool.and_eq_true, decide_eq_true_eq, decide_eq_true_eq] at hv2
  obtain ⟨g1, g2, g3, g4, g5⟩ := id hB2
  have hp5 : tps b L (i + 1) ≤ 400 := Nat.le_trans (tps_le b L _) h4
  have t17 := tkn_lt b L (tps b L i)
  have t18 := tkn_lt b L (tps b L (i + 1))
  have hlt3 := g1.lt g3 (by omega)
  have hn6 := h6.1.1
  have hr := fun x (hx : x < 70) => (h6.2.2.2.2.2.2.1 g p7).2.2 x hx
  have hc1 : TC (up (upR (up σB 13 2 (nI (i + 1))) 22 (fillR (σB 22) (g * 70 + day) (g * 70 + day + (day + (tkv b L (tps b L i)) - 1 + 1 - day)) (nI (tkn b L (tps b L (i + 1)))))) 13 5 (nI (day + (tkv b L (tps b L i))))) b L s := g1.rows (fun z z1 z2 => by rw [up_n _ _ _ (by omega), upR_n _ _ (by omega)])
  have hfk := v_fillKinds (G := G) (d := 7) (σ := (up σB 13 2 (nI (i + 1)))) (b := 19) isTold_19 (g := g) (a := day) (e := day + (tkv b L (tps b L i)) - 1) (kind := nI (tkn b L (tps b L (i + 1)))) (by omega) (by omega) (by omega)
  refine ⟨true, (up (up (upR (up σB 13 2 (nI (i + 1))) 22 (fillR (σB 22) (g * 70 + day) (g * 70 + day + (day + (tkv b L (tps b L i)) - 1 + 1 - day)) (nI (tkn b L (tps b L (i + 1)))))) 13 5 (nI (day + (tkv b L (tps b L i))))) 13 2 (nI ((i + 1) + 1))), mV_of fun Q hQ => ?_, fun z z1 z2 => ?_, Or.inl ⟨rfl, (i + 1) + 1, day + (tkv b L (tps b L i)), o, fillR K day (day + (tkv b L (tps b L i))) (nI (tkn b L (tps b L (i + 1)))), ad, tm, by omega, ⟨⟨?_, rfl, by omega, h5, ?_⟩, hK.fill hkd, p4, rfl, p6, p7, by omega, hle, p10, fun k hk => ?_, fun k hk hk2 => ?_⟩, fun σM hM hat => ?_⟩⟩
  · refine F_aload_n dX2_readDays_0 rfl ?_
    refine F_cV0i (v_token (d := 7) h1 h2 h3) dX2_readDays_1 rfl rfl (by decide) rfl rfl rfl rfl (by decide) (Nat.le_of_ble_eq_true rfl) (by omega) ?_
    refine F_bipush (v := nI 12) dX2_readDays_4 rfl ?_
    refine F_icmp_neN (tgt := 19) dX2_readDays_6 rfl (by omega) (by omega) (fun c6 => ?_) (fun c6 => ?_)
    · exact absurd ht c6
    · refine F_aload_n dX2_readDays_9 rfl ?_
      refine F_iconst (v := nI 1) dX2_readDays_10 rfl ?_
      refine F_bipush (v := nI 70) dX2_readDays_11 rfl ?_
      refine F_cV2i (hN) dX2_readDays_13 rfl rfl (by decide) rfl rfl rfl rfl (by decide) (Nat.le_of_ble_eq_true rfl) (by omega) ?_
      refine F_goto (tgt := 20) dX2_readDays_16 rfl ?_
      refine F_istore_n dX2_readDays_20 (Nat.le_of_ble_eq_true rfl) ?_
      refine F_iload_n dX2_readDays_21 rfl ?_
      refine F_iconst (v := (-1)) dX2_readDays_22 rfl ?_
      refine F_icmp_ne (tgt := 28) dX2_readDays_23 rfl (fun c23 => ?_) (fun c23 => ?_)
      · refine F_aload_n dX2_readDays_28 rfl ?_
        refine F_cV0i (v_token (d := 7) g1 g2 g3) dX2_readDays_29 rfl rfl (by decide) rfl rfl rfl rfl (by decide) (Nat.le_of_ble_eq_true rfl) (by omega) ?_
        refine F_istore_n dX2_readDays_32 (Nat.le_of_ble_eq_true rfl) ?_
        refine F_iload_n dX2_readDays_33 rfl ?_
        refine F_bipush (v := nI 6) dX2_readDays_34 rfl ?_
        refine F_icmp_ltN (tgt := 45) dX2_readDays_36 rfl (by omega) (by omega) (fun c36 => ?_) (fun c36 => ?_)
        · refine F_aload_n dX2_readDays_45 rfl ?_
          refine F_getE (v := nI day) dX2_readDays_46 rfl rfl rfl rfl p5 ?_
          refine F_iload_n dX2_readDays_49 rfl ?_
          refine F_iaddN dX2_readDays_50 ?_
          refine F_bipush (v := nI 70) dX2_readDays_51 rfl ?_
          refine F_icmp_leN (tgt := 62) dX2_readDays_53 rfl (by omega) (by omega) (fun c53 => ?_) (fun c53 => ?_)
          · refine F_aload_n dX2_readDays_62 rfl ?_
            refine F_getr dX2_readDays_63 rfl rfl rfl rfl ?_
            refine F_aload_n dX2_readDays_66 rfl ?_
            refine F_getE (v := nI g) dX2_readDays_67 rfl rfl rfl rfl p4 ?_
            refine F_aload_n dX2_readDays_70 rfl ?_
            refine F_getE (v := nI day) dX2_readDays_71 rfl rfl rfl rfl p5 ?_
            refine F_aload_n dX2_readDays_74 rfl ?_
            refine F_getE (v := nI day) dX2_readDays_75 rfl rfl rfl rfl p5 ?_
            refine F_iload_n dX2_readDays_78 rfl ?_
            refine F_iaddN dX2_readDays_79 ?_
            refine F_iconst (v := nI 1) dX2_readDays_80 rfl ?_
            refine F_isubN dX2_readDays_81 (by omega) ?_
            refine F_iload_n dX2_readDays_82 rfl ?_
            refine F_cV4v (hfk) dX2_readDays_83 rfl rfl (by decide) rfl rfl rfl rfl (by decide) (Nat.le_of_ble_eq_true rfl) (by omega) ?_
            refine F_aload_n dX2_readDays_86 rfl ?_
            refine F_dup dX2_readDays_87 rfl ?_
            refine F_getE (v := nI day) dX2_readDays_88 rfl rfl rfl rfl p5 ?_
            refine F_iload_n dX2_readDays_91 rfl ?_
            refine F_iaddN dX2_readDays_92 ?_
            refine F_put dX2_readDays_93 rfl rfl rfl rfl rfl rfl rfl ?_
            refine F_aload_n dX2_readDays_96 rfl ?_
            refine F_cV0v (v_step (d := 7) hc1 g2 g3 hlt3) dX2_readDays_97 rfl rfl (by decide) rfl rfl rfl rfl (by decide) (Nat.le_of_ble_eq_true rfl) (by omega) ?_
            refine F_iconst (v := nI 1) dX2_readDays_100 rfl ?_
            refine F_zret dX2_readDays_101 rfl (by first | exact Or.inl rfl | exact Or.inr rfl | exact bI_01 _) ?_
            exact hQ
          · exact absurd hle c53
        · exact absurd hkd c36
      · exact absurd (c23) (nI_n1 (by omega))
  · rw [up_n _ _ _ z1, up_n _ _ _ z1, upR_n _ _ (by omega), up_n _ _ _ z1]
  · exact g1.rows (fun z z1 z2 => by rw [up_n _ _ _ (by omega), up_n _ _ _ (by omega), upR_n _ _ (by omega)])
  · have hT := TRf.pl h6 p7 (hK.fill (a := day) (e := day + (tkv b L (tps b L i))) hkd) (q := (fillR (σB 22) (g * 70 + day) (g * 70 + day + (day + (tkv b L (tps b L i)) - 1 + 1 - day)) (nI (tkn b L (tps b L (i + 1)))))) (fun x hx => ?_) (fun x hx => ?_)
    · rw [plR_plR] at hT
      exact hT
    · simp only [fillR]
      by_cases hin : day ≤ x ∧ x < day + (tkv b L (tps b L i))
      · rw [if_pos (by omega), if_pos hin]
      · rw [if_neg (by omega), if_neg hin]
        have := hr x hx
        rw [plR_in _ _ _ hx] at this
        exact this
    · simp only [fillR]
      rw [if_neg (by omega)]
  · obtain ⟨y1, y2, y3, y4, y5, y6⟩ := p11 k (by omega)
    exact ⟨y1, y2, y3, by omega, y5, y6⟩
  · simp only [fillR]
    rw [if_neg (by omega)]
    exact p12 k hk (by omega)
  · obtain ⟨hLM, m1, m2, m3, m4, m5⟩ := hM
    have hnn := LM.isnum (G := G) (d := 5) h4 hby hLM ht
    obtain ⟨q0, hx, hLh⟩ := hNM _ _ hLM.here
    obtain ⟨v, q, w1, hw, w3, w4, w5⟩ := wrd (G := G) (d := 5) h4 hLh
    obtain ⟨l1, l2, l3, l4, l5⟩ := id hLM
    rw [if_pos (by omega)] at w3
    have hk := kdV_b w3 hkd
    have hn := v_namedB (G := G) (d := 5) (σ := (atS (atS (up σM 116 9 (nI (tps b L i))) q0 (tps b L i)) q (tps b L (i + 1)))) (m := day - d0) (k := (tkv b L (tps b L i))) (r := 70 - d0) m1 m3 (by omega) (by omega) (by omega) (nI (tkn b L (tps b L (i + 1)))) (by omega)
    have hL4 := w4 (by omega)
    rw [← g1.next hlt3] at hL4
    obtain ⟨j1, j2, j3, j4, j5⟩ := hL4
    refine ⟨up (upR (atS (atS (up σM 116 9 (nI (tps b L i))) q0 (tps b L i)) q (tps b L (i + 1))) 121 (fillR (σM 121) (day - d0) (day - d0 + (tkv b L (tps b L i))) (nI (tkn b L (tps b L (i + 1)))))) 116 14 (nI (day - d0 + (tkv b L (tps b L i)))), mV_of fun Q hQ => ?_, ⟨⟨j1, j2, j3, j4, j5⟩, ?_, m2, m3, m4, fun k hk => ?_⟩, ((((MFr.atq _ _).trans (MFr.atS _ _ _)).trans (MFr.atS _ _ _)).trans (MFr.row _ _)).trans (MFr.many _ _)⟩
    refine F_aload_n dX5_item_0 rfl ?_
    refine F_cV0i (hnn) dX5_item_1 rfl rfl (by decide) rfl rfl rfl rfl (by decide) (Nat.le_of_ble_eq_true rfl) (by omega) ?_
    refine F_istore_n dX5_item_4 (Nat.le_of_ble_eq_true rfl) ?_
    refine F_iload_n dX5_item_5 rfl ?_
    refine F_if_eqB (tgt := 19) dX5_item_6 rfl (fun c6 => ?_) (fun c6 => ?_)
    · cases c6
    · refine F_aload_n dX5_item_9 rfl ?_
      refine F_iconst (v := nI 1) dX5_item_10 rfl ?_
      refine F_bipush (v := nI 70) dX5_item_11 rfl ?_
      refine F_cV2i (hx) dX5_item_13 rfl rfl (by decide) rfl rfl rfl rfl (by decide) (Nat.le_of_ble_eq_true rfl) (by omega) ?_
      refine F_goto (tgt := 20) dX5_item_16 rfl ?_
      refine F_istore_n dX5_item_20 (Nat.le_of_ble_eq_true rfl) ?_
      refine F_aload_n dX5_item_21 rfl ?_
      refine F_getE (v := nI 0) dX5_item_22 rfl rfl rfl rfl l3 ?_
      refine F_if_eqN (tgt := 29) dX5_item_25 rfl (by omega) (fun c25 => ?_) (fun c25 => ?_)
      · refine F_aload_n dX5_item_29 rfl ?_
        refine F_cV0i (hw) dX5_item_30 rfl rfl (by decide) rfl rfl rfl rfl (by decide) (Nat.le_of_ble_eq_true rfl) (by omega) ?_
        refine F_istore_n dX5_item_33 (Nat.le_of_ble_eq_true rfl) ?_
        refine F_iload_n dX5_item_34 rfl ?_
        refine F_cS1i (v_kindBy (d := 5) w1) dX5_item_35 rfl rfl rfl (by decide) (Nat.le_of_ble_eq_true rfl) (by omega) ?_
        refine F_top (y := nI (tkn b L (tps b L (i + 1)))) hk ?_
        refine F_istore dX5_item_38 (Nat.le_of_ble_eq_true rfl) ?_
        refine F_iload dX5_item_40 rfl ?_
        refine F_iconst (v := (-1)) dX5_item_42 rfl ?_
        refine F_icmp_eq (tgt := 54) dX5_item_43 rfl (fun c43 => ?_) (fun c43 => ?_)
        · exact absurd c43 (nI_n1 (by omega))
        · refine F_aload_n dX5_item_46 rfl ?_
          refine F_iload dX5_item_47 rfl ?_
          refine F_iload_n dX5_item_49 rfl ?_
          refine F_cV2v (hn) dX5_item_50 rfl rfl (by decide) rfl rfl rfl rfl (by decide) (Nat.le_of_ble_eq_true rfl) (by omega) ?_
          refine F_vret dX5_item_53 rfl ?_
          exact hQ
      · exact absurd rfl c25

    · show nI _ = nI _
      congr 1
      omega
    · show fillR (σM 121) (day - d0) (day - d0 + (tkv b L (tps b L i))) (nI (tkn b L (tps b L (i + 1)))) k = fillR K day (day + (tkv b L (tps b L i))) (nI (tkn b L (tps b L (i + 1)))) (d0 + k)
      simp only [fillR]
      by_cases hin : day - d0 ≤ k
      · rw [if_pos (by omega), if_pos (by omega)]
      · rw [if_neg (by omega), if_neg (by omega)]
        exact m5 k (by omega)
end DYS
