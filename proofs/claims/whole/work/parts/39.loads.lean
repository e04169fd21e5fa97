/-! ===== loads on both sides ===== -/
theorem kd_bad {v T : Nat} (h : wtok v = if T < 12 then T else 17) (hT : T = 0 ∨ 6 ≤ T) : ¬ nI 1 ≤ kdV v := by
  unfold kdV
  by_cases h6 : wtok v < 6
  · rw [if_pos h6]
    have e : wtok v = 0 := by
      rw [h] at h6 ⊢
      by_cases h12 : T < 12
      · rw [if_pos h12] at h6 ⊢; omega
      · rw [if_neg h12] at h6; omega
    rw [e]; decide
  · rw [if_neg h6]; decide
theorem kd_good {v T : Nat} (h : wtok v = if T < 12 then T else 17) (hT : T < 6) : kdV v = nI T := by
  rw [if_pos (by omega)] at h
  unfold kdV
  rw [h, if_pos hT]
section ST3
variable {G : mG} {b : Nat → Int32} {L s i n c : Nat} {f : Nat → Int32} {σB : mS}
theorem s_load (h4 : L ≤ 400) (hby : ∀ k, k < L → isByte (b k)) (hB : LB σB b L s i f n c) (ht : tkn b L (tps b L i) = 7) : Sim G mX2_readLoad b L s i f σB := by
  obtain ⟨h1, h2, h3, h5, h6⟩ := id hB
  have hlt := h1.lt h3 (by rw [ht]; decide)
  have hp4 : tps b L i ≤ 400 := Nat.le_trans (tps_le b L i) h4
  have hp5 : tps b L (i + 1) ≤ 400 := Nat.le_trans (tps_le b L (i + 1)) h4
  have hp6 : tps b L (i + 1 + 1) ≤ 400 := Nat.le_trans (tps_le b L (i + 1 + 1)) h4
  have hb := h6.1
  have hn6 := hb.1
  have hc4 := hb.2.1
  have hW : ∀ σM, LM σM b L (tps b L i) f → ∃ q, mV G mX5_word 8 [.ref 116] σM (some (.int (nI 408612))) (atS σM q (tps b L i)) ∧ LM (atS σM q (tps b L i)) b L (tps b L (i + 1)) f := fun σM hM => by
    obtain ⟨v, q, w1, w2, w3, w4, w5⟩ := wrd (G := G) (d := 7) h4 hM
    rw [ht, if_pos (by decide)] at w3
    have e : v = 408612 := wtok_inv w3 (by decide)
    subst e
    exact ⟨q, w2, by rw [h1.next hlt]; exact w4 (by rw [ht]; decide)⟩
  have hB1 := hB.step hlt
  obtain ⟨g1, g2, g3, g4, g5⟩ := id hB1
  have hT18 : (tkn b L (tps b L (i + 1))) < 18 := by
    by_cases e : (tps b L (i + 1)) < L
    · exact (tkn_16 e).2
    · unfold tkn; rw [if_neg e]; decide
  by_cases hbad : (tkn b L (tps b L (i + 1))) = 0 ∨ 6 ≤ (tkn b L (tps b L (i + 1)))
  · refine ⟨false, up (up σB 13 2 (nI (i + 1))) 13 3 (nI (1 + 8 * (tps b L (i + 1)))), mV_of fun Q hQ => ?_, (BFr.t _ _ _).trans (BFr.t _ _ _), Or.inr ⟨rfl, 1 + 8 * (tps b L (i + 1)), by omega, by omega, rfl, fun σM hM => ?_⟩⟩
    · refine F_aload_n dX2_readLoad_0 rfl ?_
      refine F_cV0v (v_step (d := 5) h1 h2 h3 hlt) dX2_readLoad_1 rfl rfl (by decide) rfl rfl rfl rfl (by decide) (Nat.le_of_ble_eq_true rfl) (by omega) ?_
      refine F_aload_n dX2_readLoad_4 rfl ?_
      refine F_cV0i (v_token (d := 5) g1 g2 g3) dX2_readLoad_5 rfl rfl (by decide) rfl rfl rfl rfl (by decide) (Nat.le_of_ble_eq_true rfl) (by omega) ?_
      refine F_istore_n dX2_readLoad_8 (Nat.le_of_ble_eq_true rfl) ?_
      refine F_iload_n dX2_readLoad_9 rfl ?_
      refine F_if_leN (tgt := 19) dX2_readLoad_10 rfl (by omega) (fun c10 => ?_) (fun c10 => ?_)
      · refine F_aload_n dX2_readLoad_19 rfl ?_
        refine F_iconst (v := nI 1) dX2_readLoad_20 rfl ?_
        refine F_cV1i (v_fail (d := 5) g1 g2 g3 1) dX2_readLoad_21 rfl rfl (by decide) rfl rfl rfl rfl (by decide) (Nat.le_of_ble_eq_true rfl) (by omega) ?_
        refine F_zret dX2_readLoad_24 rfl (by first | exact Or.inl rfl | exact Or.inr rfl | exact bI_01 _) ?_
        exact hQ
      · refine F_iload_n dX2_readLoad_13 rfl ?_
        refine F_bipush (v := nI 6) dX2_readLoad_14 rfl ?_
        refine F_icmp_ltN (tgt := 25) dX2_readLoad_16 rfl (by omega) (by omega) (fun c16 => ?_) (fun c16 => ?_)
        · exfalso
          omega
        · refine F_aload_n dX2_readLoad_19 rfl ?_
          refine F_iconst (v := nI 1) dX2_readLoad_20 rfl ?_
          refine F_cV1i (v_fail (d := 5) g1 g2 g3 1) dX2_readLoad_21 rfl rfl (by decide) rfl rfl rfl rfl (by decide) (Nat.le_of_ble_eq_true rfl) (by omega) ?_
          refine F_zret dX2_readLoad_24 rfl (by first | exact Or.inl rfl | exact Or.inr rfl | exact bI_01 _) ?_
          exact hQ
    · skip
      obtain ⟨q, hw, hM2⟩ := hW σM hM
      obtain ⟨v2, q2, w1, w2, w3, w4, w5⟩ := wrd (G := G) (d := 7) h4 hM2
      obtain ⟨m1, -, m5, m6, m7⟩ := hM
      have hne := fl_ne (k := 1) (by omega) (by omega) hp5
      refine ⟨up (atS (atS σM q (tps b L i)) q2 (tps b L (i + 1))) 116 7 (nI (1 + 8 * (tps b L (i + 1)))), mV_of fun Q hQ => ?_, rfl, ((MFr.atS _ _ _).trans (MFr.atS _ _ _)).trans (MFr.fault _ _)⟩
      refine F_aload_n dX5_statement_0 rfl ?_
      refine F_cV0i (hw) dX5_statement_1 rfl rfl (by decide) rfl rfl rfl rfl (by decide) (Nat.le_of_ble_eq_true rfl) (by omega) ?_
      refine F_istore_n dX5_statement_4 (Nat.le_of_ble_eq_true rfl) ?_
      refine F_iload_n dX5_statement_5 rfl ?_
      refine F_iconst (v := nI 0) dX5_statement_6 rfl ?_
      refine F_bipush (v := nI 7) dX5_statement_7 rfl ?_
      refine F_bipush (v := nI 18) dX5_statement_9 rfl ?_
      refine F_bipush (v := nI 15) dX5_statement_11 rfl ?_
      refine F_bipush (v := nI 21) dX5_statement_13 rfl ?_
      refine F_bipush (v := nI 16) dX5_statement_15 rfl ?_
      refine F_cS6i (v_letters (d := 5) _ _ _ _ _ _) dX5_statement_17 rfl rfl rfl (by decide) (Nat.le_of_ble_eq_true rfl) (by omega) ?_
      refine F_icmp_neN (tgt := 75) dX5_statement_20 rfl (by omega) (by omega) (fun c20 => ?_) (fun c20 => ?_)
      · refine F_iload_n dX5_statement_75 rfl ?_
        refine F_iconst (v := nI 0) dX5_statement_76 rfl ?_
        refine F_iconst (v := nI 0) dX5_statement_77 rfl ?_
        refine F_bipush (v := nI 12) dX5_statement_78 rfl ?_
        refine F_bipush (v := nI 15) dX5_statement_80 rfl ?_
        refine F_iconst (v := nI 1) dX5_statement_82 rfl ?_
        refine F_iconst (v := nI 4) dX5_statement_83 rfl ?_
        refine F_cS6i (v_letters (d := 5) _ _ _ _ _ _) dX5_statement_84 rfl rfl rfl (by decide) (Nat.le_of_ble_eq_true rfl) (by omega) ?_
        refine F_icmp_neN (tgt := 140) dX5_statement_87 rfl (by omega) (by omega) (fun c87 => ?_) (fun c87 => ?_)
        · exact absurd rfl c87
        · refine F_aload_n dX5_statement_90 rfl ?_
          refine F_cV0i (w2) dX5_statement_91 rfl rfl (by decide) rfl rfl rfl rfl (by decide) (Nat.le_of_ble_eq_true rfl) (by omega) ?_
          refine F_cS1i (v_kindBy (d := 5) w1) dX5_statement_94 rfl rfl rfl (by decide) (Nat.le_of_ble_eq_true rfl) (by omega) ?_
          refine F_istore_n dX5_statement_97 (Nat.le_of_ble_eq_true rfl) ?_
          refine F_iload_n dX5_statement_98 rfl ?_
          refine F_iconst (v := nI 1) dX5_statement_99 rfl ?_
          refine F_icmp_ge (tgt := 112) dX5_statement_100 rfl (fun c100 => ?_) (fun c100 => ?_)
          · exact absurd c100 (kd_bad w3 hbad)
          · refine F_aload_n dX5_statement_103 rfl ?_
            refine F_iconst (v := nI 1) dX5_statement_104 rfl ?_
            refine F_aload_n dX5_statement_105 rfl ?_
            refine F_getE (v := nI (tps b L (i + 1))) dX5_statement_106 rfl rfl rfl rfl rfl ?_
            refine F_cV2v (v_failsB (d := 5) 1 (tps b L (i + 1)) m5) dX5_statement_109 rfl rfl (by decide) rfl rfl rfl rfl (by decide) (Nat.le_of_ble_eq_true rfl) (by omega) ?_
            refine F_aload_n dX5_statement_112 rfl ?_
            refine F_iconst (v := nI 0) dX5_statement_113 rfl ?_
            refine F_sipush (v := nI 300) dX5_statement_114 rfl ?_
            refine F_cV2i (v_numberX (d := 5) _ _ hne) dX5_statement_117 rfl rfl (by decide) rfl rfl rfl rfl (by decide) (Nat.le_of_ble_eq_true rfl) (by omega) ?_
            refine F_istore_n dX5_statement_120 (Nat.le_of_ble_eq_true rfl) ?_
            refine F_aload_n dX5_statement_121 rfl ?_
            refine F_geti dX5_statement_122 rfl rfl rfl rfl ?_
            refine F_if_ne (tgt := 137) dX5_statement_125 rfl (fun c125 => ?_) (fun c125 => ?_)
            · refine F_goto (tgt := 312) dX5_statement_137 rfl ?_
              refine F_vret dX5_statement_312 rfl ?_
              exact hQ
            · exact absurd c125 hne
      · exact absurd (Decidable.not_not.mp c20) (by decide)
  · have hlt1 : i + 1 < s := g1.lt g3 (by omega)
    have hB2 := hB1.step hlt1
    obtain hN | ⟨k, k0, k3, ke, kn, hN, hNM⟩ := num (G := G) (d := 6) h4 hby hB2 (nI 0) (nI 300)
    rotate_left
    · refine ⟨false, up (up (up σB 13 2 (nI (i + 1))) 13 2 (nI (i + 1 + 1))) 13 3 (nI (k + 8 * tps b L (i + 1 + 1))), mV_of fun Q hQ => ?_, ((BFr.t _ _ _).trans (BFr.t _ _ _)).trans (BFr.t _ _ _), Or.inr ⟨rfl, k + 8 * tps b L (i + 1 + 1), by omega, by omega, rfl, fun σM hM => ?_⟩⟩
      · refine F_aload_n dX2_readLoad_0 rfl ?_
        refine F_cV0v (v_step (d := 5) h1 h2 h3 hlt) dX2_readLoad_1 rfl rfl (by decide) rfl rfl rfl rfl (by decide) (Nat.le_of_ble_eq_true rfl) (by omega) ?_
        refine F_aload_n dX2_readLoad_4 rfl ?_
        refine F_cV0i (v_token (d := 5) g1 g2 g3) dX2_readLoad_5 rfl rfl (by decide) rfl rfl rfl rfl (by decide) (Nat.le_of_ble_eq_true rfl) (by omega) ?_
        refine F_istore_n dX2_readLoad_8 (Nat.le_of_ble_eq_true rfl) ?_
        refine F_iload_n dX2_readLoad_9 rfl ?_
        refine F_if_leN (tgt := 19) dX2_readLoad_10 rfl (by omega) (fun c10 => ?_) (fun c10 => ?_)
        · exfalso
          omega
        · refine F_iload_n dX2_readLoad_13 rfl ?_
          refine F_bipush (v := nI 6) dX2_readLoad_14 rfl ?_
          refine F_icmp_ltN (tgt := 25) dX2_readLoad_16 rfl (by omega) (by omega) (fun c16 => ?_) (fun c16 => ?_)
          · refine F_aload_n dX2_readLoad_25 rfl ?_
            refine F_cV0v (v_step (d := 5) g1 g2 g3 hlt1) dX2_readLoad_26 rfl rfl (by decide) rfl rfl rfl rfl (by decide) (Nat.le_of_ble_eq_true rfl) (by omega) ?_
            refine F_aload_n dX2_readLoad_29 rfl ?_
            refine F_iconst (v := nI 0) dX2_readLoad_30 rfl ?_
            refine F_sipush (v := nI 300) dX2_readLoad_31 rfl ?_
            refine F_cV2i (hN) dX2_readLoad_34 rfl rfl (by decide) rfl rfl rfl rfl (by decide) (Nat.le_of_ble_eq_true rfl) (by omega) ?_
            refine F_istore_n dX2_readLoad_37 (Nat.le_of_ble_eq_true rfl) ?_
            refine F_iload_n dX2_readLoad_38 rfl ?_
            refine F_iconst (v := (-1)) dX2_readLoad_39 rfl ?_
            refine F_icmp_ne (tgt := 45) dX2_readLoad_40 rfl (fun c40 => ?_) (fun c40 => ?_)
            · exact absurd rfl c40
            · refine F_iconst (v := nI 0) dX2_readLoad_43 rfl ?_
              refine F_zret dX2_readLoad_44 rfl (by first | exact Or.inl rfl | exact Or.inr rfl | exact bI_01 _) ?_
              exact hQ
          · exfalso
            omega
      · skip
        obtain ⟨q, hw, hM2⟩ := hW σM hM
        obtain ⟨v2, q2, w1, w2, w3, w4, w5⟩ := wrd (G := G) (d := 7) h4 hM2
        obtain ⟨m1, -, m5, m6, m7⟩ := hM
        obtain ⟨v, τ, x1, x2, x3, x4, x5⟩ := hNM _ _ (by rw [g1.next hlt1]; exact w4 (by omega))
        have hne := fl_ne k0 (show k < 5 by omega) hp6
        have hne2 : ¬ τ 116 7 = 0 := by rw [x2]; exact hne
        refine ⟨τ, mV_of fun Q hQ => ?_, x2, ((MFr.atS _ _ _).trans (MFr.atS _ _ _)).trans x5⟩
        refine F_aload_n dX5_statement_0 rfl ?_
        refine F_cV0i (hw) dX5_statement_1 rfl rfl (by decide) rfl rfl rfl rfl (by decide) (Nat.le_of_ble_eq_true rfl) (by omega) ?_
        refine F_istore_n dX5_statement_4 (Nat.le_of_ble_eq_true rfl) ?_
        refine F_iload_n dX5_statement_5 rfl ?_
        refine F_iconst (v := nI 0) dX5_statement_6 rfl ?_
        refine F_bipush (v := nI 7) dX5_statement_7 rfl ?_
        refine F_bipush (v := nI 18) dX5_statement_9 rfl ?_
        refine F_bipush (v := nI 15) dX5_statement_11 rfl ?_
        refine F_bipush (v := nI 21) dX5_statement_13 rfl ?_
        refine F_bipush (v := nI 16) dX5_statement_15 rfl ?_
        refine F_cS6i (v_letters (d := 5) _ _ _ _ _ _) dX5_statement_17 rfl rfl rfl (by decide) (Nat.le_of_ble_eq_true rfl) (by omega) ?_
        refine F_icmp_neN (tgt := 75) dX5_statement_20 rfl (by omega) (by omega) (fun c20 => ?_) (fun c20 => ?_)
        · refine F_iload_n dX5_statement_75 rfl ?_
          refine F_iconst (v := nI 0) dX5_statement_76 rfl ?_
          refine F_iconst (v := nI 0) dX5_statement_77 rfl ?_
          refine F_bipush (v := nI 12) dX5_statement_78 rfl ?_
          refine F_bipush (v := nI 15) dX5_statement_80 rfl ?_
          refine F_iconst (v := nI 1) dX5_statement_82 rfl ?_
          refine F_iconst (v := nI 4) dX5_statement_83 rfl ?_
          refine F_cS6i (v_letters (d := 5) _ _ _ _ _ _) dX5_statement_84 rfl rfl rfl (by decide) (Nat.le_of_ble_eq_true rfl) (by omega) ?_
          refine F_icmp_neN (tgt := 140) dX5_statement_87 rfl (by omega) (by omega) (fun c87 => ?_) (fun c87 => ?_)
          · exact absurd rfl c87
          · refine F_aload_n dX5_statement_90 rfl ?_
            refine F_cV0i (w2) dX5_statement_91 rfl rfl (by decide) rfl rfl rfl rfl (by decide) (Nat.le_of_ble_eq_true rfl) (by omega) ?_
            refine F_cS1i (v_kindBy (d := 5) w1) dX5_statement_94 rfl rfl rfl (by decide) (Nat.le_of_ble_eq_true rfl) (by omega) ?_
            refine F_top (y := nI (tkn b L (tps b L (i + 1)))) (kd_good w3 (by omega)) ?_
            refine F_istore_n dX5_statement_97 (Nat.le_of_ble_eq_true rfl) ?_
            refine F_iload_n dX5_statement_98 rfl ?_
            refine F_iconst (v := nI 1) dX5_statement_99 rfl ?_
            refine F_icmp_geN (tgt := 112) dX5_statement_100 rfl (by omega) (by omega) (fun c100 => ?_) (fun c100 => ?_)
            · refine F_aload_n dX5_statement_112 rfl ?_
              refine F_iconst (v := nI 0) dX5_statement_113 rfl ?_
              refine F_sipush (v := nI 300) dX5_statement_114 rfl ?_
              refine F_cV2i (x1) dX5_statement_117 rfl rfl (by decide) rfl rfl rfl rfl (by decide) (Nat.le_of_ble_eq_true rfl) (by omega) ?_
              refine F_istore_n dX5_statement_120 (Nat.le_of_ble_eq_true rfl) ?_
              refine F_aload_n dX5_statement_121 rfl ?_
              refine F_geti dX5_statement_122 rfl rfl rfl rfl ?_
              refine F_if_ne (tgt := 137) dX5_statement_125 rfl (fun c125 => ?_) (fun c125 => ?_)
              · refine F_goto (tgt := 312) dX5_statement_137 rfl ?_
                refine F_vret dX5_statement_312 rfl ?_
                exact hQ
              · exact absurd c125 hne2
            · exact absurd (show 1 ≤ (tkn b L (tps b L (i + 1))) by omega) c100
        · exact absurd (Decidable.not_not.mp c20) (by decide)
    obtain ⟨t1, r1, lt2, hN, hB3, hNM⟩ := hN
    have v1 := tkv_le b L (tps b L (i + 1 + 1))
    refine ⟨true, up (up (up (up σB 13 2 (nI (i + 1))) 13 2 (nI (i + 1 + 1))) 13 2 (nI (i + 1 + 1 + 1))) 25 (tkn b L (tps b L (i + 1))) (nI (tkv b L (tps b L (i + 1 + 1)))), mV_of fun Q hQ => ?_, fun z z1 z2 => ?_, Or.inl ⟨rfl, i + 1 + 1 + 1, upd f (tkn b L (tps b L (i + 1))) (nI (tkv b L (tps b L (i + 1 + 1)))), n, c, by omega, ?_, fun σM hM => ?_⟩⟩
    · refine F_aload_n dX2_readLoad_0 rfl ?_
      refine F_cV0v (v_step (d := 5) h1 h2 h3 hlt) dX2_readLoad_1 rfl rfl (by decide) rfl rfl rfl rfl (by decide) (Nat.le_of_ble_eq_true rfl) (by omega) ?_
      refine F_aload_n dX2_readLoad_4 rfl ?_
      refine F_cV0i (v_token (d := 5) g1 g2 g3) dX2_readLoad_5 rfl rfl (by decide) rfl rfl rfl rfl (by decide) (Nat.le_of_ble_eq_true rfl) (by omega) ?_
      refine F_istore_n dX2_readLoad_8 (Nat.le_of_ble_eq_true rfl) ?_
      refine F_iload_n dX2_readLoad_9 rfl ?_
      refine F_if_leN (tgt := 19) dX2_readLoad_10 rfl (by omega) (fun c10 => ?_) (fun c10 => ?_)
      · exfalso
        omega
      · refine F_iload_n dX2_readLoad_13 rfl ?_
        refine F_bipush (v := nI 6) dX2_readLoad_14 rfl ?_
        refine F_icmp_ltN (tgt := 25) dX2_readLoad_16 rfl (by omega) (by omega) (fun c16 => ?_) (fun c16 => ?_)
        · refine F_aload_n dX2_readLoad_25 rfl ?_
          refine F_cV0v (v_step (d := 5) g1 g2 g3 hlt1) dX2_readLoad_26 rfl rfl (by decide) rfl rfl rfl rfl (by decide) (Nat.le_of_ble_eq_true rfl) (by omega) ?_
          refine F_aload_n dX2_readLoad_29 rfl ?_
          refine F_iconst (v := nI 0) dX2_readLoad_30 rfl ?_
          refine F_sipush (v := nI 300) dX2_readLoad_31 rfl ?_
          refine F_cV2i (hN) dX2_readLoad_34 rfl rfl (by decide) rfl rfl rfl rfl (by decide) (Nat.le_of_ble_eq_true rfl) (by omega) ?_
          refine F_istore_n dX2_readLoad_37 (Nat.le_of_ble_eq_true rfl) ?_
          refine F_iload_n dX2_readLoad_38 rfl ?_
          refine F_iconst (v := (-1)) dX2_readLoad_39 rfl ?_
          refine F_icmp_ne (tgt := 45) dX2_readLoad_40 rfl (fun c40 => ?_) (fun c40 => ?_)
          · refine F_aload_n dX2_readLoad_45 rfl ?_
            refine F_getr dX2_readLoad_46 rfl rfl rfl rfl ?_
            refine F_getr dX2_readLoad_49 rfl rfl rfl rfl ?_
            refine F_iload_n dX2_readLoad_52 rfl ?_
            refine F_iload_n dX2_readLoad_53 rfl ?_
            refine F_iast dX2_readLoad_54 rfl (by decide) (by omega) ?_
            refine F_iconst (v := nI 1) dX2_readLoad_55 rfl ?_
            refine F_zret dX2_readLoad_56 rfl (by first | exact Or.inl rfl | exact Or.inr rfl | exact bI_01 _) ?_
            exact hQ
          · exact absurd c40 (nI_n1 (by omega))
        · exfalso
          omega
    · rw [up_n _ _ _ (by omega), up_n _ _ _ z1, up_n _ _ _ z1, up_n _ _ _ z1]
    · obtain ⟨y1, y2, y3, y4, y5⟩ := hB3
      refine ⟨y1.rows (fun z z1 z2 => by rw [up_n _ _ _ (by omega)]), y2, y3, y4, ?_⟩
      exact TRf.load y5 (by omega) (by omega) (inR_ex (by decide) r1)
    · skip
      obtain ⟨q, hw, hM2⟩ := hW σM hM
      obtain ⟨v2, q2, w1, w2, w3, w4, w5⟩ := wrd (G := G) (d := 7) h4 hM2
      obtain ⟨m1, -, m5, m6, m7⟩ := hM
      obtain ⟨q3, hx, hM4⟩ := hNM _ _ (by rw [g1.next hlt1]; exact w4 (by omega))
      obtain ⟨l1, l2, l3, l4, l5⟩ := hM4
      refine ⟨up (atS (atS (atS σM q (tps b L i)) q2 (tps b L (i + 1))) q3 (tps b L (i + 1 + 1))) 117 (0 + (tkn b L (tps b L (i + 1)))) (nI (tkv b L (tps b L (i + 1 + 1)))), mV_of fun Q hQ => ?_, ⟨l1, l2, l3, ?_, l5⟩, (((MFr.atS _ _ _).trans (MFr.atS _ _ _)).trans (MFr.atS _ _ _)).trans (MFr.pl _ _)⟩
      rotate_left
      · rw [Nat.zero_add]
        show upd _ _ _ = _
        rw [l4]
      refine F_aload_n dX5_statement_0 rfl ?_
      refine F_cV0i (hw) dX5_statement_1 rfl rfl (by decide) rfl rfl rfl rfl (by decide) (Nat.le_of_ble_eq_true rfl) (by omega) ?_
      refine F_istore_n dX5_statement_4 (Nat.le_of_ble_eq_true rfl) ?_
      refine F_iload_n dX5_statement_5 rfl ?_
      refine F_iconst (v := nI 0) dX5_statement_6 rfl ?_
      refine F_bipush (v := nI 7) dX5_statement_7 rfl ?_
      refine F_bipush (v := nI 18) dX5_statement_9 rfl ?_
      refine F_bipush (v := nI 15) dX5_statement_11 rfl ?_
      refine F_bipush (v := nI 21) dX5_statement_13 rfl ?_
      refine F_bipush (v := nI 16) dX5_statement_15 rfl ?_
      refine F_cS6i (v_letters (d := 5) _ _ _ _ _ _) dX5_statement_17 rfl rfl rfl (by decide) (Nat.le_of_ble_eq_true rfl) (by omega) ?_
      refine F_icmp_neN (tgt := 75) dX5_statement_20 rfl (by omega) (by omega) (fun c20 => ?_) (fun c20 => ?_)
      · refine F_iload_n dX5_statement_75 rfl ?_
        refine F_iconst (v := nI 0) dX5_statement_76 rfl ?_
        refine F_iconst (v := nI 0) dX5_statement_77 rfl ?_
        refine F_bipush (v := nI 12) dX5_statement_78 rfl ?_
        refine F_bipush (v := nI 15) dX5_statement_80 rfl ?_
        refine F_iconst (v := nI 1) dX5_statement_82 rfl ?_
        refine F_iconst (v := nI 4) dX5_statement_83 rfl ?_
        refine F_cS6i (v_letters (d := 5) _ _ _ _ _ _) dX5_statement_84 rfl rfl rfl (by decide) (Nat.le_of_ble_eq_true rfl) (by omega) ?_
        refine F_icmp_neN (tgt := 140) dX5_statement_87 rfl (by omega) (by omega) (fun c87 => ?_) (fun c87 => ?_)
        · exact absurd rfl c87
        · refine F_aload_n dX5_statement_90 rfl ?_
          refine F_cV0i (w2) dX5_statement_91 rfl rfl (by decide) rfl rfl rfl rfl (by decide) (Nat.le_of_ble_eq_true rfl) (by omega) ?_
          refine F_cS1i (v_kindBy (d := 5) w1) dX5_statement_94 rfl rfl rfl (by decide) (Nat.le_of_ble_eq_true rfl) (by omega) ?_
          refine F_top (y := nI (tkn b L (tps b L (i + 1)))) (kd_good w3 (by omega)) ?_
          refine F_istore_n dX5_statement_97 (Nat.le_of_ble_eq_true rfl) ?_
          refine F_iload_n dX5_statement_98 rfl ?_
          refine F_iconst (v := nI 1) dX5_statement_99 rfl ?_
          refine F_icmp_geN (tgt := 112) dX5_statement_100 rfl (by omega) (by omega) (fun c100 => ?_) (fun c100 => ?_)
          · refine F_aload_n dX5_statement_112 rfl ?_
            refine F_iconst (v := nI 0) dX5_statement_113 rfl ?_
            refine F_sipush (v := nI 300) dX5_statement_114 rfl ?_
            refine F_cV2i (hx) dX5_statement_117 rfl rfl (by decide) rfl rfl rfl rfl (by decide) (Nat.le_of_ble_eq_true rfl) (by omega) ?_
            refine F_istore_n dX5_statement_120 (Nat.le_of_ble_eq_true rfl) ?_
            refine F_aload_n dX5_statement_121 rfl ?_
            refine F_geti dX5_statement_122 rfl rfl rfl rfl ?_
            refine F_if_ne (tgt := 137) dX5_statement_125 rfl (fun c125 => ?_) (fun c125 => ?_)
            · exact absurd m5 c125
            · refine F_aload_n dX5_statement_128 rfl ?_
              refine F_getr dX5_statement_129 rfl rfl rfl rfl ?_
              refine F_iconst (v := nI 0) dX5_statement_132 rfl ?_
              refine F_iload_n dX5_statement_133 rfl ?_
              refine F_iaddN dX5_statement_134 ?_
              refine F_iload_n dX5_statement_135 rfl ?_
              refine F_iast dX5_statement_136 rfl (by decide) (by omega) ?_
              refine F_goto (tgt := 312) dX5_statement_137 rfl ?_
              refine F_vret dX5_statement_312 rfl ?_
              exact hQ
          · exact absurd (show 1 ≤ (tkn b L (tps b L (i + 1))) by omega) c100
      · exact absurd (Decidable.not_not.mp c20) (by decide)

end ST3
