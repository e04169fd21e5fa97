/-! ===== camps and settings on both sides ===== -/
section ST2
variable {G : mG} {b : Nat → Int32} {L s i n c : Nat} {f : Nat → Int32} {σB : mS}
theorem s_camp (h4 : L ≤ 400) (hby : ∀ k, k < L → isByte (b k)) (hB : LB σB b L s i f n c) (ht : tkn b L (tps b L i) = 8) : Sim G mX2_readCamp b L s i f σB := by
  obtain ⟨h1, h2, h3, h5, h6⟩ := id hB
  have hlt := h1.lt h3 (by rw [ht]; decide)
  have hp4 : tps b L i ≤ 400 := Nat.le_trans (tps_le b L i) h4
  have hp5 : tps b L (i + 1) ≤ 400 := Nat.le_trans (tps_le b L (i + 1)) h4
  have hp6 : tps b L (i + 1 + 1) ≤ 400 := Nat.le_trans (tps_le b L (i + 1 + 1)) h4
  have hb := h6.1
  have hn6 := hb.1
  have hc4 := hb.2.1
  have hW : ∀ σM, LM σM b L (tps b L i) f → ∃ q, mV G mX5_word 8 [.ref 116] σM (some (.int (nI 99760))) (atS σM q (tps b L i)) ∧ LM (atS σM q (tps b L i)) b L (tps b L (i + 1)) f := fun σM hM => by
    obtain ⟨v, q, w1, w2, w3, w4, w5⟩ := wrd (G := G) (d := 7) h4 hM
    rw [ht, if_pos (by decide)] at w3
    have e : v = 99760 := wtok_inv w3 (by decide)
    subst e
    exact ⟨q, w2, by rw [h1.next hlt]; exact w4 (by rw [ht]; decide)⟩
  have hg0 : σB 19 4 = nI c := h6.2.2.1
  by_cases hfull : c = 4
  · refine ⟨false, up σB 13 3 (nI (3 + 8 * tps b L i)), mV_of fun Q hQ => ?_, BFr.t _ _ _, Or.inr ⟨rfl, 3 + 8 * tps b L i, by omega, by omega, rfl, fun σM hM => ?_⟩⟩
    · refine F_aload_n dX2_readCamp_0 rfl ?_
      refine F_getr dX2_readCamp_1 rfl rfl rfl rfl ?_
      refine F_getE (v := nI c) dX2_readCamp_4 rfl rfl rfl rfl hg0 ?_
      refine F_iconst (v := nI 4) dX2_readCamp_7 rfl ?_
      refine F_icmp_ltN (tgt := 17) dX2_readCamp_8 rfl (by omega) (by omega) (fun c8 => ?_) (fun c8 => ?_)
      · exact absurd c8 (by omega)
      · refine F_aload_n dX2_readCamp_11 rfl ?_
        refine F_iconst (v := nI 3) dX2_readCamp_12 rfl ?_
        refine F_cV1i (v_fail (d := 5) h1 h2 h3 3) dX2_readCamp_13 rfl rfl (by decide) rfl rfl rfl rfl (by decide) (Nat.le_of_ble_eq_true rfl) (by omega) ?_
        refine F_zret dX2_readCamp_16 rfl (by first | exact Or.inl rfl | exact Or.inr rfl | exact bI_01 _) ?_
        exact hQ
    · obtain ⟨q, hw, hM2⟩ := hW σM hM
      obtain ⟨m1, -, m5, m6, m7⟩ := hM
      have hne := fl_ne (k := 3) (by omega) (by omega) hp4
      refine ⟨up (atS σM q (tps b L i)) 116 7 (nI (3 + 8 * tps b L i)), mV_of fun Q hQ => ?_, rfl, (MFr.atS _ _ _).trans (MFr.fault _ _)⟩
      refine F_aload_n dX5_statement_0 rfl ?_
      refine F_cV0i (hw) dX5_statement_1 rfl rfl (by decide) rfl rfl rfl rfl (by decide) (Nat.le_of_ble_eq_true rfl) (by omega) ?_
      refine F_istore_n dX5_statement_4 (Nat.le_of_ble_eq_true rfl) ?_
      refine F_iload_n dX5_statement_5 rfl ?_
      refine F_iconst (v := nI 0) dX5_statement_6 rfl ?_
      refine F_bipush (v := nI 7) dX5_statement_7 rfl ?_
      refine F_bipush (v := nI 18) dX5_statement_9 rfl ?_
      refine F_bipush (v := nI 15) dX5_statement_11 rfl ?_
      refine F_bipush (v := nI 21) dX5_statement_13 rfl ?_
      refine F_bipush (v := nI 16) dX5_statement_15 rfl ?_
      refine F_cS6i (v_letters (d := 5) _ _ _ _ _ _) dX5_statement_17 rfl rfl rfl (by decide) (Nat.le_of_ble_eq_true rfl) (by omega) ?_
      refine F_icmp_neN (tgt := 75) dX5_statement_20 rfl (by omega) (by omega) (fun c20 => ?_) (fun c20 => ?_)
      · refine F_iload_n dX5_statement_75 rfl ?_
        refine F_iconst (v := nI 0) dX5_statement_76 rfl ?_
        refine F_iconst (v := nI 0) dX5_statement_77 rfl ?_
        refine F_bipush (v := nI 12) dX5_statement_78 rfl ?_
        refine F_bipush (v := nI 15) dX5_statement_80 rfl ?_
        refine F_iconst (v := nI 1) dX5_statement_82 rfl ?_
        refine F_iconst (v := nI 4) dX5_statement_83 rfl ?_
        refine F_cS6i (v_letters (d := 5) _ _ _ _ _ _) dX5_statement_84 rfl rfl rfl (by decide) (Nat.le_of_ble_eq_true rfl) (by omega) ?_
        refine F_icmp_neN (tgt := 140) dX5_statement_87 rfl (by omega) (by omega) (fun c87 => ?_) (fun c87 => ?_)
        · refine F_iload_n dX5_statement_140 rfl ?_
          refine F_iconst (v := nI 0) dX5_statement_141 rfl ?_
          refine F_iconst (v := nI 0) dX5_statement_142 rfl ?_
          refine F_iconst (v := nI 3) dX5_statement_143 rfl ?_
          refine F_iconst (v := nI 1) dX5_statement_144 rfl ?_
          refine F_bipush (v := nI 13) dX5_statement_145 rfl ?_
          refine F_bipush (v := nI 16) dX5_statement_147 rfl ?_
          refine F_cS6i (v_letters (d := 5) _ _ _ _ _ _) dX5_statement_149 rfl rfl rfl (by decide) (Nat.le_of_ble_eq_true rfl) (by omega) ?_
          refine F_icmp_neN (tgt := 204) dX5_statement_152 rfl (by omega) (by omega) (fun c152 => ?_) (fun c152 => ?_)
          · exact absurd rfl c152
          · refine F_aload_n dX5_statement_155 rfl ?_
            refine F_cV0i (v_camps (d := 5)) dX5_statement_156 rfl rfl (by decide) rfl rfl rfl rfl (by decide) (Nat.le_of_ble_eq_true rfl) (by omega) ?_
            refine F_top (y := nI c) (show σM 117 14 = nI c by rw [m6]; exact hb.2.2.2.1) ?_
            refine F_iconst (v := nI 4) dX5_statement_159 rfl ?_
            refine F_icmp_neN (tgt := 172) dX5_statement_160 rfl (by omega) (by omega) (fun c160 => ?_) (fun c160 => ?_)
            · exact absurd hfull c160
            · refine F_aload_n dX5_statement_163 rfl ?_
              refine F_iconst (v := nI 3) dX5_statement_164 rfl ?_
              refine F_aload_n dX5_statement_165 rfl ?_
              refine F_getE (v := nI (tps b L i)) dX5_statement_166 rfl rfl rfl rfl rfl ?_
              refine F_cV2v (v_failsB (d := 5) 3 (tps b L i) m5) dX5_statement_169 rfl rfl (by decide) rfl rfl rfl rfl (by decide) (Nat.le_of_ble_eq_true rfl) (by omega) ?_
              refine F_aload_n dX5_statement_172 rfl ?_
              refine F_iconst (v := nI 0) dX5_statement_173 rfl ?_
              refine F_bipush (v := nI 69) dX5_statement_174 rfl ?_
              refine F_cV2i (v_numberX (d := 5) _ _ hne) dX5_statement_176 rfl rfl (by decide) rfl rfl rfl rfl (by decide) (Nat.le_of_ble_eq_true rfl) (by omega) ?_
              refine F_istore_n dX5_statement_179 (Nat.le_of_ble_eq_true rfl) ?_
              refine F_aload_n dX5_statement_180 rfl ?_
              refine F_iload_n dX5_statement_181 rfl ?_
              refine F_bipush (v := nI 69) dX5_statement_182 rfl ?_
              refine F_cV2i (v_numberX (d := 5) _ _ hne) dX5_statement_184 rfl rfl (by decide) rfl rfl rfl rfl (by decide) (Nat.le_of_ble_eq_true rfl) (by omega) ?_
              refine F_istore_n dX5_statement_187 (Nat.le_of_ble_eq_true rfl) ?_
              refine F_aload_n dX5_statement_188 rfl ?_
              refine F_geti dX5_statement_189 rfl rfl rfl rfl ?_
              refine F_if_ne (tgt := 201) dX5_statement_192 rfl (fun c192 => ?_) (fun c192 => ?_)
              · refine F_goto (tgt := 312) dX5_statement_201 rfl ?_
                refine F_vret dX5_statement_312 rfl ?_
                exact hQ
              · exact absurd c192 hne
        · exact absurd (Decidable.not_not.mp c87) (by decide)
      · exact absurd (Decidable.not_not.mp c20) (by decide)
  · have hB1 := hB.step hlt
    obtain hN | ⟨k, k0, k3, ke, kn, hN, hNM⟩ := num (G := G) (d := 6) h4 hby hB1 (nI 0) (nI 69)
    rotate_left
    · refine ⟨false, up (up σB 13 2 (nI (i + 1))) 13 3 (nI (k + 8 * tps b L (i + 1))), mV_of fun Q hQ => ?_, (BFr.t _ _ _).trans (BFr.t _ _ _), Or.inr ⟨rfl, k + 8 * tps b L (i + 1), by omega, by omega, rfl, fun σM hM => ?_⟩⟩
      · refine F_aload_n dX2_readCamp_0 rfl ?_
        refine F_getr dX2_readCamp_1 rfl rfl rfl rfl ?_
        refine F_getE (v := nI c) dX2_readCamp_4 rfl rfl rfl rfl hg0 ?_
        refine F_iconst (v := nI 4) dX2_readCamp_7 rfl ?_
        refine F_icmp_ltN (tgt := 17) dX2_readCamp_8 rfl (by omega) (by omega) (fun c8 => ?_) (fun c8 => ?_)
        · refine F_aload_n dX2_readCamp_17 rfl ?_
          refine F_cV0v (v_step (d := 5) h1 h2 h3 hlt) dX2_readCamp_18 rfl rfl (by decide) rfl rfl rfl rfl (by decide) (Nat.le_of_ble_eq_true rfl) (by omega) ?_
          refine F_aload_n dX2_readCamp_21 rfl ?_
          refine F_iconst (v := nI 0) dX2_readCamp_22 rfl ?_
          refine F_bipush (v := nI 69) dX2_readCamp_23 rfl ?_
          refine F_cV2i (hN) dX2_readCamp_25 rfl rfl (by decide) rfl rfl rfl rfl (by decide) (Nat.le_of_ble_eq_true rfl) (by omega) ?_
          refine F_istore_n dX2_readCamp_28 (Nat.le_of_ble_eq_true rfl) ?_
          refine F_iload_n dX2_readCamp_29 rfl ?_
          refine F_iconst (v := (-1)) dX2_readCamp_30 rfl ?_
          refine F_icmp_ne (tgt := 38) dX2_readCamp_31 rfl (fun c31 => ?_) (fun c31 => ?_)
          · exact absurd rfl c31
          · refine F_iconst (v := (-1)) dX2_readCamp_34 rfl ?_
            refine F_goto (tgt := 45) dX2_readCamp_35 rfl ?_
            refine F_istore_n dX2_readCamp_45 (Nat.le_of_ble_eq_true rfl) ?_
            refine F_iload_n dX2_readCamp_46 rfl ?_
            refine F_iconst (v := (-1)) dX2_readCamp_47 rfl ?_
            refine F_icmp_ne (tgt := 53) dX2_readCamp_48 rfl (fun c48 => ?_) (fun c48 => ?_)
            · exact absurd rfl c48
            · refine F_iconst (v := nI 0) dX2_readCamp_51 rfl ?_
              refine F_zret dX2_readCamp_52 rfl (by first | exact Or.inl rfl | exact Or.inr rfl | exact bI_01 _) ?_
              exact hQ
        · exact absurd (show c < 4 by omega) c8
      · obtain ⟨q, hw, hM2⟩ := hW σM hM
        obtain ⟨v, τ, x1, x2, x3, x4, x5⟩ := hNM _ _ hM2
        obtain ⟨m1, -, m5, m6, m7⟩ := hM
        have hne := fl_ne k0 (show k < 5 by omega) hp5
        have hne2 : ¬ τ 116 7 = 0 := by rw [x2]; exact hne
        refine ⟨τ, mV_of fun Q hQ => ?_, x2, (MFr.atS _ _ _).trans x5⟩
        refine F_aload_n dX5_statement_0 rfl ?_
        refine F_cV0i (hw) dX5_statement_1 rfl rfl (by decide) rfl rfl rfl rfl (by decide) (Nat.le_of_ble_eq_true rfl) (by omega) ?_
        refine F_istore_n dX5_statement_4 (Nat.le_of_ble_eq_true rfl) ?_
        refine F_iload_n dX5_statement_5 rfl ?_
        refine F_iconst (v := nI 0) dX5_statement_6 rfl ?_
        refine F_bipush (v := nI 7) dX5_statement_7 rfl ?_
        refine F_bipush (v := nI 18) dX5_statement_9 rfl ?_
        refine F_bipush (v := nI 15) dX5_statement_11 rfl ?_
        refine F_bipush (v := nI 21) dX5_statement_13 rfl ?_
        refine F_bipush (v := nI 16) dX5_statement_15 rfl ?_
        refine F_cS6i (v_letters (d := 5) _ _ _ _ _ _) dX5_statement_17 rfl rfl rfl (by decide) (Nat.le_of_ble_eq_true rfl) (by omega) ?_
        refine F_icmp_neN (tgt := 75) dX5_statement_20 rfl (by omega) (by omega) (fun c20 => ?_) (fun c20 => ?_)
        · refine F_iload_n dX5_statement_75 rfl ?_
          refine F_iconst (v := nI 0) dX5_statement_76 rfl ?_
          refine F_iconst (v := nI 0) dX5_statement_77 rfl ?_
          refine F_bipush (v := nI 12) dX5_statement_78 rfl ?_
          refine F_bipush (v := nI 15) dX5_statement_80 rfl ?_
          refine F_iconst (v := nI 1) dX5_statement_82 rfl ?_
          refine F_iconst (v := nI 4) dX5_statement_83 rfl ?_
          refine F_cS6i (v_letters (d := 5) _ _ _ _ _ _) dX5_statement_84 rfl rfl rfl (by decide) (Nat.le_of_ble_eq_true rfl) (by omega) ?_
          refine F_icmp_neN (tgt := 140) dX5_statement_87 rfl (by omega) (by omega) (fun c87 => ?_) (fun c87 => ?_)
          · refine F_iload_n dX5_statement_140 rfl ?_
            refine F_iconst (v := nI 0) dX5_statement_141 rfl ?_
            refine F_iconst (v := nI 0) dX5_statement_142 rfl ?_
            refine F_iconst (v := nI 3) dX5_statement_143 rfl ?_
            refine F_iconst (v := nI 1) dX5_statement_144 rfl ?_
            refine F_bipush (v := nI 13) dX5_statement_145 rfl ?_
            refine F_bipush (v := nI 16) dX5_statement_147 rfl ?_
            refine F_cS6i (v_letters (d := 5) _ _ _ _ _ _) dX5_statement_149 rfl rfl rfl (by decide) (Nat.le_of_ble_eq_true rfl) (by omega) ?_
            refine F_icmp_neN (tgt := 204) dX5_statement_152 rfl (by omega) (by omega) (fun c152 => ?_) (fun c152 => ?_)
            · exact absurd rfl c152
            · refine F_aload_n dX5_statement_155 rfl ?_
              refine F_cV0i (v_camps (d := 5)) dX5_statement_156 rfl rfl (by decide) rfl rfl rfl rfl (by decide) (Nat.le_of_ble_eq_true rfl) (by omega) ?_
              refine F_top (y := nI c) (show σM 117 14 = nI c by rw [m6]; exact hb.2.2.2.1) ?_
              refine F_iconst (v := nI 4) dX5_statement_159 rfl ?_
              refine F_icmp_neN (tgt := 172) dX5_statement_160 rfl (by omega) (by omega) (fun c160 => ?_) (fun c160 => ?_)
              · refine F_aload_n dX5_statement_172 rfl ?_
                refine F_iconst (v := nI 0) dX5_statement_173 rfl ?_
                refine F_bipush (v := nI 69) dX5_statement_174 rfl ?_
                refine F_cV2i (x1) dX5_statement_176 rfl rfl (by decide) rfl rfl rfl rfl (by decide) (Nat.le_of_ble_eq_true rfl) (by omega) ?_
                refine F_istore_n dX5_statement_179 (Nat.le_of_ble_eq_true rfl) ?_
                refine F_aload_n dX5_statement_180 rfl ?_
                refine F_iload_n dX5_statement_181 rfl ?_
                refine F_bipush (v := nI 69) dX5_statement_182 rfl ?_
                refine F_cV2i (v_numberX (d := 5) _ _ hne2) dX5_statement_184 rfl rfl (by decide) rfl rfl rfl rfl (by decide) (Nat.le_of_ble_eq_true rfl) (by omega) ?_
                refine F_istore_n dX5_statement_187 (Nat.le_of_ble_eq_true rfl) ?_
                refine F_aload_n dX5_statement_188 rfl ?_
                refine F_geti dX5_statement_189 rfl rfl rfl rfl ?_
                refine F_if_ne (tgt := 201) dX5_statement_192 rfl (fun c192 => ?_) (fun c192 => ?_)
                · refine F_goto (tgt := 312) dX5_statement_201 rfl ?_
                  refine F_vret dX5_statement_312 rfl ?_
                  exact hQ
                · exact absurd c192 hne2
              · exact absurd (Decidable.not_not.mp c160) hfull
          · exact absurd (Decidable.not_not.mp c87) (by decide)
        · exact absurd (Decidable.not_not.mp c20) (by decide)
    obtain ⟨t1, r1, lt1, hN, hB2, hNM⟩ := hN
    have v1 := tkv_le b L (tps b L (i + 1))
    obtain hN2 | ⟨k, k0, k3, ke, kn, hN2, hNM2⟩ := num (G := G) (d := 6) h4 hby hB2 (nI (tkv b L (tps b L (i + 1)))) (nI 69)
    rotate_left
    · refine ⟨false, up (up (up σB 13 2 (nI (i + 1))) 13 2 (nI (i + 1 + 1))) 13 3 (nI (k + 8 * tps b L (i + 1 + 1))), mV_of fun Q hQ => ?_, ((BFr.t _ _ _).trans (BFr.t _ _ _)).trans (BFr.t _ _ _), Or.inr ⟨rfl, k + 8 * tps b L (i + 1 + 1), by omega, by omega, rfl, fun σM hM => ?_⟩⟩
      · refine F_aload_n dX2_readCamp_0 rfl ?_
        refine F_getr dX2_readCamp_1 rfl rfl rfl rfl ?_
        refine F_getE (v := nI c) dX2_readCamp_4 rfl rfl rfl rfl hg0 ?_
        refine F_iconst (v := nI 4) dX2_readCamp_7 rfl ?_
        refine F_icmp_ltN (tgt := 17) dX2_readCamp_8 rfl (by omega) (by omega) (fun c8 => ?_) (fun c8 => ?_)
        · refine F_aload_n dX2_readCamp_17 rfl ?_
          refine F_cV0v (v_step (d := 5) h1 h2 h3 hlt) dX2_readCamp_18 rfl rfl (by decide) rfl rfl rfl rfl (by decide) (Nat.le_of_ble_eq_true rfl) (by omega) ?_
          refine F_aload_n dX2_readCamp_21 rfl ?_
          refine F_iconst (v := nI 0) dX2_readCamp_22 rfl ?_
          refine F_bipush (v := nI 69) dX2_readCamp_23 rfl ?_
          refine F_cV2i (hN) dX2_readCamp_25 rfl rfl (by decide) rfl rfl rfl rfl (by decide) (Nat.le_of_ble_eq_true rfl) (by omega) ?_
          refine F_istore_n dX2_readCamp_28 (Nat.le_of_ble_eq_true rfl) ?_
          refine F_iload_n dX2_readCamp_29 rfl ?_
          refine F_iconst (v := (-1)) dX2_readCamp_30 rfl ?_
          refine F_icmp_ne (tgt := 38) dX2_readCamp_31 rfl (fun c31 => ?_) (fun c31 => ?_)
          · refine F_aload_n dX2_readCamp_38 rfl ?_
            refine F_iload_n dX2_readCamp_39 rfl ?_
            refine F_bipush (v := nI 69) dX2_readCamp_40 rfl ?_
            refine F_cV2i (hN2) dX2_readCamp_42 rfl rfl (by decide) rfl rfl rfl rfl (by decide) (Nat.le_of_ble_eq_true rfl) (by omega) ?_
            refine F_istore_n dX2_readCamp_45 (Nat.le_of_ble_eq_true rfl) ?_
            refine F_iload_n dX2_readCamp_46 rfl ?_
            refine F_iconst (v := (-1)) dX2_readCamp_47 rfl ?_
            refine F_icmp_ne (tgt := 53) dX2_readCamp_48 rfl (fun c48 => ?_) (fun c48 => ?_)
            · exact absurd rfl c48
            · refine F_iconst (v := nI 0) dX2_readCamp_51 rfl ?_
              refine F_zret dX2_readCamp_52 rfl (by first | exact Or.inl rfl | exact Or.inr rfl | exact bI_01 _) ?_
              exact hQ
          · exact absurd c31 (nI_n1 (by omega))
        · exact absurd (show c < 4 by omega) c8
      · obtain ⟨q, hw, hM2⟩ := hW σM hM
        obtain ⟨q2, hx, hM3⟩ := hNM _ _ hM2
        obtain ⟨v, τ, x1, x2, x3, x4, x5⟩ := hNM2 _ _ hM3
        obtain ⟨m1, -, m5, m6, m7⟩ := hM
        have hne := fl_ne k0 (show k < 5 by omega) hp6
        have hne2 : ¬ τ 116 7 = 0 := by rw [x2]; exact hne
        refine ⟨τ, mV_of fun Q hQ => ?_, x2, ((MFr.atS _ _ _).trans (MFr.atS _ _ _)).trans x5⟩
        refine F_aload_n dX5_statement_0 rfl ?_
        refine F_cV0i (hw) dX5_statement_1 rfl rfl (by decide) rfl rfl rfl rfl (by decide) (Nat.le_of_ble_eq_true rfl) (by omega) ?_
        refine F_istore_n dX5_statement_4 (Nat.le_of_ble_eq_true rfl) ?_
        refine F_iload_n dX5_statement_5 rfl ?_
        refine F_iconst (v := nI 0) dX5_statement_6 rfl ?_
        refine F_bipush (v := nI 7) dX5_statement_7 rfl ?_
        refine F_bipush (v := nI 18) dX5_statement_9 rfl ?_
        refine F_bipush (v := nI 15) dX5_statement_11 rfl ?_
        refine F_bipush (v := nI 21) dX5_statement_13 rfl ?_
        refine F_bipush (v := nI 16) dX5_statement_15 rfl ?_
        refine F_cS6i (v_letters (d := 5) _ _ _ _ _ _) dX5_statement_17 rfl rfl rfl (by decide) (Nat.le_of_ble_eq_true rfl) (by omega) ?_
        refine F_icmp_neN (tgt := 75) dX5_statement_20 rfl (by omega) (by omega) (fun c20 => ?_) (fun c20 => ?_)
        · refine F_iload_n dX5_statement_75 rfl ?_
          refine F_iconst (v := nI 0) dX5_statement_76 rfl ?_
          refine F_iconst (v := nI 0) dX5_statement_77 rfl ?_
          refine F_bipush (v := nI 12) dX5_statement_78 rfl ?_
          refine F_bipush (v := nI 15) dX5_statement_80 rfl ?_
          refine F_iconst (v := nI 1) dX5_statement_82 rfl ?_
          refine F_iconst (v := nI 4) dX5_statement_83 rfl ?_
          refine F_cS6i (v_letters (d := 5) _ _ _ _ _ _) dX5_statement_84 rfl rfl rfl (by decide) (Nat.le_of_ble_eq_true rfl) (by omega) ?_
          refine F_icmp_neN (tgt := 140) dX5_statement_87 rfl (by omega) (by omega) (fun c87 => ?_) (fun c87 => ?_)
          · refine F_iload_n dX5_statement_140 rfl ?_
            refine F_iconst (v := nI 0) dX5_statement_141 rfl ?_
            refine F_iconst (v := nI 0) dX5_statement_142 rfl ?_
            refine F_iconst (v := nI 3) dX5_statement_143 rfl ?_
            refine F_iconst (v := nI 1) dX5_statement_144 rfl ?_
            refine F_bipush (v := nI 13) dX5_statement_145 rfl ?_
            refine F_bipush (v := nI 16) dX5_statement_147 rfl ?_
            refine F_cS6i (v_letters (d := 5) _ _ _ _ _ _) dX5_statement_149 rfl rfl rfl (by decide) (Nat.le_of_ble_eq_true rfl) (by omega) ?_
            refine F_icmp_neN (tgt := 204) dX5_statement_152 rfl (by omega) (by omega) (fun c152 => ?_) (fun c152 => ?_)
            · exact absurd rfl c152
            · refine F_aload_n dX5_statement_155 rfl ?_
              refine F_cV0i (v_camps (d := 5)) dX5_statement_156 rfl rfl (by decide) rfl rfl rfl rfl (by decide) (Nat.le_of_ble_eq_true rfl) (by omega) ?_
              refine F_top (y := nI c) (show σM 117 14 = nI c by rw [m6]; exact hb.2.2.2.1) ?_
              refine F_iconst (v := nI 4) dX5_statement_159 rfl ?_
              refine F_icmp_neN (tgt := 172) dX5_statement_160 rfl (by omega) (by omega) (fun c160 => ?_) (fun c160 => ?_)
              · refine F_aload_n dX5_statement_172 rfl ?_
                refine F_iconst (v := nI 0) dX5_statement_173 rfl ?_
                refine F_bipush (v := nI 69) dX5_statement_174 rfl ?_
                refine F_cV2i (hx) dX5_statement_176 rfl rfl (by decide) rfl rfl rfl rfl (by decide) (Nat.le_of_ble_eq_true rfl) (by omega) ?_
                refine F_istore_n dX5_statement_179 (Nat.le_of_ble_eq_true rfl) ?_
                refine F_aload_n dX5_statement_180 rfl ?_
                refine F_iload_n dX5_statement_181 rfl ?_
                refine F_bipush (v := nI 69) dX5_statement_182 rfl ?_
                refine F_cV2i (x1) dX5_statement_184 rfl rfl (by decide) rfl rfl rfl rfl (by decide) (Nat.le_of_ble_eq_true rfl) (by omega) ?_
                refine F_istore_n dX5_statement_187 (Nat.le_of_ble_eq_true rfl) ?_
                refine F_aload_n dX5_statement_188 rfl ?_
                refine F_geti dX5_statement_189 rfl rfl rfl rfl ?_
                refine F_if_ne (tgt := 201) dX5_statement_192 rfl (fun c192 => ?_) (fun c192 => ?_)
                · refine F_goto (tgt := 312) dX5_statement_201 rfl ?_
                  refine F_vret dX5_statement_312 rfl ?_
                  exact hQ
                · exact absurd c192 hne2
              · exact absurd (Decidable.not_not.mp c160) hfull
          · exact absurd (Decidable.not_not.mp c87) (by decide)
        · exact absurd (Decidable.not_not.mp c20) (by decide)
    obtain ⟨t2, r2, lt2, hN2, hB3, hNM2⟩ := hN2
    have v2 := tkv_le b L (tps b L (i + 1 + 1))
    have hg3 : (up (up (up σB 13 2 (nI (i + 1))) 13 2 (nI (i + 1 + 1))) 13 2 (nI (i + 1 + 1 + 1))) 19 4 = nI c := hg0
    refine ⟨true, up (up (up (up (up (up σB 13 2 (nI (i + 1))) 13 2 (nI (i + 1 + 1))) 13 2 (nI (i + 1 + 1 + 1))) 23 c (nI (tkv b L (tps b L (i + 1))))) 24 c (nI (tkv b L (tps b L (i + 1 + 1))))) 19 4 (nI (c + 1)), mV_of fun Q hQ => ?_, fun z z1 z2 => ?_, Or.inl ⟨rfl, i + 1 + 1 + 1, campComesF f c (nI (tkv b L (tps b L (i + 1)))) (nI (tkv b L (tps b L (i + 1 + 1)))), n, c + 1, by omega, ?_, fun σM hM => ?_⟩⟩
    · refine F_aload_n dX2_readCamp_0 rfl ?_
      refine F_getr dX2_readCamp_1 rfl rfl rfl rfl ?_
      refine F_getE (v := nI c) dX2_readCamp_4 rfl rfl rfl rfl hg0 ?_
      refine F_iconst (v := nI 4) dX2_readCamp_7 rfl ?_
      refine F_icmp_ltN (tgt := 17) dX2_readCamp_8 rfl (by omega) (by omega) (fun c8 => ?_) (fun c8 => ?_)
      · refine F_aload_n dX2_readCamp_17 rfl ?_
        refine F_cV0v (v_step (d := 5) h1 h2 h3 hlt) dX2_readCamp_18 rfl rfl (by decide) rfl rfl rfl rfl (by decide) (Nat.le_of_ble_eq_true rfl) (by omega) ?_
        refine F_aload_n dX2_readCamp_21 rfl ?_
        refine F_iconst (v := nI 0) dX2_readCamp_22 rfl ?_
        refine F_bipush (v := nI 69) dX2_readCamp_23 rfl ?_
        refine F_cV2i (hN) dX2_readCamp_25 rfl rfl (by decide) rfl rfl rfl rfl (by decide) (Nat.le_of_ble_eq_true rfl) (by omega) ?_
        refine F_istore_n dX2_readCamp_28 (Nat.le_of_ble_eq_true rfl) ?_
        refine F_iload_n dX2_readCamp_29 rfl ?_
        refine F_iconst (v := (-1)) dX2_readCamp_30 rfl ?_
        refine F_icmp_ne (tgt := 38) dX2_readCamp_31 rfl (fun c31 => ?_) (fun c31 => ?_)
        · refine F_aload_n dX2_readCamp_38 rfl ?_
          refine F_iload_n dX2_readCamp_39 rfl ?_
          refine F_bipush (v := nI 69) dX2_readCamp_40 rfl ?_
          refine F_cV2i (hN2) dX2_readCamp_42 rfl rfl (by decide) rfl rfl rfl rfl (by decide) (Nat.le_of_ble_eq_true rfl) (by omega) ?_
          refine F_istore_n dX2_readCamp_45 (Nat.le_of_ble_eq_true rfl) ?_
          refine F_iload_n dX2_readCamp_46 rfl ?_
          refine F_iconst (v := (-1)) dX2_readCamp_47 rfl ?_
          refine F_icmp_ne (tgt := 53) dX2_readCamp_48 rfl (fun c48 => ?_) (fun c48 => ?_)
          · refine F_aload_n dX2_readCamp_53 rfl ?_
            refine F_getr dX2_readCamp_54 rfl rfl rfl rfl ?_
            refine F_iload_n dX2_readCamp_57 rfl ?_
            refine F_iload_n dX2_readCamp_58 rfl ?_
            refine F_cV2v (v_addCamp (d := 5) isTold_19 _ _ hg3 (by omega)) dX2_readCamp_59 rfl rfl (by decide) rfl rfl rfl rfl (by decide) (Nat.le_of_ble_eq_true rfl) (by omega) ?_
            refine F_iconst (v := nI 1) dX2_readCamp_62 rfl ?_
            refine F_zret dX2_readCamp_63 rfl (by first | exact Or.inl rfl | exact Or.inr rfl | exact bI_01 _) ?_
            exact hQ
          · exact absurd c48 (nI_n1 (by omega))
        · exact absurd c31 (nI_n1 (by omega))
      · exact absurd (show c < 4 by omega) c8
    · rw [up_n _ _ _ (by omega), up_n _ _ _ (by omega), up_n _ _ _ (by omega), up_n _ _ _ z1, up_n _ _ _ z1, up_n _ _ _ z1]
    · obtain ⟨g1, g2, g3, g4, g5⟩ := hB3
      refine ⟨g1.rows (fun z z1 z2 => by rw [up_n _ _ _ (by omega), up_n _ _ _ (by omega), up_n _ _ _ (by omega)]), g2, g3, g4, ?_⟩
      rw [inR_nI (by decide) (by omega) (by omega), Bool.and_eq_true_iff, decide_eq_true_eq, decide_eq_true_eq] at r2
      exact TRf.camp g5 (by omega) r2.1 (by omega)
    · obtain ⟨q, hw, hM2⟩ := hW σM hM
      obtain ⟨q2, hx, hM3⟩ := hNM _ _ hM2
      obtain ⟨q3, hx2, hM4⟩ := hNM2 _ _ hM3
      obtain ⟨m1, -, m5, m6, m7⟩ := hM
      obtain ⟨l1, l2, l3, l4, l5⟩ := hM4
      refine ⟨upR (atS (atS (atS σM q (tps b L i)) q2 (tps b L (i + 1))) q3 (tps b L (i + 1 + 1))) 117 (campComesF f c (nI (tkv b L (tps b L (i + 1)))) (nI (tkv b L (tps b L (i + 1 + 1))))), mV_of fun Q hQ => ?_, ⟨l1, l2, l3, rfl, l5⟩, (((MFr.atS _ _ _).trans (MFr.atS _ _ _)).trans (MFr.atS _ _ _)).trans (MFr.pl _ _)⟩
      have hcm := v_campComes (G := G) (d := 5) (σ := atS (atS (atS σM q (tps b L i)) q2 (tps b L (i + 1))) q3 (tps b L (i + 1 + 1))) (nI (tkv b L (tps b L (i + 1)))) (nI (tkv b L (tps b L (i + 1 + 1)))) (c := c) (by rw [l4]; exact hb.2.2.2.1) (by omega)
      rw [l4] at hcm
      refine F_aload_n dX5_statement_0 rfl ?_
      refine F_cV0i (hw) dX5_statement_1 rfl rfl (by decide) rfl rfl rfl rfl (by decide) (Nat.le_of_ble_eq_true rfl) (by omega) ?_
      refine F_istore_n dX5_statement_4 (Nat.le_of_ble_eq_true rfl) ?_
      refine F_iload_n dX5_statement_5 rfl ?_
      refine F_iconst (v := nI 0) dX5_statement_6 rfl ?_
      refine F_bipush (v := nI 7) dX5_statement_7 rfl ?_
      refine F_bipush (v := nI 18) dX5_statement_9 rfl ?_
      refine F_bipush (v := nI 15) dX5_statement_11 rfl ?_
      refine F_bipush (v := nI 21) dX5_statement_13 rfl ?_
      refine F_bipush (v := nI 16) dX5_statement_15 rfl ?_
      refine F_cS6i (v_letters (d := 5) _ _ _ _ _ _) dX5_statement_17 rfl rfl rfl (by decide) (Nat.le_of_ble_eq_true rfl) (by omega) ?_
      refine F_icmp_neN (tgt := 75) dX5_statement_20 rfl (by omega) (by omega) (fun c20 => ?_) (fun c20 => ?_)
      · refine F_iload_n dX5_statement_75 rfl ?_
        refine F_iconst (v := nI 0) dX5_statement_76 rfl ?_
        refine F_iconst (v := nI 0) dX5_statement_77 rfl ?_
        refine F_bipush (v := nI 12) dX5_statement_78 rfl ?_
        refine F_bipush (v := nI 15) dX5_statement_80 rfl ?_
        refine F_iconst (v := nI 1) dX5_statement_82 rfl ?_
        refine F_iconst (v := nI 4) dX5_statement_83 rfl ?_
        refine F_cS6i (v_letters (d := 5) _ _ _ _ _ _) dX5_statement_84 rfl rfl rfl (by decide) (Nat.le_of_ble_eq_true rfl) (by omega) ?_
        refine F_icmp_neN (tgt := 140) dX5_statement_87 rfl (by omega) (by omega) (fun c87 => ?_) (fun c87 => ?_)
        · refine F_iload_n dX5_statement_140 rfl ?_
          refine F_iconst (v := nI 0) dX5_statement_141 rfl ?_
          refine F_iconst (v := nI 0) dX5_statement_142 rfl ?_
          refine F_iconst (v := nI 3) dX5_statement_143 rfl ?_
          refine F_iconst (v := nI 1) dX5_statement_144 rfl ?_
          refine F_bipush (v := nI 13) dX5_statement_145 rfl ?_
          refine F_bipush (v := nI 16) dX5_statement_147 rfl ?_
          refine F_cS6i (v_letters (d := 5) _ _ _ _ _ _) dX5_statement_149 rfl rfl rfl (by decide) (Nat.le_of_ble_eq_true rfl) (by omega) ?_
          refine F_icmp_neN (tgt := 204) dX5_statement_152 rfl (by omega) (by omega) (fun c152 => ?_) (fun c152 => ?_)
          · exact absurd rfl c152
          · refine F_aload_n dX5_statement_155 rfl ?_
            refine F_cV0i (v_camps (d := 5)) dX5_statement_156 rfl rfl (by decide) rfl rfl rfl rfl (by decide) (Nat.le_of_ble_eq_true rfl) (by omega) ?_
            refine F_top (y := nI c) (show σM 117 14 = nI c by rw [m6]; exact hb.2.2.2.1) ?_
            refine F_iconst (v := nI 4) dX5_statement_159 rfl ?_
            refine F_icmp_neN (tgt := 172) dX5_statement_160 rfl (by omega) (by omega) (fun c160 => ?_) (fun c160 => ?_)
            · refine F_aload_n dX5_statement_172 rfl ?_
              refine F_iconst (v := nI 0) dX5_statement_173 rfl ?_
              refine F_bipush (v := nI 69) dX5_statement_174 rfl ?_
              refine F_cV2i (hx) dX5_statement_176 rfl rfl (by decide) rfl rfl rfl rfl (by decide) (Nat.le_of_ble_eq_true rfl) (by omega) ?_
              refine F_istore_n dX5_statement_179 (Nat.le_of_ble_eq_true rfl) ?_
              refine F_aload_n dX5_statement_180 rfl ?_
              refine F_iload_n dX5_statement_181 rfl ?_
              refine F_bipush (v := nI 69) dX5_statement_182 rfl ?_
              refine F_cV2i (hx2) dX5_statement_184 rfl rfl (by decide) rfl rfl rfl rfl (by decide) (Nat.le_of_ble_eq_true rfl) (by omega) ?_
              refine F_istore_n dX5_statement_187 (Nat.le_of_ble_eq_true rfl) ?_
              refine F_aload_n dX5_statement_188 rfl ?_
              refine F_geti dX5_statement_189 rfl rfl rfl rfl ?_
              refine F_if_ne (tgt := 201) dX5_statement_192 rfl (fun c192 => ?_) (fun c192 => ?_)
              · exact absurd m5 c192
              · refine F_aload_n dX5_statement_195 rfl ?_
                refine F_iload_n dX5_statement_196 rfl ?_
                refine F_iload_n dX5_statement_197 rfl ?_
                refine F_cV2v (hcm) dX5_statement_198 rfl rfl (by decide) rfl rfl rfl rfl (by decide) (Nat.le_of_ble_eq_true rfl) (by omega) ?_
                refine F_goto (tgt := 312) dX5_statement_201 rfl ?_
                refine F_vret dX5_statement_312 rfl ?_
                exact hQ
            · exact absurd (Decidable.not_not.mp c160) hfull
        · exact absurd (Decidable.not_not.mp c87) (by decide)
      · exact absurd (Decidable.not_not.mp c20) (by decide)

end ST2
