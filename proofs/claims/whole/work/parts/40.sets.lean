/-! ===== settings on both sides ===== -/
theorem set_in : ∀ k, k < 8 → nI 0 ≤ mLeast.getD k 0 ∧ mMost.getD k 0 ≤ nI 9999 := by decide +kernel
section ST4
variable {G : mG} {b : Nat → Int32} {L s i n c : Nat} {f : Nat → Int32} {σB : mS}
theorem s_set (h4 : L ≤ 400) (hby : ∀ k, k < L → isByte (b k)) (hB : LB σB b L s i f n c) (ht : tkn b L (tps b L i) = 9) : Sim G mX2_readSetting b L s i f σB := by
  obtain ⟨h1, h2, h3, h5, h6⟩ := id hB
  have hlt := h1.lt h3 (by rw [ht]; decide)
  have hp4 : tps b L i ≤ 400 := Nat.le_trans (tps_le b L i) h4
  have hp5 : tps b L (i + 1) ≤ 400 := Nat.le_trans (tps_le b L (i + 1)) h4
  have hp6 : tps b L (i + 1 + 1) ≤ 400 := Nat.le_trans (tps_le b L (i + 1 + 1)) h4
  have hb := h6.1
  have hn6 := hb.1
  have hc4 := hb.2.1
  have hW : ∀ σM, LM σM b L (tps b L i) f → ∃ q, mV G mX5_word 8 [.ref 116] σM (some (.int (nI 19636))) (atS σM q (tps b L i)) ∧ LM (atS σM q (tps b L i)) b L (tps b L (i + 1)) f := fun σM hM => by
    obtain ⟨v, q, w1, w2, w3, w4, w5⟩ := wrd (G := G) (d := 7) h4 hM
    rw [ht, if_pos (by decide)] at w3
    have e : v = 19636 := wtok_inv w3 (by decide)
    subst e
    exact ⟨q, w2, by rw [h1.next hlt]; exact w4 (by rw [ht]; decide)⟩
  have hB1 := hB.step hlt
  obtain hN | ⟨k, k0, k3, ke, kn, hN, hNM⟩ := num (G := G) (d := 6) h4 hby hB1 (nI 0) (nI 7)
  rotate_left
  · refine ⟨false, up (up σB 13 2 (nI (i + 1))) 13 3 (nI (k + 8 * (tps b L (i + 1)))), mV_of fun Q hQ => ?_, (BFr.t _ _ _).trans (BFr.t _ _ _), Or.inr ⟨rfl, k + 8 * (tps b L (i + 1)), by omega, by omega, rfl, fun σM hM => ?_⟩⟩
    · refine F_aload_n dX2_readSetting_0 rfl ?_
      refine F_cV0v (v_step (d := 5) h1 h2 h3 hlt) dX2_readSetting_1 rfl rfl (by decide) rfl rfl rfl rfl (by decide) (Nat.le_of_ble_eq_true rfl) (by omega) ?_
      refine F_aload_n dX2_readSetting_4 rfl ?_
      refine F_iconst (v := nI 0) dX2_readSetting_5 rfl ?_
      refine F_bipush (v := nI 7) dX2_readSetting_6 rfl ?_
      refine F_cV2i (hN) dX2_readSetting_8 rfl rfl (by decide) rfl rfl rfl rfl (by decide) (Nat.le_of_ble_eq_true rfl) (by omega) ?_
      refine F_istore_n dX2_readSetting_11 (Nat.le_of_ble_eq_true rfl) ?_
      refine F_iload_n dX2_readSetting_12 rfl ?_
      refine F_iconst (v := (-1)) dX2_readSetting_13 rfl ?_
      refine F_icmp_ne (tgt := 19) dX2_readSetting_14 rfl (fun c14 => ?_) (fun c14 => ?_)
      · exact absurd rfl c14
      · refine F_iconst (v := nI 0) dX2_readSetting_17 rfl ?_
        refine F_zret dX2_readSetting_18 rfl (by first | exact Or.inl rfl | exact Or.inr rfl | exact bI_01 _) ?_
        exact hQ
    · obtain ⟨q, hw, hM2⟩ := hW σM hM
      obtain ⟨v, τ, x1, x2, x3, x4, x5⟩ := hNM _ _ hM2
      have hne := fl_ne k0 (show k < 5 by omega) hp5
      have hne2 : ¬ τ 116 7 = 0 := by rw [x2]; exact hne
      refine ⟨τ, mV_of fun Q hQ => ?_, x2, (MFr.atS _ _ _).trans x5⟩
      refine F_aload_n dX5_statement_0 rfl ?_
      refine F_cV0i (hw) dX5_statement_1 rfl rfl (by decide) rfl rfl rfl rfl (by decide) (Nat.le_of_ble_eq_true rfl) (by omega) ?_
      refine F_istore_n dX5_statement_4 (Nat.le_of_ble_eq_true rfl) ?_
      refine F_iload_n dX5_statement_5 rfl ?_
      refine F_iconst (v := nI 0) dX5_statement_6 rfl ?_
      refine F_bipush (v := nI 7) dX5_statement_7 rfl ?_
      refine F_bipush (v := nI 18) dX5_statement_9 rfl ?_
      refine F_bipush (v := nI 15) dX5_statement_11 rfl ?_
      refine F_bipush (v := nI 21) dX5_statement_13 rfl ?_
      refine F_bipush (v := nI 16) dX5_statement_15 rfl ?_
      refine F_cS6i (v_letters (d := 5) _ _ _ _ _ _) dX5_statement_17 rfl rfl rfl (by decide) (Nat.le_of_ble_eq_true rfl) (by omega) ?_
      refine F_icmp_neN (tgt := 75) dX5_statement_20 rfl (by omega) (by omega) (fun c20 => ?_) (fun c20 => ?_)
      · refine F_iload_n dX5_statement_75 rfl ?_
        refine F_iconst (v := nI 0) dX5_statement_76 rfl ?_
        refine F_iconst (v := nI 0) dX5_statement_77 rfl ?_
        refine F_bipush (v := nI 12) dX5_statement_78 rfl ?_
        refine F_bipush (v := nI 15) dX5_statement_80 rfl ?_
        refine F_iconst (v := nI 1) dX5_statement_82 rfl ?_
        refine F_iconst (v := nI 4) dX5_statement_83 rfl ?_
        refine F_cS6i (v_letters (d := 5) _ _ _ _ _ _) dX5_statement_84 rfl rfl rfl (by decide) (Nat.le_of_ble_eq_true rfl) (by omega) ?_
        refine F_icmp_neN (tgt := 140) dX5_statement_87 rfl (by omega) (by omega) (fun c87 => ?_) (fun c87 => ?_)
        · refine F_iload_n dX5_statement_140 rfl ?_
          refine F_iconst (v := nI 0) dX5_statement_141 rfl ?_
          refine F_iconst (v := nI 0) dX5_statement_142 rfl ?_
          refine F_iconst (v := nI 3) dX5_statement_143 rfl ?_
          refine F_iconst (v := nI 1) dX5_statement_144 rfl ?_
          refine F_bipush (v := nI 13) dX5_statement_145 rfl ?_
          refine F_bipush (v := nI 16) dX5_statement_147 rfl ?_
          refine F_cS6i (v_letters (d := 5) _ _ _ _ _ _) dX5_statement_149 rfl rfl rfl (by decide) (Nat.le_of_ble_eq_true rfl) (by omega) ?_
          refine F_icmp_neN (tgt := 204) dX5_statement_152 rfl (by omega) (by omega) (fun c152 => ?_) (fun c152 => ?_)
          · refine F_iload_n dX5_statement_204 rfl ?_
            refine F_iconst (v := nI 0) dX5_statement_205 rfl ?_
            refine F_iconst (v := nI 0) dX5_statement_206 rfl ?_
            refine F_iconst (v := nI 0) dX5_statement_207 rfl ?_
            refine F_bipush (v := nI 19) dX5_statement_208 rfl ?_
            refine F_iconst (v := nI 5) dX5_statement_210 rfl ?_
            refine F_bipush (v := nI 20) dX5_statement_211 rfl ?_
            refine F_cS6i (v_letters (d := 5) _ _ _ _ _ _) dX5_statement_213 rfl rfl rfl (by decide) (Nat.le_of_ble_eq_true rfl) (by omega) ?_
            refine F_icmp_neN (tgt := 280) dX5_statement_216 rfl (by omega) (by omega) (fun c216 => ?_) (fun c216 => ?_)
            · exact absurd rfl c216
            · refine F_aload_n dX5_statement_219 rfl ?_
              refine F_iconst (v := nI 0) dX5_statement_220 rfl ?_
              refine F_bipush (v := nI 7) dX5_statement_221 rfl ?_
              refine F_cV2i (x1) dX5_statement_223 rfl rfl (by decide) rfl rfl rfl rfl (by decide) (Nat.le_of_ble_eq_true rfl) (by omega) ?_
              refine F_istore_n dX5_statement_226 (Nat.le_of_ble_eq_true rfl) ?_
              refine F_aload_n dX5_statement_227 rfl ?_
              refine F_iconst (v := nI 0) dX5_statement_228 rfl ?_
              refine F_sipush (v := nI 9999) dX5_statement_229 rfl ?_
              refine F_cV2i (v_numberX (d := 5) _ _ hne2) dX5_statement_232 rfl rfl (by decide) rfl rfl rfl rfl (by decide) (Nat.le_of_ble_eq_true rfl) (by omega) ?_
              refine F_istore_n dX5_statement_235 (Nat.le_of_ble_eq_true rfl) ?_
              refine F_aload_n dX5_statement_236 rfl ?_
              refine F_geti dX5_statement_237 rfl rfl rfl rfl ?_
              refine F_if_ne (tgt := 260) dX5_statement_240 rfl (fun c240 => ?_) (fun c240 => ?_)
              · refine F_aload_n dX5_statement_260 rfl ?_
                refine F_geti dX5_statement_261 rfl rfl rfl rfl ?_
                refine F_if_ne (tgt := 277) dX5_statement_264 rfl (fun c264 => ?_) (fun c264 => ?_)
                · refine F_goto (tgt := 312) dX5_statement_277 rfl ?_
                  refine F_vret dX5_statement_312 rfl ?_
                  exact hQ
                · exact absurd c264 hne2
              · exact absurd c240 hne2
          · exact absurd (Decidable.not_not.mp c152) (by decide)
        · exact absurd (Decidable.not_not.mp c87) (by decide)
      · exact absurd (Decidable.not_not.mp c20) (by decide)
  obtain ⟨t1, r1, lt1, hN, hB2, hNM⟩ := hN
  have v1 := tkv_le b L (tps b L (i + 1))
  have v2 := tkv_le b L (tps b L (i + 1 + 1))
  have hk8 : (tkv b L (tps b L (i + 1))) < 8 := by
    rw [inR_nI (by decide) (by decide) (by omega), Bool.and_eq_true_iff, decide_eq_true_eq, decide_eq_true_eq] at r1
    omega
  have hsi := set_in _ hk8
  obtain hNa | ⟨ka, ka0, ka3, kae, kan, hNa, -⟩ := num (G := G) (d := 6) h4 hby hB2 (mLeast.getD (tkv b L (tps b L (i + 1))) 0) (mMost.getD (tkv b L (tps b L (i + 1))) 0)
  · obtain ⟨t2, r2, lt2, hN2, hB3, -⟩ := hNa
    have hr9 : inR (nI (tkv b L (tps b L (i + 1 + 1)))) (nI 0) (nI 9999) = true := by
      simp only [inR, Bool.and_eq_true, decide_eq_true_eq] at r2 ⊢
      exact ⟨Int32.le_trans hsi.1 r2.1, Int32.le_trans r2.2 hsi.2⟩
    refine ⟨true, up (up (up (up σB 13 2 (nI (i + 1))) 13 2 (nI (i + 1 + 1))) 13 2 (nI (i + 1 + 1 + 1))) 26 (tkv b L (tps b L (i + 1))) (nI (tkv b L (tps b L (i + 1 + 1)))), mV_of fun Q hQ => ?_, fun z z1 z2 => ?_, Or.inl ⟨rfl, i + 1 + 1 + 1, upd f (6 + (tkv b L (tps b L (i + 1)))) (nI (tkv b L (tps b L (i + 1 + 1)))), n, c, by omega, ?_, fun σM hM => ?_⟩⟩
    · refine F_aload_n dX2_readSetting_0 rfl ?_
      refine F_cV0v (v_step (d := 5) h1 h2 h3 hlt) dX2_readSetting_1 rfl rfl (by decide) rfl rfl rfl rfl (by decide) (Nat.le_of_ble_eq_true rfl) (by omega) ?_
      refine F_aload_n dX2_readSetting_4 rfl ?_
      refine F_iconst (v := nI 0) dX2_readSetting_5 rfl ?_
      refine F_bipush (v := nI 7) dX2_readSetting_6 rfl ?_
      refine F_cV2i (hN) dX2_readSetting_8 rfl rfl (by decide) rfl rfl rfl rfl (by decide) (Nat.le_of_ble_eq_true rfl) (by omega) ?_
      refine F_istore_n dX2_readSetting_11 (Nat.le_of_ble_eq_true rfl) ?_
      refine F_iload_n dX2_readSetting_12 rfl ?_
      refine F_iconst (v := (-1)) dX2_readSetting_13 rfl ?_
      refine F_icmp_ne (tgt := 19) dX2_readSetting_14 rfl (fun c14 => ?_) (fun c14 => ?_)
      · refine F_aload_n dX2_readSetting_19 rfl ?_
        refine F_getstatic dX2_readSetting_20 rfl rfl ?_
        refine F_iload_n dX2_readSetting_23 rfl ?_
        refine F_ialdX dX2_readSetting_24 (by decide) hk8 (show 8 < 2 ^ 31 by decide) ?_
        refine F_getstatic dX2_readSetting_25 rfl rfl ?_
        refine F_iload_n dX2_readSetting_28 rfl ?_
        refine F_ialdX dX2_readSetting_29 (by decide) hk8 (show 8 < 2 ^ 31 by decide) ?_
        refine F_cV2i (hN2) dX2_readSetting_30 rfl rfl (by decide) rfl rfl rfl rfl (by decide) (Nat.le_of_ble_eq_true rfl) (by omega) ?_
        refine F_istore_n dX2_readSetting_33 (Nat.le_of_ble_eq_true rfl) ?_
        refine F_iload_n dX2_readSetting_34 rfl ?_
        refine F_iconst (v := (-1)) dX2_readSetting_35 rfl ?_
        refine F_icmp_ne (tgt := 41) dX2_readSetting_36 rfl (fun c36 => ?_) (fun c36 => ?_)
        · refine F_aload_n dX2_readSetting_41 rfl ?_
          refine F_getr dX2_readSetting_42 rfl rfl rfl rfl ?_
          refine F_getr dX2_readSetting_45 rfl rfl rfl rfl ?_
          refine F_iload_n dX2_readSetting_48 rfl ?_
          refine F_iload_n dX2_readSetting_49 rfl ?_
          refine F_iast dX2_readSetting_50 rfl (by decide) (by omega) ?_
          refine F_iconst (v := nI 1) dX2_readSetting_51 rfl ?_
          refine F_zret dX2_readSetting_52 rfl (by first | exact Or.inl rfl | exact Or.inr rfl | exact bI_01 _) ?_
          exact hQ
        · exact absurd c36 (nI_n1 (by omega))
      · exact absurd c14 (nI_n1 (by omega))
    · rw [up_n _ _ _ (by omega), up_n _ _ _ z1, up_n _ _ _ z1, up_n _ _ _ z1]
    · obtain ⟨y1, y2, y3, y4, y5⟩ := hB3
      refine ⟨y1.rows (fun z z1 z2 => by rw [up_n _ _ _ (by omega)]), y2, y3, y4, ?_⟩
      exact TRf.set y5 hk8 r2
    · obtain ⟨q, hw, hM2⟩ := hW σM hM
      obtain ⟨q2, hx, hM3⟩ := hNM _ _ hM2
      obtain ⟨-, -, -, -, -, hNM2⟩ | ⟨kb, -, -, -, kbn, -⟩ := num (G := G) (d := 6) h4 hby hB2 (nI 0) (nI 9999)
      rotate_left
      · exact absurd ⟨t2, hr9⟩ kbn
      obtain ⟨q3, hx2, hM4⟩ := hNM2 _ _ hM3
      obtain ⟨m1, -, m5, m6, m7⟩ := hM
      obtain ⟨l1, l2, l3, l4, l5⟩ := hM4
      refine ⟨up (atS (atS (atS σM q (tps b L i)) q2 (tps b L (i + 1))) q3 (tps b L (i + 1 + 1))) 117 (6 + (tkv b L (tps b L (i + 1)))) (nI (tkv b L (tps b L (i + 1 + 1)))), mV_of fun Q hQ => ?_, ⟨l1, l2, l3, ?_, l5⟩, (((MFr.atS _ _ _).trans (MFr.atS _ _ _)).trans (MFr.atS _ _ _)).trans (MFr.pl _ _)⟩
      rotate_left
      · show upd _ _ _ = _
        rw [l4]
      refine F_aload_n dX5_statement_0 rfl ?_
      refine F_cV0i (hw) dX5_statement_1 rfl rfl (by decide) rfl rfl rfl rfl (by decide) (Nat.le_of_ble_eq_true rfl) (by omega) ?_
      refine F_istore_n dX5_statement_4 (Nat.le_of_ble_eq_true rfl) ?_
      refine F_iload_n dX5_statement_5 rfl ?_
      refine F_iconst (v := nI 0) dX5_statement_6 rfl ?_
      refine F_bipush (v := nI 7) dX5_statement_7 rfl ?_
      refine F_bipush (v := nI 18) dX5_statement_9 rfl ?_
      refine F_bipush (v := nI 15) dX5_statement_11 rfl ?_
      refine F_bipush (v := nI 21) dX5_statement_13 rfl ?_
      refine F_bipush (v := nI 16) dX5_statement_15 rfl ?_
      refine F_cS6i (v_letters (d := 5) _ _ _ _ _ _) dX5_statement_17 rfl rfl rfl (by decide) (Nat.le_of_ble_eq_true rfl) (by omega) ?_
      refine F_icmp_neN (tgt := 75) dX5_statement_20 rfl (by omega) (by omega) (fun c20 => ?_) (fun c20 => ?_)
      · refine F_iload_n dX5_statement_75 rfl ?_
        refine F_iconst (v := nI 0) dX5_statement_76 rfl ?_
        refine F_iconst (v := nI 0) dX5_statement_77 rfl ?_
        refine F_bipush (v := nI 12) dX5_statement_78 rfl ?_
        refine F_bipush (v := nI 15) dX5_statement_80 rfl ?_
        refine F_iconst (v := nI 1) dX5_statement_82 rfl ?_
        refine F_iconst (v := nI 4) dX5_statement_83 rfl ?_
        refine F_cS6i (v_letters (d := 5) _ _ _ _ _ _) dX5_statement_84 rfl rfl rfl (by decide) (Nat.le_of_ble_eq_true rfl) (by omega) ?_
        refine F_icmp_neN (tgt := 140) dX5_statement_87 rfl (by omega) (by omega) (fun c87 => ?_) (fun c87 => ?_)
        · refine F_iload_n dX5_statement_140 rfl ?_
          refine F_iconst (v := nI 0) dX5_statement_141 rfl ?_
          refine F_iconst (v := nI 0) dX5_statement_142 rfl ?_
          refine F_iconst (v := nI 3) dX5_statement_143 rfl ?_
          refine F_iconst (v := nI 1) dX5_statement_144 rfl ?_
          refine F_bipush (v := nI 13) dX5_statement_145 rfl ?_
          refine F_bipush (v := nI 16) dX5_statement_147 rfl ?_
          refine F_cS6i (v_letters (d := 5) _ _ _ _ _ _) dX5_statement_149 rfl rfl rfl (by decide) (Nat.le_of_ble_eq_true rfl) (by omega) ?_
          refine F_icmp_neN (tgt := 204) dX5_statement_152 rfl (by omega) (by omega) (fun c152 => ?_) (fun c152 => ?_)
          · refine F_iload_n dX5_statement_204 rfl ?_
            refine F_iconst (v := nI 0) dX5_statement_205 rfl ?_
            refine F_iconst (v := nI 0) dX5_statement_206 rfl ?_
            refine F_iconst (v := nI 0) dX5_statement_207 rfl ?_
            refine F_bipush (v := nI 19) dX5_statement_208 rfl ?_
            refine F_iconst (v := nI 5) dX5_statement_210 rfl ?_
            refine F_bipush (v := nI 20) dX5_statement_211 rfl ?_
            refine F_cS6i (v_letters (d := 5) _ _ _ _ _ _) dX5_statement_213 rfl rfl rfl (by decide) (Nat.le_of_ble_eq_true rfl) (by omega) ?_
            refine F_icmp_neN (tgt := 280) dX5_statement_216 rfl (by omega) (by omega) (fun c216 => ?_) (fun c216 => ?_)
            · exact absurd rfl c216
            · refine F_aload_n dX5_statement_219 rfl ?_
              refine F_iconst (v := nI 0) dX5_statement_220 rfl ?_
              refine F_bipush (v := nI 7) dX5_statement_221 rfl ?_
              refine F_cV2i (hx) dX5_statement_223 rfl rfl (by decide) rfl rfl rfl rfl (by decide) (Nat.le_of_ble_eq_true rfl) (by omega) ?_
              refine F_istore_n dX5_statement_226 (Nat.le_of_ble_eq_true rfl) ?_
              refine F_aload_n dX5_statement_227 rfl ?_
              refine F_iconst (v := nI 0) dX5_statement_228 rfl ?_
              refine F_sipush (v := nI 9999) dX5_statement_229 rfl ?_
              refine F_cV2i (hx2) dX5_statement_232 rfl rfl (by decide) rfl rfl rfl rfl (by decide) (Nat.le_of_ble_eq_true rfl) (by omega) ?_
              refine F_istore_n dX5_statement_235 (Nat.le_of_ble_eq_true rfl) ?_
              refine F_aload_n dX5_statement_236 rfl ?_
              refine F_geti dX5_statement_237 rfl rfl rfl rfl ?_
              refine F_if_ne (tgt := 260) dX5_statement_240 rfl (fun c240 => ?_) (fun c240 => ?_)
              · exact absurd m5 c240
              · refine F_iload_n dX5_statement_243 rfl ?_
                refine F_iload_n dX5_statement_244 rfl ?_
                refine F_cS2i (v_maySet (d := 5) _ hk8) dX5_statement_245 rfl rfl rfl (by decide) (Nat.le_of_ble_eq_true rfl) (by omega) ?_
                refine F_if_neB (tgt := 260) dX5_statement_248 rfl (fun c248 => ?_) (fun c248 => ?_)
                · refine F_aload_n dX5_statement_260 rfl ?_
                  refine F_geti dX5_statement_261 rfl rfl rfl rfl ?_
                  refine F_if_ne (tgt := 277) dX5_statement_264 rfl (fun c264 => ?_) (fun c264 => ?_)
                  · exact absurd m5 c264
                  · refine F_aload_n dX5_statement_267 rfl ?_
                    refine F_getr dX5_statement_268 rfl rfl rfl rfl ?_
                    refine F_bipush (v := nI 6) dX5_statement_271 rfl ?_
                    refine F_iload_n dX5_statement_273 rfl ?_
                    refine F_iaddN dX5_statement_274 ?_
                    refine F_iload_n dX5_statement_275 rfl ?_
                    refine F_iast dX5_statement_276 rfl (by decide) (by omega) ?_
                    refine F_goto (tgt := 312) dX5_statement_277 rfl ?_
                    refine F_vret dX5_statement_312 rfl ?_
                    exact hQ
                · rw [r2] at c248
                  cases c248
          · exact absurd (Decidable.not_not.mp c152) (by decide)
        · exact absurd (Decidable.not_not.mp c87) (by decide)
      · exact absurd (Decidable.not_not.mp c20) (by decide)
  · have hne := fl_ne ka0 (show ka < 5 by omega) hp6
    refine ⟨false, up (up (up σB 13 2 (nI (i + 1))) 13 2 (nI (i + 1 + 1))) 13 3 (nI (ka + 8 * (tps b L (i + 1 + 1)))), mV_of fun Q hQ => ?_, ((BFr.t _ _ _).trans (BFr.t _ _ _)).trans (BFr.t _ _ _), Or.inr ⟨rfl, ka + 8 * (tps b L (i + 1 + 1)), by omega, by omega, rfl, fun σM hM => ?_⟩⟩
    · refine F_aload_n dX2_readSetting_0 rfl ?_
      refine F_cV0v (v_step (d := 5) h1 h2 h3 hlt) dX2_readSetting_1 rfl rfl (by decide) rfl rfl rfl rfl (by decide) (Nat.le_of_ble_eq_true rfl) (by omega) ?_
      refine F_aload_n dX2_readSetting_4 rfl ?_
      refine F_iconst (v := nI 0) dX2_readSetting_5 rfl ?_
      refine F_bipush (v := nI 7) dX2_readSetting_6 rfl ?_
      refine F_cV2i (hN) dX2_readSetting_8 rfl rfl (by decide) rfl rfl rfl rfl (by decide) (Nat.le_of_ble_eq_true rfl) (by omega) ?_
      refine F_istore_n dX2_readSetting_11 (Nat.le_of_ble_eq_true rfl) ?_
      refine F_iload_n dX2_readSetting_12 rfl ?_
      refine F_iconst (v := (-1)) dX2_readSetting_13 rfl ?_
      refine F_icmp_ne (tgt := 19) dX2_readSetting_14 rfl (fun c14 => ?_) (fun c14 => ?_)
      · refine F_aload_n dX2_readSetting_19 rfl ?_
        refine F_getstatic dX2_readSetting_20 rfl rfl ?_
        refine F_iload_n dX2_readSetting_23 rfl ?_
        refine F_ialdX dX2_readSetting_24 (by decide) hk8 (show 8 < 2 ^ 31 by decide) ?_
        refine F_getstatic dX2_readSetting_25 rfl rfl ?_
        refine F_iload_n dX2_readSetting_28 rfl ?_
        refine F_ialdX dX2_readSetting_29 (by decide) hk8 (show 8 < 2 ^ 31 by decide) ?_
        refine F_cV2i (hNa) dX2_readSetting_30 rfl rfl (by decide) rfl rfl rfl rfl (by decide) (Nat.le_of_ble_eq_true rfl) (by omega) ?_
        refine F_istore_n dX2_readSetting_33 (Nat.le_of_ble_eq_true rfl) ?_
        refine F_iload_n dX2_readSetting_34 rfl ?_
        refine F_iconst (v := (-1)) dX2_readSetting_35 rfl ?_
        refine F_icmp_ne (tgt := 41) dX2_readSetting_36 rfl (fun c36 => ?_) (fun c36 => ?_)
        · exact absurd rfl c36
        · refine F_iconst (v := nI 0) dX2_readSetting_39 rfl ?_
          refine F_zret dX2_readSetting_40 rfl (by first | exact Or.inl rfl | exact Or.inr rfl | exact bI_01 _) ?_
          exact hQ
      · exact absurd c14 (nI_n1 (by omega))
    · obtain ⟨q, hw, hM2⟩ := hW σM hM
      obtain ⟨q2, hx, hM3⟩ := hNM _ _ hM2
      obtain ⟨t2, r9, lt2, -, -, hNM2⟩ | ⟨kb, kb0, kb3, kbe, kbn, -, hNM2⟩ := num (G := G) (d := 6) h4 hby hB2 (nI 0) (nI 9999)
      · obtain ⟨q3, hx2, hM4⟩ := hNM2 _ _ hM3
        obtain ⟨m1, -, m5, m6, m7⟩ := hM
        have hrf : inR (nI (tkv b L (tps b L (i + 1 + 1)))) (mLeast.getD (tkv b L (tps b L (i + 1))) 0) (mMost.getD (tkv b L (tps b L (i + 1))) 0) = false := by
          cases hz : inR (nI (tkv b L (tps b L (i + 1 + 1)))) (mLeast.getD (tkv b L (tps b L (i + 1))) 0) (mMost.getD (tkv b L (tps b L (i + 1))) 0) with
          | false => rfl
          | true => exact absurd ⟨t2, hz⟩ kan
        rw [if_pos t2] at kae
        subst kae
        refine ⟨up (atS (atS (atS σM q (tps b L i)) q2 (tps b L (i + 1))) q3 (tps b L (i + 1 + 1))) 116 7 (nI (2 + 8 * (tps b L (i + 1 + 1)))), mV_of fun Q hQ => ?_, rfl, (((MFr.atS _ _ _).trans (MFr.atS _ _ _)).trans (MFr.atS _ _ _)).trans (MFr.fault _ _)⟩
        refine F_aload_n dX5_statement_0 rfl ?_
        refine F_cV0i (hw) dX5_statement_1 rfl rfl (by decide) rfl rfl rfl rfl (by decide) (Nat.le_of_ble_eq_true rfl) (by omega) ?_
        refine F_istore_n dX5_statement_4 (Nat.le_of_ble_eq_true rfl) ?_
        refine F_iload_n dX5_statement_5 rfl ?_
        refine F_iconst (v := nI 0) dX5_statement_6 rfl ?_
        refine F_bipush (v := nI 7) dX5_statement_7 rfl ?_
        refine F_bipush (v := nI 18) dX5_statement_9 rfl ?_
        refine F_bipush (v := nI 15) dX5_statement_11 rfl ?_
        refine F_bipush (v := nI 21) dX5_statement_13 rfl ?_
        refine F_bipush (v := nI 16) dX5_statement_15 rfl ?_
        refine F_cS6i (v_letters (d := 5) _ _ _ _ _ _) dX5_statement_17 rfl rfl rfl (by decide) (Nat.le_of_ble_eq_true rfl) (by omega) ?_
        refine F_icmp_neN (tgt := 75) dX5_statement_20 rfl (by omega) (by omega) (fun c20 => ?_) (fun c20 => ?_)
        · refine F_iload_n dX5_statement_75 rfl ?_
          refine F_iconst (v := nI 0) dX5_statement_76 rfl ?_
          refine F_iconst (v := nI 0) dX5_statement_77 rfl ?_
          refine F_bipush (v := nI 12) dX5_statement_78 rfl ?_
          refine F_bipush (v := nI 15) dX5_statement_80 rfl ?_
          refine F_iconst (v := nI 1) dX5_statement_82 rfl ?_
          refine F_iconst (v := nI 4) dX5_statement_83 rfl ?_
          refine F_cS6i (v_letters (d := 5) _ _ _ _ _ _) dX5_statement_84 rfl rfl rfl (by decide) (Nat.le_of_ble_eq_true rfl) (by omega) ?_
          refine F_icmp_neN (tgt := 140) dX5_statement_87 rfl (by omega) (by omega) (fun c87 => ?_) (fun c87 => ?_)
          · refine F_iload_n dX5_statement_140 rfl ?_
            refine F_iconst (v := nI 0) dX5_statement_141 rfl ?_
            refine F_iconst (v := nI 0) dX5_statement_142 rfl ?_
            refine F_iconst (v := nI 3) dX5_statement_143 rfl ?_
            refine F_iconst (v := nI 1) dX5_statement_144 rfl ?_
            refine F_bipush (v := nI 13) dX5_statement_145 rfl ?_
            refine F_bipush (v := nI 16) dX5_statement_147 rfl ?_
            refine F_cS6i (v_letters (d := 5) _ _ _ _ _ _) dX5_statement_149 rfl rfl rfl (by decide) (Nat.le_of_ble_eq_true rfl) (by omega) ?_
            refine F_icmp_neN (tgt := 204) dX5_statement_152 rfl (by omega) (by omega) (fun c152 => ?_) (fun c152 => ?_)
            · refine F_iload_n dX5_statement_204 rfl ?_
              refine F_iconst (v := nI 0) dX5_statement_205 rfl ?_
              refine F_iconst (v := nI 0) dX5_statement_206 rfl ?_
              refine F_iconst (v := nI 0) dX5_statement_207 rfl ?_
              refine F_bipush (v := nI 19) dX5_statement_208 rfl ?_
              refine F_iconst (v := nI 5) dX5_statement_210 rfl ?_
              refine F_bipush (v := nI 20) dX5_statement_211 rfl ?_
              refine F_cS6i (v_letters (d := 5) _ _ _ _ _ _) dX5_statement_213 rfl rfl rfl (by decide) (Nat.le_of_ble_eq_true rfl) (by omega) ?_
              refine F_icmp_neN (tgt := 280) dX5_statement_216 rfl (by omega) (by omega) (fun c216 => ?_) (fun c216 => ?_)
              · exact absurd rfl c216
              · refine F_aload_n dX5_statement_219 rfl ?_
                refine F_iconst (v := nI 0) dX5_statement_220 rfl ?_
                refine F_bipush (v := nI 7) dX5_statement_221 rfl ?_
                refine F_cV2i (hx) dX5_statement_223 rfl rfl (by decide) rfl rfl rfl rfl (by decide) (Nat.le_of_ble_eq_true rfl) (by omega) ?_
                refine F_istore_n dX5_statement_226 (Nat.le_of_ble_eq_true rfl) ?_
                refine F_aload_n dX5_statement_227 rfl ?_
                refine F_iconst (v := nI 0) dX5_statement_228 rfl ?_
                refine F_sipush (v := nI 9999) dX5_statement_229 rfl ?_
                refine F_cV2i (hx2) dX5_statement_232 rfl rfl (by decide) rfl rfl rfl rfl (by decide) (Nat.le_of_ble_eq_true rfl) (by omega) ?_
                refine F_istore_n dX5_statement_235 (Nat.le_of_ble_eq_true rfl) ?_
                refine F_aload_n dX5_statement_236 rfl ?_
                refine F_geti dX5_statement_237 rfl rfl rfl rfl ?_
                refine F_if_ne (tgt := 260) dX5_statement_240 rfl (fun c240 => ?_) (fun c240 => ?_)
                · exact absurd m5 c240
                · refine F_iload_n dX5_statement_243 rfl ?_
                  refine F_iload_n dX5_statement_244 rfl ?_
                  refine F_cS2i (v_maySet (d := 5) _ hk8) dX5_statement_245 rfl rfl rfl (by decide) (Nat.le_of_ble_eq_true rfl) (by omega) ?_
                  refine F_if_neB (tgt := 260) dX5_statement_248 rfl (fun c248 => ?_) (fun c248 => ?_)
                  · rw [hrf] at c248
                    cases c248
                  · refine F_aload_n dX5_statement_251 rfl ?_
                    refine F_iconst (v := nI 2) dX5_statement_252 rfl ?_
                    refine F_aload_n dX5_statement_253 rfl ?_
                    refine F_getE (v := nI (tps b L (i + 1 + 1))) dX5_statement_254 rfl rfl rfl rfl rfl ?_
                    refine F_cV2v (v_failsB (d := 5) 2 (tps b L (i + 1 + 1)) m5) dX5_statement_257 rfl rfl (by decide) rfl rfl rfl rfl (by decide) (Nat.le_of_ble_eq_true rfl) (by omega) ?_
                    refine F_aload_n dX5_statement_260 rfl ?_
                    refine F_geti dX5_statement_261 rfl rfl rfl rfl ?_
                    refine F_if_ne (tgt := 277) dX5_statement_264 rfl (fun c264 => ?_) (fun c264 => ?_)
                    · refine F_goto (tgt := 312) dX5_statement_277 rfl ?_
                      refine F_vret dX5_statement_312 rfl ?_
                      exact hQ
                    · exact absurd c264 hne
            · exact absurd (Decidable.not_not.mp c152) (by decide)
          · exact absurd (Decidable.not_not.mp c87) (by decide)
        · exact absurd (Decidable.not_not.mp c20) (by decide)
      · obtain ⟨v, τ, x1, x2, x3, x4, x5⟩ := hNM2 _ _ hM3
        have ekk : kb = ka := kbe.trans kae.symm
        subst ekk
        have hne2 : ¬ τ 116 7 = 0 := by rw [x2]; exact hne
        refine ⟨τ, mV_of fun Q hQ => ?_, x2, ((MFr.atS _ _ _).trans (MFr.atS _ _ _)).trans x5⟩
        refine F_aload_n dX5_statement_0 rfl ?_
        refine F_cV0i (hw) dX5_statement_1 rfl rfl (by decide) rfl rfl rfl rfl (by decide) (Nat.le_of_ble_eq_true rfl) (by omega) ?_
        refine F_istore_n dX5_statement_4 (Nat.le_of_ble_eq_true rfl) ?_
        refine F_iload_n dX5_statement_5 rfl ?_
        refine F_iconst (v := nI 0) dX5_statement_6 rfl ?_
        refine F_bipush (v := nI 7) dX5_statement_7 rfl ?_
        refine F_bipush (v := nI 18) dX5_statement_9 rfl ?_
        refine F_bipush (v := nI 15) dX5_statement_11 rfl ?_
        refine F_bipush (v := nI 21) dX5_statement_13 rfl ?_
        refine F_bipush (v := nI 16) dX5_statement_15 rfl ?_
        refine F_cS6i (v_letters (d := 5) _ _ _ _ _ _) dX5_statement_17 rfl rfl rfl (by decide) (Nat.le_of_ble_eq_true rfl) (by omega) ?_
        refine F_icmp_neN (tgt := 75) dX5_statement_20 rfl (by omega) (by omega) (fun c20 => ?_) (fun c20 => ?_)
        · refine F_iload_n dX5_statement_75 rfl ?_
          refine F_iconst (v := nI 0) dX5_statement_76 rfl ?_
          refine F_iconst (v := nI 0) dX5_statement_77 rfl ?_
          refine F_bipush (v := nI 12) dX5_statement_78 rfl ?_
          refine F_bipush (v := nI 15) dX5_statement_80 rfl ?_
          refine F_iconst (v := nI 1) dX5_statement_82 rfl ?_
          refine F_iconst (v := nI 4) dX5_statement_83 rfl ?_
          refine F_cS6i (v_letters (d := 5) _ _ _ _ _ _) dX5_statement_84 rfl rfl rfl (by decide) (Nat.le_of_ble_eq_true rfl) (by omega) ?_
          refine F_icmp_neN (tgt := 140) dX5_statement_87 rfl (by omega) (by omega) (fun c87 => ?_) (fun c87 => ?_)
          · refine F_iload_n dX5_statement_140 rfl ?_
            refine F_iconst (v := nI 0) dX5_statement_141 rfl ?_
            refine F_iconst (v := nI 0) dX5_statement_142 rfl ?_
            refine F_iconst (v := nI 3) dX5_statement_143 rfl ?_
            refine F_iconst (v := nI 1) dX5_statement_144 rfl ?_
            refine F_bipush (v := nI 13) dX5_statement_145 rfl ?_
            refine F_bipush (v := nI 16) dX5_statement_147 rfl ?_
            refine F_cS6i (v_letters (d := 5) _ _ _ _ _ _) dX5_statement_149 rfl rfl rfl (by decide) (Nat.le_of_ble_eq_true rfl) (by omega) ?_
            refine F_icmp_neN (tgt := 204) dX5_statement_152 rfl (by omega) (by omega) (fun c152 => ?_) (fun c152 => ?_)
            · refine F_iload_n dX5_statement_204 rfl ?_
              refine F_iconst (v := nI 0) dX5_statement_205 rfl ?_
              refine F_iconst (v := nI 0) dX5_statement_206 rfl ?_
              refine F_iconst (v := nI 0) dX5_statement_207 rfl ?_
              refine F_bipush (v := nI 19) dX5_statement_208 rfl ?_
              refine F_iconst (v := nI 5) dX5_statement_210 rfl ?_
              refine F_bipush (v := nI 20) dX5_statement_211 rfl ?_
              refine F_cS6i (v_letters (d := 5) _ _ _ _ _ _) dX5_statement_213 rfl rfl rfl (by decide) (Nat.le_of_ble_eq_true rfl) (by omega) ?_
              refine F_icmp_neN (tgt := 280) dX5_statement_216 rfl (by omega) (by omega) (fun c216 => ?_) (fun c216 => ?_)
              · exact absurd rfl c216
              · refine F_aload_n dX5_statement_219 rfl ?_
                refine F_iconst (v := nI 0) dX5_statement_220 rfl ?_
                refine F_bipush (v := nI 7) dX5_statement_221 rfl ?_
                refine F_cV2i (hx) dX5_statement_223 rfl rfl (by decide) rfl rfl rfl rfl (by decide) (Nat.le_of_ble_eq_true rfl) (by omega) ?_
                refine F_istore_n dX5_statement_226 (Nat.le_of_ble_eq_true rfl) ?_
                refine F_aload_n dX5_statement_227 rfl ?_
                refine F_iconst (v := nI 0) dX5_statement_228 rfl ?_
                refine F_sipush (v := nI 9999) dX5_statement_229 rfl ?_
                refine F_cV2i (x1) dX5_statement_232 rfl rfl (by decide) rfl rfl rfl rfl (by decide) (Nat.le_of_ble_eq_true rfl) (by omega) ?_
                refine F_istore_n dX5_statement_235 (Nat.le_of_ble_eq_true rfl) ?_
                refine F_aload_n dX5_statement_236 rfl ?_
                refine F_geti dX5_statement_237 rfl rfl rfl rfl ?_
                refine F_if_ne (tgt := 260) dX5_statement_240 rfl (fun c240 => ?_) (fun c240 => ?_)
                · refine F_aload_n dX5_statement_260 rfl ?_
                  refine F_geti dX5_statement_261 rfl rfl rfl rfl ?_
                  refine F_if_ne (tgt := 277) dX5_statement_264 rfl (fun c264 => ?_) (fun c264 => ?_)
                  · refine F_goto (tgt := 312) dX5_statement_277 rfl ?_
                    refine F_vret dX5_statement_312 rfl ?_
                    exact hQ
                  · exact absurd c264 hne2
                · exact absurd c240 hne2
            · exact absurd (Decidable.not_not.mp c152) (by decide)
          · exact absurd (Decidable.not_not.mp c87) (by decide)
        · exact absurd (Decidable.not_not.mp c20) (by decide)

end ST4
