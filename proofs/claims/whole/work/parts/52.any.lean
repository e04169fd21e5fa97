/-! ===== a statement of any kind on both sides ===== -/
theorem dX2_readStatement_0 : decode cX2_readStatement 0 = .ok (.aload_n 0, 1) := by decide +kernel
theorem dX2_readStatement_1 : decode cX2_readStatement 1 = .ok (.invokevirtual 43, 3) := by decide +kernel
theorem dX2_readStatement_4 : decode cX2_readStatement 4 = .ok (.tableswitch 61 6 10 #[36, 41, 46, 51, 56], 36) := by decide +kernel
theorem dX2_readStatement_40 : decode cX2_readStatement 40 = .ok (.aload_n 0, 1) := by decide +kernel
theorem dX2_readStatement_41 : decode cX2_readStatement 41 = .ok (.invokevirtual 55, 3) := by decide +kernel
theorem dX2_readStatement_44 : decode cX2_readStatement 44 = .ok (.ireturn, 1) := by decide +kernel
theorem dX2_readStatement_45 : decode cX2_readStatement 45 = .ok (.aload_n 0, 1) := by decide +kernel
theorem dX2_readStatement_46 : decode cX2_readStatement 46 = .ok (.invokevirtual 58, 3) := by decide +kernel
theorem dX2_readStatement_49 : decode cX2_readStatement 49 = .ok (.ireturn, 1) := by decide +kernel
theorem dX2_readStatement_50 : decode cX2_readStatement 50 = .ok (.aload_n 0, 1) := by decide +kernel
theorem dX2_readStatement_51 : decode cX2_readStatement 51 = .ok (.invokevirtual 61, 3) := by decide +kernel
theorem dX2_readStatement_54 : decode cX2_readStatement 54 = .ok (.ireturn, 1) := by decide +kernel
theorem dX2_readStatement_55 : decode cX2_readStatement 55 = .ok (.aload_n 0, 1) := by decide +kernel
theorem dX2_readStatement_56 : decode cX2_readStatement 56 = .ok (.invokevirtual 64, 3) := by decide +kernel
theorem dX2_readStatement_59 : decode cX2_readStatement 59 = .ok (.ireturn, 1) := by decide +kernel
theorem dX2_readStatement_60 : decode cX2_readStatement 60 = .ok (.aload_n 0, 1) := by decide +kernel
theorem dX2_readStatement_61 : decode cX2_readStatement 61 = .ok (.invokevirtual 67, 3) := by decide +kernel
theorem dX2_readStatement_64 : decode cX2_readStatement 64 = .ok (.ireturn, 1) := by decide +kernel
theorem dX2_readStatement_65 : decode cX2_readStatement 65 = .ok (.aload_n 0, 1) := by decide +kernel
theorem dX2_readStatement_66 : decode cX2_readStatement 66 = .ok (.iconst 1, 1) := by decide +kernel
theorem dX2_readStatement_67 : decode cX2_readStatement 67 = .ok (.invokevirtual 70, 3) := by decide +kernel
theorem dX2_readStatement_70 : decode cX2_readStatement 70 = .ok (.ireturn, 1) := by decide +kernel

section SAL
variable {G : mG} {b : Nat → Int32} {L s i n c : Nat} {f : Nat → Int32} {σB : mS}
def Sim2 (G : mG) (b : Nat → Int32) (L s i : Nat) (f : Nat → Int32) (σB : mS) : Prop := ∃ (bo : Bool) (σC : mS), mV G mX2_readStatement 10 [.ref 13] σB (some (.int (bI bo))) σC ∧ BFr σB σC ∧ ((bo = true ∧ ∃ i2 f2 n2 c2, i < i2 ∧ LB σC b L s i2 f2 n2 c2 ∧ ∀ σM, LM σM b L (tps b L i) f → ∃ σN, mV G mX5_statement 11 [.ref 116] σM none σN ∧ LM σN b L (tps b L i2) f2 ∧ MFr σM σN) ∨ (bo = false ∧ ∃ F, 0 < F ∧ F < 4096 ∧ σC 13 3 = nI F ∧ ∀ σM, LM σM b L (tps b L i) f → ∃ σN, mV G mX5_statement 11 [.ref 116] σM none σN ∧ σN 116 7 = nI F ∧ MFr σM σN))
theorem s_stmt (h4 : L ≤ 400) (hby : ∀ k, k < L → isByte (b k)) (hB : LB σB b L s i f n c) : Sim2 G b L s i f σB := by
  obtain ⟨h1, h2, h3, h5, h6⟩ := id hB
  have hp4 : tps b L i ≤ 400 := Nat.le_trans (tps_le b L i) h4
  have tlt := tkn_lt b L (tps b L i)
  have hT := v_token (G := G) (d := 7) h1 h2 h3
  by_cases h6 : tkn b L (tps b L i) = 6
  · obtain ⟨bo, σC, hb1, fr, alt⟩ := s_group (G := G) h4 hby hB h6
    refine ⟨bo, σC, mV_of fun Q hQ => ?_, fr, alt⟩
    rw [h6] at hT
    refine F_aload_n dX2_readStatement_0 rfl ?_
    refine F_cV0i (hT) dX2_readStatement_1 rfl rfl (by decide) rfl rfl rfl rfl (by decide) (Nat.le_of_ble_eq_true rfl) (by omega) ?_
    refine F_tableIn (off := 36) (tgt := 40) dX2_readStatement_4 (by decide) (by decide) (by decide +kernel) rfl ?_
    refine F_aload_n dX2_readStatement_40 rfl ?_
    refine F_cV0i (hb1) dX2_readStatement_41 rfl rfl (by decide) rfl rfl rfl rfl (by decide) (Nat.le_of_ble_eq_true rfl) (by omega) ?_
    refine F_zret dX2_readStatement_44 rfl (by first | exact Or.inl rfl | exact Or.inr rfl | exact bI_01 _) ?_
    exact hQ
  by_cases h7 : tkn b L (tps b L i) = 7
  · obtain ⟨bo, σC, hb1, fr, alt⟩ := s_load (G := G) h4 hby hB h7
    refine ⟨bo, σC, mV_of fun Q hQ => ?_, fr, alt⟩
    rw [h7] at hT
    refine F_aload_n dX2_readStatement_0 rfl ?_
    refine F_cV0i (hT) dX2_readStatement_1 rfl rfl (by decide) rfl rfl rfl rfl (by decide) (Nat.le_of_ble_eq_true rfl) (by omega) ?_
    refine F_tableIn (off := 41) (tgt := 45) dX2_readStatement_4 (by decide) (by decide) (by decide +kernel) rfl ?_
    refine F_aload_n dX2_readStatement_45 rfl ?_
    refine F_cV0i (hb1) dX2_readStatement_46 rfl rfl (by decide) rfl rfl rfl rfl (by decide) (Nat.le_of_ble_eq_true rfl) (by omega) ?_
    refine F_zret dX2_readStatement_49 rfl (by first | exact Or.inl rfl | exact Or.inr rfl | exact bI_01 _) ?_
    exact hQ
  by_cases h8 : tkn b L (tps b L i) = 8
  · obtain ⟨bo, σC, hb1, fr, alt⟩ := s_camp (G := G) h4 hby hB h8
    refine ⟨bo, σC, mV_of fun Q hQ => ?_, fr, alt⟩
    rw [h8] at hT
    refine F_aload_n dX2_readStatement_0 rfl ?_
    refine F_cV0i (hT) dX2_readStatement_1 rfl rfl (by decide) rfl rfl rfl rfl (by decide) (Nat.le_of_ble_eq_true rfl) (by omega) ?_
    refine F_tableIn (off := 46) (tgt := 50) dX2_readStatement_4 (by decide) (by decide) (by decide +kernel) rfl ?_
    refine F_aload_n dX2_readStatement_50 rfl ?_
    refine F_cV0i (hb1) dX2_readStatement_51 rfl rfl (by decide) rfl rfl rfl rfl (by decide) (Nat.le_of_ble_eq_true rfl) (by omega) ?_
    refine F_zret dX2_readStatement_54 rfl (by first | exact Or.inl rfl | exact Or.inr rfl | exact bI_01 _) ?_
    exact hQ
  by_cases h9 : tkn b L (tps b L i) = 9
  · obtain ⟨bo, σC, hb1, fr, alt⟩ := s_set (G := G) h4 hby hB h9
    refine ⟨bo, σC, mV_of fun Q hQ => ?_, fr, alt⟩
    rw [h9] at hT
    refine F_aload_n dX2_readStatement_0 rfl ?_
    refine F_cV0i (hT) dX2_readStatement_1 rfl rfl (by decide) rfl rfl rfl rfl (by decide) (Nat.le_of_ble_eq_true rfl) (by omega) ?_
    refine F_tableIn (off := 51) (tgt := 55) dX2_readStatement_4 (by decide) (by decide) (by decide +kernel) rfl ?_
    refine F_aload_n dX2_readStatement_55 rfl ?_
    refine F_cV0i (hb1) dX2_readStatement_56 rfl rfl (by decide) rfl rfl rfl rfl (by decide) (Nat.le_of_ble_eq_true rfl) (by omega) ?_
    refine F_zret dX2_readStatement_59 rfl (by first | exact Or.inl rfl | exact Or.inr rfl | exact bI_01 _) ?_
    exact hQ
  by_cases h10 : tkn b L (tps b L i) = 10
  · obtain ⟨bo, σC, hb1, fr, alt⟩ := s_plan (G := G) h4 hby hB h10
    refine ⟨bo, σC, mV_of fun Q hQ => ?_, fr, alt⟩
    rw [h10] at hT
    refine F_aload_n dX2_readStatement_0 rfl ?_
    refine F_cV0i (hT) dX2_readStatement_1 rfl rfl (by decide) rfl rfl rfl rfl (by decide) (Nat.le_of_ble_eq_true rfl) (by omega) ?_
    refine F_tableIn (off := 56) (tgt := 60) dX2_readStatement_4 (by decide) (by decide) (by decide +kernel) rfl ?_
    refine F_aload_n dX2_readStatement_60 rfl ?_
    refine F_cV0i (hb1) dX2_readStatement_61 rfl rfl (by decide) rfl rfl rfl rfl (by decide) (Nat.le_of_ble_eq_true rfl) (by omega) ?_
    refine F_zret dX2_readStatement_64 rfl (by first | exact Or.inl rfl | exact Or.inr rfl | exact bI_01 _) ?_
    exact hQ
  refine ⟨false, up σB 13 3 (nI (1 + 8 * tps b L i)), mV_of fun Q hQ => ?_, BFr.t _ _ _, Or.inr ⟨rfl, (1 + 8 * tps b L i), by omega, by omega, rfl, fun σM hM => ?_⟩⟩
  · refine F_aload_n dX2_readStatement_0 rfl ?_
    refine F_cV0i (hT) dX2_readStatement_1 rfl rfl (by decide) rfl rfl rfl rfl (by decide) (Nat.le_of_ble_eq_true rfl) (by omega) ?_
    refine F_tableOut (tgt := 65) dX2_readStatement_4 (by rw [nI_toInt (by omega)]; omega) rfl ?_
    refine F_aload_n dX2_readStatement_65 rfl ?_
    refine F_iconst (v := nI 1) dX2_readStatement_66 rfl ?_
    refine F_cV1i (v_fail (d := 7) h1 h2 h3 1) dX2_readStatement_67 rfl rfl (by decide) rfl rfl rfl rfl (by decide) (Nat.le_of_ble_eq_true rfl) (by omega) ?_
    refine F_zret dX2_readStatement_70 rfl (by first | exact Or.inl rfl | exact Or.inr rfl | exact bI_01 _) ?_
    exact hQ
  · obtain ⟨v, q, w1, hw, w3, w4, w5⟩ := wrd (G := G) (d := 7) h4 hM
    obtain ⟨m1, -, m5, m6, m7⟩ := hM
    have wne : ∀ t w, wtok w = t → 6 ≤ t → t ≤ 10 → v ≠ w := fun t w e t1 t2 z => by
      rw [z, e] at w3
      split at w3 <;> omega
    refine ⟨up (atS σM q (tps b L i)) 116 7 (nI (1 + 8 * tps b L i)), mV_of fun Q hQ => ?_, rfl, (MFr.atS _ _ _).trans (MFr.fault _ _)⟩
    refine F_aload_n dX5_statement_0 rfl ?_
    refine F_cV0i (hw) dX5_statement_1 rfl rfl (by decide) rfl rfl rfl rfl (by decide) (Nat.le_of_ble_eq_true rfl) (by omega) ?_
    refine F_istore_n dX5_statement_4 (Nat.le_of_ble_eq_true rfl) ?_
    refine F_iload_n dX5_statement_5 rfl ?_
    refine F_iconst (v := nI 0) dX5_statement_6 rfl ?_
    refine F_bipush (v := nI 7) dX5_statement_7 rfl ?_
    refine F_bipush (v := nI 18) dX5_statement_9 rfl ?_
    refine F_bipush (v := nI 15) dX5_statement_11 rfl ?_
    refine F_bipush (v := nI 21) dX5_statement_13 rfl ?_
    refine F_bipush (v := nI 16) dX5_statement_15 rfl ?_
    refine F_cS6i (v_letters (d := 5) _ _ _ _ _ _) dX5_statement_17 rfl rfl rfl (by decide) (Nat.le_of_ble_eq_true rfl) (by omega) ?_
    refine F_icmp_neN (tgt := 75) dX5_statement_20 rfl (by omega) (by omega) (fun c20 => ?_) (fun c20 => ?_)
    · refine F_iload_n dX5_statement_75 rfl ?_
      refine F_iconst (v := nI 0) dX5_statement_76 rfl ?_
      refine F_iconst (v := nI 0) dX5_statement_77 rfl ?_
      refine F_bipush (v := nI 12) dX5_statement_78 rfl ?_
      refine F_bipush (v := nI 15) dX5_statement_80 rfl ?_
      refine F_iconst (v := nI 1) dX5_statement_82 rfl ?_
      refine F_iconst (v := nI 4) dX5_statement_83 rfl ?_
      refine F_cS6i (v_letters (d := 5) _ _ _ _ _ _) dX5_statement_84 rfl rfl rfl (by decide) (Nat.le_of_ble_eq_true rfl) (by omega) ?_
      refine F_icmp_neN (tgt := 140) dX5_statement_87 rfl (by omega) (by omega) (fun c87 => ?_) (fun c87 => ?_)
      · refine F_iload_n dX5_statement_140 rfl ?_
        refine F_iconst (v := nI 0) dX5_statement_141 rfl ?_
        refine F_iconst (v := nI 0) dX5_statement_142 rfl ?_
        refine F_iconst (v := nI 3) dX5_statement_143 rfl ?_
        refine F_iconst (v := nI 1) dX5_statement_144 rfl ?_
        refine F_bipush (v := nI 13) dX5_statement_145 rfl ?_
        refine F_bipush (v := nI 16) dX5_statement_147 rfl ?_
        refine F_cS6i (v_letters (d := 5) _ _ _ _ _ _) dX5_statement_149 rfl rfl rfl (by decide) (Nat.le_of_ble_eq_true rfl) (by omega) ?_
        refine F_icmp_neN (tgt := 204) dX5_statement_152 rfl (by omega) (by omega) (fun c152 => ?_) (fun c152 => ?_)
        · refine F_iload_n dX5_statement_204 rfl ?_
          refine F_iconst (v := nI 0) dX5_statement_205 rfl ?_
          refine F_iconst (v := nI 0) dX5_statement_206 rfl ?_
          refine F_iconst (v := nI 0) dX5_statement_207 rfl ?_
          refine F_bipush (v := nI 19) dX5_statement_208 rfl ?_
          refine F_iconst (v := nI 5) dX5_statement_210 rfl ?_
          refine F_bipush (v := nI 20) dX5_statement_211 rfl ?_
          refine F_cS6i (v_letters (d := 5) _ _ _ _ _ _) dX5_statement_213 rfl rfl rfl (by decide) (Nat.le_of_ble_eq_true rfl) (by omega) ?_
          refine F_icmp_neN (tgt := 280) dX5_statement_216 rfl (by omega) (by omega) (fun c216 => ?_) (fun c216 => ?_)
          · refine F_iload_n dX5_statement_280 rfl ?_
            refine F_iconst (v := nI 0) dX5_statement_281 rfl ?_
            refine F_iconst (v := nI 0) dX5_statement_282 rfl ?_
            refine F_bipush (v := nI 16) dX5_statement_283 rfl ?_
            refine F_bipush (v := nI 12) dX5_statement_285 rfl ?_
            refine F_iconst (v := nI 1) dX5_statement_287 rfl ?_
            refine F_bipush (v := nI 14) dX5_statement_288 rfl ?_
            refine F_cS6i (v_letters (d := 5) _ _ _ _ _ _) dX5_statement_290 rfl rfl rfl (by decide) (Nat.le_of_ble_eq_true rfl) (by omega) ?_
            refine F_icmp_neN (tgt := 303) dX5_statement_293 rfl (by omega) (by omega) (fun c293 => ?_) (fun c293 => ?_)
            · refine F_aload_n dX5_statement_303 rfl ?_
              refine F_iconst (v := nI 1) dX5_statement_304 rfl ?_
              refine F_aload_n dX5_statement_305 rfl ?_
              refine F_getE (v := nI (tps b L i)) dX5_statement_306 rfl rfl rfl rfl rfl ?_
              refine F_cV2v (v_failsB (d := 5) 1 (tps b L i) m5) dX5_statement_309 rfl rfl (by decide) rfl rfl rfl rfl (by decide) (Nat.le_of_ble_eq_true rfl) (by omega) ?_
              refine F_vret dX5_statement_312 rfl ?_
              exact hQ
            · exact absurd (Decidable.not_not.mp c293) (wne 10 _ (by decide) (by decide) (by decide))
          · exact absurd (Decidable.not_not.mp c216) (wne 9 _ (by decide) (by decide) (by decide))
        · exact absurd (Decidable.not_not.mp c152) (wne 8 _ (by decide) (by decide) (by decide))
      · exact absurd (Decidable.not_not.mp c87) (wne 7 _ (by decide) (by decide) (by decide))
    · exact absurd (Decidable.not_not.mp c20) (wne 6 _ (by decide) (by decide) (by decide))

end SAL
