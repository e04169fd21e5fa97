/-! ===== plan on both sides ===== -/
/-- K's first m values at a and behind -/
def pcp (f K : Nat → Int32) (a m : Nat) : Nat → Int32 := fun x => if a ≤ x ∧ x < a + m then K (x - a) else f x
theorem pcp_0 (f K : Nat → Int32) (a : Nat) : pcp f K a 0 = f := funext fun x => if_neg (by omega)
theorem pcp_s (f K : Nat → Int32) (a m : Nat) : upd (pcp f K a m) (a + m) (K m) = pcp f K a (m + 1) := by
  funext x
  simp only [upd, pcp]
  by_cases h : x = a + m
  · subst h
    rw [if_pos rfl, if_pos (by omega), Nat.add_sub_cancel_left]
  · rw [if_neg h]
    by_cases h2 : a ≤ x ∧ x < a + m
    · rw [if_pos h2, if_pos (by omega)]
    · rw [if_neg h2, if_neg (by omega)]
theorem inR_pred {v n : Nat} (hv : v ≤ 10000) (hn : n ≤ 6) (h : inR (nI v) (nI 0) (nI n - nI 1) = true) : v < n := by
  cases n with
  | zero =>
    exfalso
    have e : nI 0 - nI 1 = (-1 : Int32) := by decide +kernel
    rw [e] at h
    simp only [inR, Bool.and_eq_true, decide_eq_true_eq] at h
    have h2 := h.2
    rw [Int32.le_iff_toInt_le, nI_toInt (by omega)] at h2
    have e2 : (-1 : Int32).toInt = -1 := by decide
    omega
  | succ m =>
    rw [nI_sub (by omega), Nat.add_sub_cancel, inR_nI (by omega) (by omega) (by omega), Bool.and_eq_true, decide_eq_true_eq, decide_eq_true_eq] at h
    omega
theorem MFr.room (σ : mS) (v : Int32) : MFr σ (up σ 116 16 v) := ⟨fun z z1 z2 z3 => up_n _ _ _ z1, fun k a b c e f g => up_r _ _ _ g⟩
section SPL
variable {G : mG} {b : Nat → Int32} {L s i n c : Nat} {f : Nat → Int32} {σB : mS}

theorem l_rows {σ : mS} {g d0 m : Nat} (hg : g < 6) (h0 : σ 116 7 = nI 0) (hm : σ 116 14 = nI m) (hd : d0 + m ≤ 70) (hf : σ 117 = f) (Q : Option Value → mS → Prop) (hQ : Q none (upR σ 117 (pcp f (σ 121) (40 + 70 * g + d0) m))) : ∀ q k, k + q = m → mF G mX5_planTold 10 93 [some (.ref 116), some (.int (nI g)), some (.int (nI d0)), some (.int (nI k))] [] (upR σ 117 (pcp f (σ 121) (40 + 70 * g + d0) k)) Q := by
  intro q
  induction q with
  | zero =>
    intro k hk
    have e : k = m := by omega
    subst e
    refine F_iload_n dX5_planTold_93 rfl ?_
    refine F_aload_n dX5_planTold_94 rfl ?_
    refine F_getE (v := nI k) dX5_planTold_95 rfl rfl rfl rfl hm ?_
    refine F_icmp_geN (tgt := 136) dX5_planTold_98 rfl (by omega) (by omega) (fun c98 => ?_) (fun c98 => ?_)
    · refine F_vret dX5_planTold_136 rfl ?_
      exact hQ
    · exact absurd c98 (by omega)
  | succ q ih =>
    intro k hk
    have k1 := ih (k + 1) (by omega)
    rw [← pcp_s] at k1
    have e1 : 40 + 70 * g + d0 + k = 40 + 70 * g + d0 + k := rfl
    refine F_iload_n dX5_planTold_93 rfl ?_
    refine F_aload_n dX5_planTold_94 rfl ?_
    refine F_getE (v := nI m) dX5_planTold_95 rfl rfl rfl rfl hm ?_
    refine F_icmp_geN (tgt := 136) dX5_planTold_98 rfl (by omega) (by omega) (fun c98 => ?_) (fun c98 => ?_)
    · exact absurd c98 (by omega)
    · refine F_aload_n dX5_planTold_101 rfl ?_
      refine F_getE (v := nI 0) dX5_planTold_102 rfl rfl rfl rfl h0 ?_
      refine F_if_neN (tgt := 136) dX5_planTold_105 rfl (by omega) (fun c105 => ?_) (fun c105 => ?_)
      · exact absurd rfl c105
      · refine F_aload_n dX5_planTold_108 rfl ?_
        refine F_getr dX5_planTold_109 rfl rfl rfl rfl ?_
        refine F_bipush (v := nI 40) dX5_planTold_112 rfl ?_
        refine F_bipush (v := nI 70) dX5_planTold_114 rfl ?_
        refine F_iload_n dX5_planTold_116 rfl ?_
        refine F_imulN dX5_planTold_117 ?_
        refine F_iaddN dX5_planTold_118 ?_
        refine F_iload_n dX5_planTold_119 rfl ?_
        refine F_iaddN dX5_planTold_120 ?_
        refine F_iload_n dX5_planTold_121 rfl ?_
        refine F_iaddN dX5_planTold_122 ?_
        refine F_aload_n dX5_planTold_123 rfl ?_
        refine F_getr dX5_planTold_124 rfl rfl rfl rfl ?_
        refine F_iload_n dX5_planTold_127 rfl ?_
        refine F_ialdE (v := σ 121 k) dX5_planTold_128 rfl (by decide) (by omega) rfl ?_
        refine F_iast dX5_planTold_129 rfl (by decide) (by omega) ?_
        refine F_iincN dX5_planTold_130 rfl ?_
        refine F_goto (tgt := 93) dX5_planTold_133 rfl ?_
        rw [up_upR]
        exact k1

theorem p_fault {σ : mS} {l1 l2 l3 : Option Value} {F : Nat} (F0 : 0 < F) (F4 : F < 4096) (h : σ 116 7 = nI F) (Q : Option Value → mS → Prop) (hQ : Q none σ) : mF G mX5_planTold 10 91 [some (.ref 116), l1, l2, l3] [] σ Q := by
  refine F_iconst (v := nI 0) dX5_planTold_91 rfl ?_
  refine F_istore_n dX5_planTold_92 (Nat.le_of_ble_eq_true rfl) ?_
  refine F_iload_n dX5_planTold_93 rfl ?_
  refine F_aload_n dX5_planTold_94 rfl ?_
  refine F_geti dX5_planTold_95 rfl rfl rfl rfl ?_
  refine F_icmp_ge (tgt := 136) dX5_planTold_98 rfl (fun c98 => ?_) (fun c98 => ?_)
  · refine F_vret dX5_planTold_136 rfl ?_
    exact hQ
  · refine F_aload_n dX5_planTold_101 rfl ?_
    refine F_getE (v := nI F) dX5_planTold_102 rfl rfl rfl rfl h ?_
    refine F_if_neN (tgt := 136) dX5_planTold_105 rfl (by omega) (fun c105 => ?_) (fun c105 => ?_)
    · refine F_vret dX5_planTold_136 rfl ?_
      exact hQ
    · exact absurd c105 (by omega)

theorem s_plan (h4 : L ≤ 400) (hby : ∀ k, k < L → isByte (b k)) (hB : LB σB b L s i f n c) (ht : tkn b L (tps b L i) = 10) : Sim G mX2_readPlan b L s i f σB := by
  obtain ⟨h1, h2, h3, h5, h6⟩ := id hB
  have hlt := h1.lt h3 (by rw [ht]; decide)
  have hp4 : tps b L i ≤ 400 := Nat.le_trans (tps_le b L i) h4
  have hp5 : tps b L (i + 1) ≤ 400 := Nat.le_trans (tps_le b L (i + 1)) h4
  have hp6 : tps b L (i + 1 + 1) ≤ 400 := Nat.le_trans (tps_le b L (i + 1 + 1)) h4
  have hb := h6.1
  have hn6 := hb.1
  have hc4 := hb.2.1
  have hW : ∀ σM, LM σM b L (tps b L i) f → ∃ q, mV G mX5_word 8 [.ref 116] σM (some (.int (nI 536622))) (atS σM q (tps b L i)) ∧ LM (atS σM q (tps b L i)) b L (tps b L (i + 1)) f := fun σM hM => by
    obtain ⟨v, q, w1, w2, w3, w4, w5⟩ := wrd (G := G) (d := 7) h4 hM
    rw [ht, if_pos (by decide)] at w3
    have e : v = 536622 := wtok_inv w3 (by decide)
    subst e
    exact ⟨q, w2, by rw [h1.next hlt]; exact w4 (by rw [ht]; decide)⟩
  have hg0 : σB 19 0 = nI n := h6.2.1
  have hB1 := hB.step hlt
  obtain hN | ⟨k, k0, k3, ke, kn, hN, hNM⟩ := num (G := G) (d := 6) h4 hby hB1 (nI 0) ((nI n - nI 1))
  rotate_left
  · refine ⟨false, (up (up (up (up σB 13 2 (nI (i + 1))) 13 3 (nI (k + 8 * tps b L (i + 1)))) 13 4 (-1)) 13 5 (-1)), mV_of fun Q hQ => ?_, (((BFr.t _ _ _).trans (BFr.t _ _ _)).trans (BFr.t _ _ _)).trans (BFr.t _ _ _), Or.inr ⟨rfl, k + 8 * tps b L (i + 1), by omega, by omega, rfl, fun σM hM => ?_⟩⟩
    · refine F_aload_n dX2_readPlan_0 rfl ?_
      refine F_cV0v (v_step (d := 5) h1 h2 h3 hlt) dX2_readPlan_1 rfl rfl (by decide) rfl rfl rfl rfl (by decide) (Nat.le_of_ble_eq_true rfl) (by omega) ?_
      refine F_aload_n dX2_readPlan_4 rfl ?_
      refine F_aload_n dX2_readPlan_5 rfl ?_
      refine F_iconst (v := nI 0) dX2_readPlan_6 rfl ?_
      refine F_aload_n dX2_readPlan_7 rfl ?_
      refine F_getr dX2_readPlan_8 rfl rfl rfl rfl ?_
      refine F_getE (v := nI n) dX2_readPlan_11 rfl rfl rfl rfl hg0 ?_
      refine F_iconst (v := nI 1) dX2_readPlan_14 rfl ?_
      refine F_isub dX2_readPlan_15 ?_
      refine F_cV2i (hN) dX2_readPlan_16 rfl rfl (by decide) rfl rfl rfl rfl (by decide) (Nat.le_of_ble_eq_true rfl) (by omega) ?_
      refine F_put dX2_readPlan_19 rfl rfl rfl rfl rfl rfl rfl ?_
      refine F_aload_n dX2_readPlan_22 rfl ?_
      refine F_aload_n dX2_readPlan_23 rfl ?_
      refine F_geti dX2_readPlan_24 rfl rfl rfl rfl ?_
      refine F_iconst (v := (-1)) dX2_readPlan_27 rfl ?_
      refine F_icmp_ne (tgt := 35) dX2_readPlan_28 rfl (fun c28 => ?_) (fun c28 => ?_)
      · exact absurd rfl c28
      · refine F_iconst (v := (-1)) dX2_readPlan_31 rfl ?_
        refine F_goto (tgt := 42) dX2_readPlan_32 rfl ?_
        refine F_put dX2_readPlan_42 rfl rfl rfl rfl rfl rfl rfl ?_
        refine F_aload_n dX2_readPlan_45 rfl ?_
        refine F_geti dX2_readPlan_46 rfl rfl rfl rfl ?_
        refine F_iconst (v := (-1)) dX2_readPlan_49 rfl ?_
        refine F_icmp_ne (tgt := 55) dX2_readPlan_50 rfl (fun c50 => ?_) (fun c50 => ?_)
        · exact absurd rfl c50
        · refine F_iconst (v := nI 0) dX2_readPlan_53 rfl ?_
          refine F_zret dX2_readPlan_54 rfl (by first | exact Or.inl rfl | exact Or.inr rfl | exact bI_01 _) ?_
          exact hQ
    · obtain ⟨q, hw, hM2⟩ := hW σM hM
      obtain ⟨v, τ, x1, x2, x3, x4, x5⟩ := hNM _ _ hM2
      have hne2 : ¬ τ 116 7 = 0 := by rw [x2]; exact fl_ne k0 (show k < 5 by omega) hp5
      have hgr : (atS σM q (tps b L i)) 117 23 = nI n := by rw [hM2.2.2.2.1]; exact hb.2.2.1
      have hpt : mV G mX5_planTold 10 [.ref 116] (atS σM q (tps b L i)) none (up (up (up τ 116 14 (nI 0)) 116 15 (nI 0)) 116 16 (nI 70 - nI 0)) := mV_of fun Q hQ => by
        refine F_aload_n dX5_planTold_0 rfl ?_
        refine F_iconst (v := nI 0) dX5_planTold_1 rfl ?_
        refine F_aload_n dX5_planTold_2 rfl ?_
        refine F_cV0i (v_groups (d := 5)) dX5_planTold_3 rfl rfl (by decide) rfl rfl rfl rfl (by decide) (Nat.le_of_ble_eq_true rfl) (by omega) ?_
        refine F_top (y := nI n) hgr ?_
        refine F_iconst (v := nI 1) dX5_planTold_6 rfl ?_
        refine F_isub dX5_planTold_7 ?_
        refine F_cV2i (x1) dX5_planTold_8 rfl rfl (by decide) rfl rfl rfl rfl (by decide) (Nat.le_of_ble_eq_true rfl) (by omega) ?_
        refine F_istore_n dX5_planTold_11 (Nat.le_of_ble_eq_true rfl) ?_
        refine F_aload_n dX5_planTold_12 rfl ?_
        refine F_iconst (v := nI 0) dX5_planTold_13 rfl ?_
        refine F_bipush (v := nI 69) dX5_planTold_14 rfl ?_
        refine F_cV2i (v_numberX (d := 5) _ _ hne2) dX5_planTold_16 rfl rfl (by decide) rfl rfl rfl rfl (by decide) (Nat.le_of_ble_eq_true rfl) (by omega) ?_
        refine F_istore_n dX5_planTold_19 (Nat.le_of_ble_eq_true rfl) ?_
        refine F_aload_n dX5_planTold_20 rfl ?_
        refine F_iconst (v := nI 0) dX5_planTold_21 rfl ?_
        refine F_put dX5_planTold_22 rfl rfl rfl rfl rfl rfl rfl ?_
        refine F_aload_n dX5_planTold_25 rfl ?_
        refine F_iconst (v := nI 0) dX5_planTold_26 rfl ?_
        refine F_put dX5_planTold_27 rfl rfl rfl rfl rfl rfl rfl ?_
        refine F_aload_n dX5_planTold_30 rfl ?_
        refine F_bipush (v := nI 70) dX5_planTold_31 rfl ?_
        refine F_iload_n dX5_planTold_33 rfl ?_
        refine F_isub dX5_planTold_34 ?_
        refine F_put dX5_planTold_35 rfl rfl rfl rfl rfl rfl rfl ?_
        refine F_aload_n dX5_planTold_38 rfl ?_
        refine F_getE (v := nI (k + 8 * tps b L (i + 1))) dX5_planTold_39 rfl rfl rfl rfl x2 ?_
        refine F_if_neN (tgt := 91) dX5_planTold_42 rfl (by omega) (fun c42 => ?_) (fun c42 => ?_)
        · exact p_fault (σ := up (up (up τ 116 14 (nI 0)) 116 15 (nI 0)) 116 16 (nI 70 - nI 0)) (F := k + 8 * tps b L (i + 1)) (by omega) (by omega) x2 Q hQ
        · exact absurd c42 (by omega)
      refine ⟨up (up (up τ 116 14 (nI 0)) 116 15 (nI 0)) 116 16 (nI 70 - nI 0), mV_of fun Q hQ => ?_, x2, (((((MFr.atS _ _ _).trans x5).trans (MFr.many _ _)).trans (MFr.op _ _)).trans (MFr.room _ _))⟩
      refine F_aload_n dX5_statement_0 rfl ?_
      refine F_cV0i (hw) dX5_statement_1 rfl rfl (by decide) rfl rfl rfl rfl (by decide) (Nat.le_of_ble_eq_true rfl) (by omega) ?_
      refine F_istore_n dX5_statement_4 (Nat.le_of_ble_eq_true rfl) ?_
      refine F_iload_n dX5_statement_5 rfl ?_
      refine F_iconst (v := nI 0) dX5_statement_6 rfl ?_
      refine F_bipush (v := nI 7) dX5_statement_7 rfl ?_
      refine F_bipush (v := nI 18) dX5_statement_9 rfl ?_
      refine F_bipush (v := nI 15) dX5_statement_11 rfl ?_
      refine F_bipush (v := nI 21) dX5_statement_13 rfl ?_
      refine F_bipush (v := nI 16) dX5_statement_15 rfl ?_
      refine F_cS6i (v_letters (d := 5) _ _ _ _ _ _) dX5_statement_17 rfl rfl rfl (by decide) (Nat.le_of_ble_eq_true rfl) (by omega) ?_
      refine F_icmp_neN (tgt := 75) dX5_statement_20 rfl (by omega) (by omega) (fun c20 => ?_) (fun c20 => ?_)
      · refine F_iload_n dX5_statement_75 rfl ?_
        refine F_iconst (v := nI 0) dX5_statement_76 rfl ?_
        refine F_iconst (v := nI 0) dX5_statement_77 rfl ?_
        refine F_bipush (v := nI 12) dX5_statement_78 rfl ?_
        refine F_bipush (v := nI 15) dX5_statement_80 rfl ?_
        refine F_iconst (v := nI 1) dX5_statement_82 rfl ?_
        refine F_iconst (v := nI 4) dX5_statement_83 rfl ?_
        refine F_cS6i (v_letters (d := 5) _ _ _ _ _ _) dX5_statement_84 rfl rfl rfl (by decide) (Nat.le_of_ble_eq_true rfl) (by omega) ?_
        refine F_icmp_neN (tgt := 140) dX5_statement_87 rfl (by omega) (by omega) (fun c87 => ?_) (fun c87 => ?_)
        · refine F_iload_n dX5_statement_140 rfl ?_
          refine F_iconst (v := nI 0) dX5_statement_141 rfl ?_
          refine F_iconst (v := nI 0) dX5_statement_142 rfl ?_
          refine F_iconst (v := nI 3) dX5_statement_143 rfl ?_
          refine F_iconst (v := nI 1) dX5_statement_144 rfl ?_
          refine F_bipush (v := nI 13) dX5_statement_145 rfl ?_
          refine F_bipush (v := nI 16) dX5_statement_147 rfl ?_
          refine F_cS6i (v_letters (d := 5) _ _ _ _ _ _) dX5_statement_149 rfl rfl rfl (by decide) (Nat.le_of_ble_eq_true rfl) (by omega) ?_
          refine F_icmp_neN (tgt := 204) dX5_statement_152 rfl (by omega) (by omega) (fun c152 => ?_) (fun c152 => ?_)
          · refine F_iload_n dX5_statement_204 rfl ?_
            refine F_iconst (v := nI 0) dX5_statement_205 rfl ?_
            refine F_iconst (v := nI 0) dX5_statement_206 rfl ?_
            refine F_iconst (v := nI 0) dX5_statement_207 rfl ?_
            refine F_bipush (v := nI 19) dX5_statement_208 rfl ?_
            refine F_iconst (v := nI 5) dX5_statement_210 rfl ?_
            refine F_bipush (v := nI 20) dX5_statement_211 rfl ?_
            refine F_cS6i (v_letters (d := 5) _ _ _ _ _ _) dX5_statement_213 rfl rfl rfl (by decide) (Nat.le_of_ble_eq_true rfl) (by omega) ?_
            refine F_icmp_neN (tgt := 280) dX5_statement_216 rfl (by omega) (by omega) (fun c216 => ?_) (fun c216 => ?_)
            · refine F_iload_n dX5_statement_280 rfl ?_
              refine F_iconst (v := nI 0) dX5_statement_281 rfl ?_
              refine F_iconst (v := nI 0) dX5_statement_282 rfl ?_
              refine F_bipush (v := nI 16) dX5_statement_283 rfl ?_
              refine F_bipush (v := nI 12) dX5_statement_285 rfl ?_
              refine F_iconst (v := nI 1) dX5_statement_287 rfl ?_
              refine F_bipush (v := nI 14) dX5_statement_288 rfl ?_
              refine F_cS6i (v_letters (d := 5) _ _ _ _ _ _) dX5_statement_290 rfl rfl rfl (by decide) (Nat.le_of_ble_eq_true rfl) (by omega) ?_
              refine F_icmp_neN (tgt := 303) dX5_statement_293 rfl (by omega) (by omega) (fun c293 => ?_) (fun c293 => ?_)
              · exact absurd rfl c293
              · refine F_aload_n dX5_statement_296 rfl ?_
                refine F_cV0v (hpt) dX5_statement_297 rfl rfl (by decide) rfl rfl rfl rfl (by decide) (Nat.le_of_ble_eq_true rfl) (by omega) ?_
                refine F_goto (tgt := 312) dX5_statement_300 rfl ?_
                refine F_vret dX5_statement_312 rfl ?_
                exact hQ
            · exact absurd (Decidable.not_not.mp c216) (by decide)
          · exact absurd (Decidable.not_not.mp c152) (by decide)
        · exact absurd (Decidable.not_not.mp c87) (by decide)
      · exact absurd (Decidable.not_not.mp c20) (by decide)
  obtain ⟨t1, r1, lt1, hN, hB2, hNM⟩ := hN
  have v1 := tkv_le b L (tps b L (i + 1))
  have hvn := inR_pred v1 hn6 r1
  have hB3 : LB (up (up (up σB 13 2 (nI (i + 1))) 13 2 (nI (i + 1 + 1))) 13 4 (nI (tkv b L (tps b L (i + 1))))) b L s (i + 1 + 1) f n c := by
    obtain ⟨g1, g2, g3, g4, g5⟩ := hB2
    exact ⟨g1.rows (fun z z1 z2 => up_n _ _ _ (by omega)), (up_r _ _ _ (by decide)).trans g2, g3, (up_r _ _ _ (by decide)).trans g4, g5.rows (fun q hq => up_n _ _ _ (by omega))⟩
  obtain hN2 | ⟨k, k0, k3, ke, kn, hN2, hNM2⟩ := num (G := G) (d := 6) h4 hby hB3 (nI 0) (nI 69)
  rotate_left
  · refine ⟨false, (up (up (up (up (up σB 13 2 (nI (i + 1))) 13 2 (nI (i + 1 + 1))) 13 4 (nI (tkv b L (tps b L (i + 1))))) 13 3 (nI (k + 8 * tps b L (i + 1 + 1)))) 13 5 (-1)), mV_of fun Q hQ => ?_, ((((BFr.t _ _ _).trans (BFr.t _ _ _)).trans (BFr.t _ _ _)).trans (BFr.t _ _ _)).trans (BFr.t _ _ _), Or.inr ⟨rfl, k + 8 * tps b L (i + 1 + 1), by omega, by omega, rfl, fun σM hM => ?_⟩⟩
    · refine F_aload_n dX2_readPlan_0 rfl ?_
      refine F_cV0v (v_step (d := 5) h1 h2 h3 hlt) dX2_readPlan_1 rfl rfl (by decide) rfl rfl rfl rfl (by decide) (Nat.le_of_ble_eq_true rfl) (by omega) ?_
      refine F_aload_n dX2_readPlan_4 rfl ?_
      refine F_aload_n dX2_readPlan_5 rfl ?_
      refine F_iconst (v := nI 0) dX2_readPlan_6 rfl ?_
      refine F_aload_n dX2_readPlan_7 rfl ?_
      refine F_getr dX2_readPlan_8 rfl rfl rfl rfl ?_
      refine F_getE (v := nI n) dX2_readPlan_11 rfl rfl rfl rfl hg0 ?_
      refine F_iconst (v := nI 1) dX2_readPlan_14 rfl ?_
      refine F_isub dX2_readPlan_15 ?_
      refine F_cV2i (hN) dX2_readPlan_16 rfl rfl (by decide) rfl rfl rfl rfl (by decide) (Nat.le_of_ble_eq_true rfl) (by omega) ?_
      refine F_put dX2_readPlan_19 rfl rfl rfl rfl rfl rfl rfl ?_
      refine F_aload_n dX2_readPlan_22 rfl ?_
      refine F_aload_n dX2_readPlan_23 rfl ?_
      refine F_geti dX2_readPlan_24 rfl rfl rfl rfl ?_
      refine F_iconst (v := (-1)) dX2_readPlan_27 rfl ?_
      refine F_icmp_ne (tgt := 35) dX2_readPlan_28 rfl (fun c28 => ?_) (fun c28 => ?_)
      · refine F_aload_n dX2_readPlan_35 rfl ?_
        refine F_iconst (v := nI 0) dX2_readPlan_36 rfl ?_
        refine F_bipush (v := nI 69) dX2_readPlan_37 rfl ?_
        refine F_cV2i (hN2) dX2_readPlan_39 rfl rfl (by decide) rfl rfl rfl rfl (by decide) (Nat.le_of_ble_eq_true rfl) (by omega) ?_
        refine F_put dX2_readPlan_42 rfl rfl rfl rfl rfl rfl rfl ?_
        refine F_aload_n dX2_readPlan_45 rfl ?_
        refine F_geti dX2_readPlan_46 rfl rfl rfl rfl ?_
        refine F_iconst (v := (-1)) dX2_readPlan_49 rfl ?_
        refine F_icmp_ne (tgt := 55) dX2_readPlan_50 rfl (fun c50 => ?_) (fun c50 => ?_)
        · exact absurd rfl c50
        · refine F_iconst (v := nI 0) dX2_readPlan_53 rfl ?_
          refine F_zret dX2_readPlan_54 rfl (by first | exact Or.inl rfl | exact Or.inr rfl | exact bI_01 _) ?_
          exact hQ
      · exact absurd c28 (nI_n1 (by omega))
    · obtain ⟨q, hw, hM2⟩ := hW σM hM
      obtain ⟨q2, hx, hM3⟩ := hNM _ _ hM2
      obtain ⟨v, τ, x1, x2, x3, x4, x5⟩ := hNM2 _ _ hM3
      have hgr : (atS σM q (tps b L i)) 117 23 = nI n := by rw [hM2.2.2.2.1]; exact hb.2.2.1
      have hpt : mV G mX5_planTold 10 [.ref 116] (atS σM q (tps b L i)) none (up (up (up τ 116 14 (nI 0)) 116 15 (nI 0)) 116 16 (nI 70 - v)) := mV_of fun Q hQ => by
        refine F_aload_n dX5_planTold_0 rfl ?_
        refine F_iconst (v := nI 0) dX5_planTold_1 rfl ?_
        refine F_aload_n dX5_planTold_2 rfl ?_
        refine F_cV0i (v_groups (d := 5)) dX5_planTold_3 rfl rfl (by decide) rfl rfl rfl rfl (by decide) (Nat.le_of_ble_eq_true rfl) (by omega) ?_
        refine F_top (y := nI n) hgr ?_
        refine F_iconst (v := nI 1) dX5_planTold_6 rfl ?_
        refine F_isub dX5_planTold_7 ?_
        refine F_cV2i (hx) dX5_planTold_8 rfl rfl (by decide) rfl rfl rfl rfl (by decide) (Nat.le_of_ble_eq_true rfl) (by omega) ?_
        refine F_istore_n dX5_planTold_11 (Nat.le_of_ble_eq_true rfl) ?_
        refine F_aload_n dX5_planTold_12 rfl ?_
        refine F_iconst (v := nI 0) dX5_planTold_13 rfl ?_
        refine F_bipush (v := nI 69) dX5_planTold_14 rfl ?_
        refine F_cV2i (x1) dX5_planTold_16 rfl rfl (by decide) rfl rfl rfl rfl (by decide) (Nat.le_of_ble_eq_true rfl) (by omega) ?_
        refine F_istore_n dX5_planTold_19 (Nat.le_of_ble_eq_true rfl) ?_
        refine F_aload_n dX5_planTold_20 rfl ?_
        refine F_iconst (v := nI 0) dX5_planTold_21 rfl ?_
        refine F_put dX5_planTold_22 rfl rfl rfl rfl rfl rfl rfl ?_
        refine F_aload_n dX5_planTold_25 rfl ?_
        refine F_iconst (v := nI 0) dX5_planTold_26 rfl ?_
        refine F_put dX5_planTold_27 rfl rfl rfl rfl rfl rfl rfl ?_
        refine F_aload_n dX5_planTold_30 rfl ?_
        refine F_bipush (v := nI 70) dX5_planTold_31 rfl ?_
        refine F_iload_n dX5_planTold_33 rfl ?_
        refine F_isub dX5_planTold_34 ?_
        refine F_put dX5_planTold_35 rfl rfl rfl rfl rfl rfl rfl ?_
        refine F_aload_n dX5_planTold_38 rfl ?_
        refine F_getE (v := nI (k + 8 * tps b L (i + 1 + 1))) dX5_planTold_39 rfl rfl rfl rfl x2 ?_
        refine F_if_neN (tgt := 91) dX5_planTold_42 rfl (by omega) (fun c42 => ?_) (fun c42 => ?_)
        · exact p_fault (σ := up (up (up τ 116 14 (nI 0)) 116 15 (nI 0)) 116 16 (nI 70 - v)) (F := k + 8 * tps b L (i + 1 + 1)) (by omega) (by omega) x2 Q hQ
        · exact absurd c42 (by omega)
      refine ⟨up (up (up τ 116 14 (nI 0)) 116 15 (nI 0)) 116 16 (nI 70 - v), mV_of fun Q hQ => ?_, x2, ((((((MFr.atS _ _ _).trans (MFr.atS _ _ _)).trans x5).trans (MFr.many _ _)).trans (MFr.op _ _)).trans (MFr.room _ _))⟩
      refine F_aload_n dX5_statement_0 rfl ?_
      refine F_cV0i (hw) dX5_statement_1 rfl rfl (by decide) rfl rfl rfl rfl (by decide) (Nat.le_of_ble_eq_true rfl) (by omega) ?_
      refine F_istore_n dX5_statement_4 (Nat.le_of_ble_eq_true rfl) ?_
      refine F_iload_n dX5_statement_5 rfl ?_
      refine F_iconst (v := nI 0) dX5_statement_6 rfl ?_
      refine F_bipush (v := nI 7) dX5_statement_7 rfl ?_
      refine F_bipush (v := nI 18) dX5_statement_9 rfl ?_
      refine F_bipush (v := nI 15) dX5_statement_11 rfl ?_
      refine F_bipush (v := nI 21) dX5_statement_13 rfl ?_
      refine F_bipush (v := nI 16) dX5_statement_15 rfl ?_
      refine F_cS6i (v_letters (d := 5) _ _ _ _ _ _) dX5_statement_17 rfl rfl rfl (by decide) (Nat.le_of_ble_eq_true rfl) (by omega) ?_
      refine F_icmp_neN (tgt := 75) dX5_statement_20 rfl (by omega) (by omega) (fun c20 => ?_) (fun c20 => ?_)
      · refine F_iload_n dX5_statement_75 rfl ?_
        refine F_iconst (v := nI 0) dX5_statement_76 rfl ?_
        refine F_iconst (v := nI 0) dX5_statement_77 rfl ?_
        refine F_bipush (v := nI 12) dX5_statement_78 rfl ?_
        refine F_bipush (v := nI 15) dX5_statement_80 rfl ?_
        refine F_iconst (v := nI 1) dX5_statement_82 rfl ?_
        refine F_iconst (v := nI 4) dX5_statement_83 rfl ?_
        refine F_cS6i (v_letters (d := 5) _ _ _ _ _ _) dX5_statement_84 rfl rfl rfl (by decide) (Nat.le_of_ble_eq_true rfl) (by omega) ?_
        refine F_icmp_neN (tgt := 140) dX5_statement_87 rfl (by omega) (by omega) (fun c87 => ?_) (fun c87 => ?_)
        · refine F_iload_n dX5_statement_140 rfl ?_
          refine F_iconst (v := nI 0) dX5_statement_141 rfl ?_
          refine F_iconst (v := nI 0) dX5_statement_142 rfl ?_
          refine F_iconst (v := nI 3) dX5_statement_143 rfl ?_
          refine F_iconst (v := nI 1) dX5_statement_144 rfl ?_
          refine F_bipush (v := nI 13) dX5_statement_145 rfl ?_
          refine F_bipush (v := nI 16) dX5_statement_147 rfl ?_
          refine F_cS6i (v_letters (d := 5) _ _ _ _ _ _) dX5_statement_149 rfl rfl rfl (by decide) (Nat.le_of_ble_eq_true rfl) (by omega) ?_
          refine F_icmp_neN (tgt := 204) dX5_statement_152 rfl (by omega) (by omega) (fun c152 => ?_) (fun c152 => ?_)
          · refine F_iload_n dX5_statement_204 rfl ?_
            refine F_iconst (v := nI 0) dX5_statement_205 rfl ?_
            refine F_iconst (v := nI 0) dX5_statement_206 rfl ?_
            refine F_iconst (v := nI 0) dX5_statement_207 rfl ?_
            refine F_bipush (v := nI 19) dX5_statement_208 rfl ?_
            refine F_iconst (v := nI 5) dX5_statement_210 rfl ?_
            refine F_bipush (v := nI 20) dX5_statement_211 rfl ?_
            refine F_cS6i (v_letters (d := 5) _ _ _ _ _ _) dX5_statement_213 rfl rfl rfl (by decide) (Nat.le_of_ble_eq_true rfl) (by omega) ?_
            refine F_icmp_neN (tgt := 280) dX5_statement_216 rfl (by omega) (by omega) (fun c216 => ?_) (fun c216 => ?_)
            · refine F_iload_n dX5_statement_280 rfl ?_
              refine F_iconst (v := nI 0) dX5_statement_281 rfl ?_
              refine F_iconst (v := nI 0) dX5_statement_282 rfl ?_
              refine F_bipush (v := nI 16) dX5_statement_283 rfl ?_
              refine F_bipush (v := nI 12) dX5_statement_285 rfl ?_
              refine F_iconst (v := nI 1) dX5_statement_287 rfl ?_
              refine F_bipush (v := nI 14) dX5_statement_288 rfl ?_
              refine F_cS6i (v_letters (d := 5) _ _ _ _ _ _) dX5_statement_290 rfl rfl rfl (by decide) (Nat.le_of_ble_eq_true rfl) (by omega) ?_
              refine F_icmp_neN (tgt := 303) dX5_statement_293 rfl (by omega) (by omega) (fun c293 => ?_) (fun c293 => ?_)
              · exact absurd rfl c293
              · refine F_aload_n dX5_statement_296 rfl ?_
                refine F_cV0v (hpt) dX5_statement_297 rfl rfl (by decide) rfl rfl rfl rfl (by decide) (Nat.le_of_ble_eq_true rfl) (by omega) ?_
                refine F_goto (tgt := 312) dX5_statement_300 rfl ?_
                refine F_vret dX5_statement_312 rfl ?_
                exact hQ
            · exact absurd (Decidable.not_not.mp c216) (by decide)
          · exact absurd (Decidable.not_not.mp c152) (by decide)
        · exact absurd (Decidable.not_not.mp c87) (by decide)
      · exact absurd (Decidable.not_not.mp c20) (by decide)
  obtain ⟨t2, r2, lt2, hN2, hB4, hNM2⟩ := hN2
  have v2 := tkv_le b L (tps b L (i + 1 + 1))
  rw [inR_nI (by decide) (by decide) (by omega), Bool.and_eq_true, decide_eq_true_eq, decide_eq_true_eq] at r2
  have hP : PB (up (up (up (up (up (up σB 13 2 (nI (i + 1))) 13 2 (nI (i + 1 + 1))) 13 4 (nI (tkv b L (tps b L (i + 1))))) 13 2 (nI (i + 1 + 1 + 1))) 13 5 (nI (tkv b L (tps b L (i + 1 + 1))))) 13 6 (nI 0)) b L s (i + 1 + 1 + 1) f (tkv b L (tps b L (i + 1))) (tkv b L (tps b L (i + 1 + 1))) (tkv b L (tps b L (i + 1 + 1))) 0 (fun k => f (40 + 70 * (tkv b L (tps b L (i + 1))) + k)) (fun _ => 0) (fun _ => 0) n c := by
    obtain ⟨g1, g2, g3, g4, g5⟩ := hB4
    refine ⟨⟨g1.rows (fun z z1 z2 => by rw [up_n _ _ _ (by omega), up_n _ _ _ (by omega)]), by rw [up_r _ _ _ (by decide), up_r _ _ _ (by decide)]; exact g2, g3, by rw [up_r _ _ _ (by decide), up_r _ _ _ (by decide)]; exact g4, ?_⟩, fun k hk => (hb.2.2.2.2.2.2.2.2 _ hvn).2.2 k hk, ?_, ?_, ?_, hvn, Nat.le_refl _, by omega, by omega, fun k hk => absurd hk (by omega), fun k _ _ => rfl⟩
    · rw [plR_self]
      exact g5.rows (fun q hq => by rw [up_n _ _ _ (by omega), up_n _ _ _ (by omega)])
    · rw [up_r _ _ _ (by decide), up_r _ _ _ (by decide), up_r _ _ _ (by decide), up_s]
    · rw [up_r _ _ _ (by decide), up_s]
    · rw [up_s]
  have hBB : BFr σB (up (up (up (up (up (up σB 13 2 (nI (i + 1))) 13 2 (nI (i + 1 + 1))) 13 4 (nI (tkv b L (tps b L (i + 1))))) 13 2 (nI (i + 1 + 1 + 1))) 13 5 (nI (tkv b L (tps b L (i + 1 + 1))))) 13 6 (nI 0)) := ((((BFr.t _ _ _).trans (BFr.t _ _ _)).trans (BFr.t _ _ _)).trans (BFr.t _ _ _)).trans ((BFr.t _ _ _).trans (BFr.t _ _ _))
  obtain ⟨bo, σC, k1, k2, k3⟩ := l_plan (G := G) h4 hby (s - (i + 1 + 1 + 1)) (i + 1 + 1 + 1) _ _ _ _ _ 0 none _ (by omega) (by omega) hP
  refine ⟨bo, σC, mV_of fun Q hQ => ?_, hBB.trans k2, ?_⟩
  · have k1 := k1 Q hQ
    refine F_aload_n dX2_readPlan_0 rfl ?_
    refine F_cV0v (v_step (d := 5) h1 h2 h3 hlt) dX2_readPlan_1 rfl rfl (by decide) rfl rfl rfl rfl (by decide) (Nat.le_of_ble_eq_true rfl) (by omega) ?_
    refine F_aload_n dX2_readPlan_4 rfl ?_
    refine F_aload_n dX2_readPlan_5 rfl ?_
    refine F_iconst (v := nI 0) dX2_readPlan_6 rfl ?_
    refine F_aload_n dX2_readPlan_7 rfl ?_
    refine F_getr dX2_readPlan_8 rfl rfl rfl rfl ?_
    refine F_getE (v := nI n) dX2_readPlan_11 rfl rfl rfl rfl hg0 ?_
    refine F_iconst (v := nI 1) dX2_readPlan_14 rfl ?_
    refine F_isub dX2_readPlan_15 ?_
    refine F_cV2i (hN) dX2_readPlan_16 rfl rfl (by decide) rfl rfl rfl rfl (by decide) (Nat.le_of_ble_eq_true rfl) (by omega) ?_
    refine F_put dX2_readPlan_19 rfl rfl rfl rfl rfl rfl rfl ?_
    refine F_aload_n dX2_readPlan_22 rfl ?_
    refine F_aload_n dX2_readPlan_23 rfl ?_
    refine F_geti dX2_readPlan_24 rfl rfl rfl rfl ?_
    refine F_iconst (v := (-1)) dX2_readPlan_27 rfl ?_
    refine F_icmp_ne (tgt := 35) dX2_readPlan_28 rfl (fun c28 => ?_) (fun c28 => ?_)
    · refine F_aload_n dX2_readPlan_35 rfl ?_
      refine F_iconst (v := nI 0) dX2_readPlan_36 rfl ?_
      refine F_bipush (v := nI 69) dX2_readPlan_37 rfl ?_
      refine F_cV2i (hN2) dX2_readPlan_39 rfl rfl (by decide) rfl rfl rfl rfl (by decide) (Nat.le_of_ble_eq_true rfl) (by omega) ?_
      refine F_put dX2_readPlan_42 rfl rfl rfl rfl rfl rfl rfl ?_
      refine F_aload_n dX2_readPlan_45 rfl ?_
      refine F_geti dX2_readPlan_46 rfl rfl rfl rfl ?_
      refine F_iconst (v := (-1)) dX2_readPlan_49 rfl ?_
      refine F_icmp_ne (tgt := 55) dX2_readPlan_50 rfl (fun c50 => ?_) (fun c50 => ?_)
      · refine F_aload_n dX2_readPlan_55 rfl ?_
        refine F_iconst (v := nI 0) dX2_readPlan_56 rfl ?_
        refine F_put dX2_readPlan_57 rfl rfl rfl rfl rfl rfl rfl ?_
        refine F_iconst (v := nI 0) dX2_readPlan_60 rfl ?_
        refine F_istore_n dX2_readPlan_61 (Nat.le_of_ble_eq_true rfl) ?_
        exact k1
      · exact absurd c50 (nI_n1 (by omega))
    · exact absurd c28 (nI_n1 (by omega))

  · obtain ⟨hbo, i2, day2, K2, ad2, tm2, hi2, hP2, hM3'⟩ | ⟨hbo, F, F0, F4, hF, hM3'⟩ := k3
    · refine Or.inl ⟨hbo, i2, plR f (tkv b L (tps b L (i + 1))) K2, n, c, by omega, hP2.1, fun σM hM => ?_⟩
      obtain ⟨q, hw, hM2⟩ := hW σM hM
      obtain ⟨q2, hx, hM3⟩ := hNM _ _ hM2
      obtain ⟨q3, hx2, hM4⟩ := hNM2 _ _ hM3
      have hgr : (atS σM q (tps b L i)) 117 23 = nI n := by rw [hM2.2.2.2.1]; exact hb.2.2.1
      obtain ⟨j1, j2, j3, j4, j5⟩ := hM4
      have hPM : PM (up (up (up (atS (atS (atS σM q (tps b L i)) q2 (tps b L (i + 1))) q3 (tps b L (i + 1 + 1))) 116 14 (nI 0)) 116 15 (nI 0)) 116 16 (nI (70 - (tkv b L (tps b L (i + 1 + 1)))))) b L (tps b L (i + 1 + 1 + 1)) f (tkv b L (tps b L (i + 1 + 1))) (tkv b L (tps b L (i + 1 + 1))) 0 (fun k => f (40 + 70 * (tkv b L (tps b L (i + 1))) + k)) (fun _ => 0) (fun _ => 0) := ⟨⟨j1, j2, j3, j4, j5⟩, by rw [Nat.sub_self]; rfl, rfl, rfl, fun k hk => absurd hk (by omega), fun k hk => absurd hk (by omega)⟩
      obtain ⟨σN, y1, y2, y3⟩ := hM3' (up (up (up (atS (atS (atS σM q (tps b L i)) q2 (tps b L (i + 1))) q3 (tps b L (i + 1 + 1))) 116 14 (nI 0)) 116 15 (nI 0)) 116 16 (nI (70 - (tkv b L (tps b L (i + 1 + 1)))))) (some (.int (nI (tkv b L (tps b L (i + 1)))))) (some (.int (nI (tkv b L (tps b L (i + 1 + 1)))))) none hPM
      obtain ⟨⟨u1, u2, u3, u4, u5⟩, z1, z2, z3, z4, z5⟩ := y2
      obtain ⟨-, hK2, -, -, -, -, w1, w2, -, -, w12⟩ := hP2
      have hpl : pcp f (σN 121) (40 + 70 * (tkv b L (tps b L (i + 1))) + (tkv b L (tps b L (i + 1 + 1)))) (day2 - (tkv b L (tps b L (i + 1 + 1)))) = plR f (tkv b L (tps b L (i + 1))) K2 := by
        funext x
        simp only [pcp, plR]
        by_cases ha : 40 + 70 * (tkv b L (tps b L (i + 1))) + (tkv b L (tps b L (i + 1 + 1))) ≤ x ∧ x < 40 + 70 * (tkv b L (tps b L (i + 1))) + (tkv b L (tps b L (i + 1 + 1))) + (day2 - (tkv b L (tps b L (i + 1 + 1))))
        · rw [if_pos ha, if_pos (by omega), z5 _ (by omega)]
          congr 1
          omega
        · rw [if_neg ha]
          by_cases hc : 40 + 70 * (tkv b L (tps b L (i + 1))) ≤ x ∧ x < 40 + 70 * (tkv b L (tps b L (i + 1))) + 70
          · rw [if_pos hc, w12 _ (by omega) (by omega)]
            congr 1
            omega
          · rw [if_neg hc]
      have hpt : mV G mX5_planTold 10 [.ref 116] (atS σM q (tps b L i)) none (upR σN 117 (pcp f (σN 121) (40 + 70 * (tkv b L (tps b L (i + 1))) + (tkv b L (tps b L (i + 1 + 1)))) (day2 - (tkv b L (tps b L (i + 1 + 1)))))) := mV_of fun Q hQ => by
        have y4 := l_rows (G := G) (f := f) (σ := σN) (g := (tkv b L (tps b L (i + 1)))) (d0 := (tkv b L (tps b L (i + 1 + 1)))) (m := day2 - (tkv b L (tps b L (i + 1 + 1)))) (by omega) u3 z1 (by omega) u4 Q hQ (day2 - (tkv b L (tps b L (i + 1 + 1)))) 0 (by omega)
        rw [pcp_0, ← u4, upR_self] at y4
        have y5 : mF G mX5_planTold 10 91 [some (.ref 116), some (.int (nI (tkv b L (tps b L (i + 1))))), some (.int (nI (tkv b L (tps b L (i + 1 + 1))))), none] [] σN Q := by
          refine F_iconst (v := nI 0) dX5_planTold_91 rfl ?_
          refine F_istore_n dX5_planTold_92 (Nat.le_of_ble_eq_true rfl) ?_
          exact y4
        have y6 := y1 Q y5
        refine F_aload_n dX5_planTold_0 rfl ?_
        refine F_iconst (v := nI 0) dX5_planTold_1 rfl ?_
        refine F_aload_n dX5_planTold_2 rfl ?_
        refine F_cV0i (v_groups (d := 5)) dX5_planTold_3 rfl rfl (by decide) rfl rfl rfl rfl (by decide) (Nat.le_of_ble_eq_true rfl) (by omega) ?_
        refine F_top (y := nI n) hgr ?_
        refine F_iconst (v := nI 1) dX5_planTold_6 rfl ?_
        refine F_isub dX5_planTold_7 ?_
        refine F_cV2i (hx) dX5_planTold_8 rfl rfl (by decide) rfl rfl rfl rfl (by decide) (Nat.le_of_ble_eq_true rfl) (by omega) ?_
        refine F_istore_n dX5_planTold_11 (Nat.le_of_ble_eq_true rfl) ?_
        refine F_aload_n dX5_planTold_12 rfl ?_
        refine F_iconst (v := nI 0) dX5_planTold_13 rfl ?_
        refine F_bipush (v := nI 69) dX5_planTold_14 rfl ?_
        refine F_cV2i (hx2) dX5_planTold_16 rfl rfl (by decide) rfl rfl rfl rfl (by decide) (Nat.le_of_ble_eq_true rfl) (by omega) ?_
        refine F_istore_n dX5_planTold_19 (Nat.le_of_ble_eq_true rfl) ?_
        refine F_aload_n dX5_planTold_20 rfl ?_
        refine F_iconst (v := nI 0) dX5_planTold_21 rfl ?_
        refine F_put dX5_planTold_22 rfl rfl rfl rfl rfl rfl rfl ?_
        refine F_aload_n dX5_planTold_25 rfl ?_
        refine F_iconst (v := nI 0) dX5_planTold_26 rfl ?_
        refine F_put dX5_planTold_27 rfl rfl rfl rfl rfl rfl rfl ?_
        refine F_aload_n dX5_planTold_30 rfl ?_
        refine F_bipush (v := nI 70) dX5_planTold_31 rfl ?_
        refine F_iload_n dX5_planTold_33 rfl ?_
        refine F_isubN dX5_planTold_34 (by omega) ?_
        refine F_put dX5_planTold_35 rfl rfl rfl rfl rfl rfl rfl ?_
        exact y6
      refine ⟨(upR σN 117 (pcp f (σN 121) (40 + 70 * (tkv b L (tps b L (i + 1))) + (tkv b L (tps b L (i + 1 + 1)))) (day2 - (tkv b L (tps b L (i + 1 + 1)))))), mV_of fun Q hQ => ?_, ⟨u1, u2, u3, hpl, u5⟩, ((((((MFr.atS _ _ _).trans (MFr.atS _ _ _)).trans (MFr.atS _ _ _)).trans (MFr.many _ _)).trans ((MFr.op _ _).trans (MFr.room _ _))).trans y3).trans (MFr.pl _ _)⟩
      refine F_aload_n dX5_statement_0 rfl ?_
      refine F_cV0i (hw) dX5_statement_1 rfl rfl (by decide) rfl rfl rfl rfl (by decide) (Nat.le_of_ble_eq_true rfl) (by omega) ?_
      refine F_istore_n dX5_statement_4 (Nat.le_of_ble_eq_true rfl) ?_
      refine F_iload_n dX5_statement_5 rfl ?_
      refine F_iconst (v := nI 0) dX5_statement_6 rfl ?_
      refine F_bipush (v := nI 7) dX5_statement_7 rfl ?_
      refine F_bipush (v := nI 18) dX5_statement_9 rfl ?_
      refine F_bipush (v := nI 15) dX5_statement_11 rfl ?_
      refine F_bipush (v := nI 21) dX5_statement_13 rfl ?_
      refine F_bipush (v := nI 16) dX5_statement_15 rfl ?_
      refine F_cS6i (v_letters (d := 5) _ _ _ _ _ _) dX5_statement_17 rfl rfl rfl (by decide) (Nat.le_of_ble_eq_true rfl) (by omega) ?_
      refine F_icmp_neN (tgt := 75) dX5_statement_20 rfl (by omega) (by omega) (fun c20 => ?_) (fun c20 => ?_)
      · refine F_iload_n dX5_statement_75 rfl ?_
        refine F_iconst (v := nI 0) dX5_statement_76 rfl ?_
        refine F_iconst (v := nI 0) dX5_statement_77 rfl ?_
        refine F_bipush (v := nI 12) dX5_statement_78 rfl ?_
        refine F_bipush (v := nI 15) dX5_statement_80 rfl ?_
        refine F_iconst (v := nI 1) dX5_statement_82 rfl ?_
        refine F_iconst (v := nI 4) dX5_statement_83 rfl ?_
        refine F_cS6i (v_letters (d := 5) _ _ _ _ _ _) dX5_statement_84 rfl rfl rfl (by decide) (Nat.le_of_ble_eq_true rfl) (by omega) ?_
        refine F_icmp_neN (tgt := 140) dX5_statement_87 rfl (by omega) (by omega) (fun c87 => ?_) (fun c87 => ?_)
        · refine F_iload_n dX5_statement_140 rfl ?_
          refine F_iconst (v := nI 0) dX5_statement_141 rfl ?_
          refine F_iconst (v := nI 0) dX5_statement_142 rfl ?_
          refine F_iconst (v := nI 3) dX5_statement_143 rfl ?_
          refine F_iconst (v := nI 1) dX5_statement_144 rfl ?_
          refine F_bipush (v := nI 13) dX5_statement_145 rfl ?_
          refine F_bipush (v := nI 16) dX5_statement_147 rfl ?_
          refine F_cS6i (v_letters (d := 5) _ _ _ _ _ _) dX5_statement_149 rfl rfl rfl (by decide) (Nat.le_of_ble_eq_true rfl) (by omega) ?_
          refine F_icmp_neN (tgt := 204) dX5_statement_152 rfl (by omega) (by omega) (fun c152 => ?_) (fun c152 => ?_)
          · refine F_iload_n dX5_statement_204 rfl ?_
            refine F_iconst (v := nI 0) dX5_statement_205 rfl ?_
            refine F_iconst (v := nI 0) dX5_statement_206 rfl ?_
            refine F_iconst (v := nI 0) dX5_statement_207 rfl ?_
            refine F_bipush (v := nI 19) dX5_statement_208 rfl ?_
            refine F_iconst (v := nI 5) dX5_statement_210 rfl ?_
            refine F_bipush (v := nI 20) dX5_statement_211 rfl ?_
            refine F_cS6i (v_letters (d := 5) _ _ _ _ _ _) dX5_statement_213 rfl rfl rfl (by decide) (Nat.le_of_ble_eq_true rfl) (by omega) ?_
            refine F_icmp_neN (tgt := 280) dX5_statement_216 rfl (by omega) (by omega) (fun c216 => ?_) (fun c216 => ?_)
            · refine F_iload_n dX5_statement_280 rfl ?_
              refine F_iconst (v := nI 0) dX5_statement_281 rfl ?_
              refine F_iconst (v := nI 0) dX5_statement_282 rfl ?_
              refine F_bipush (v := nI 16) dX5_statement_283 rfl ?_
              refine F_bipush (v := nI 12) dX5_statement_285 rfl ?_
              refine F_iconst (v := nI 1) dX5_statement_287 rfl ?_
              refine F_bipush (v := nI 14) dX5_statement_288 rfl ?_
              refine F_cS6i (v_letters (d := 5) _ _ _ _ _ _) dX5_statement_290 rfl rfl rfl (by decide) (Nat.le_of_ble_eq_true rfl) (by omega) ?_
              refine F_icmp_neN (tgt := 303) dX5_statement_293 rfl (by omega) (by omega) (fun c293 => ?_) (fun c293 => ?_)
              · exact absurd rfl c293
              · refine F_aload_n dX5_statement_296 rfl ?_
                refine F_cV0v (hpt) dX5_statement_297 rfl rfl (by decide) rfl rfl rfl rfl (by decide) (Nat.le_of_ble_eq_true rfl) (by omega) ?_
                refine F_goto (tgt := 312) dX5_statement_300 rfl ?_
                refine F_vret dX5_statement_312 rfl ?_
                exact hQ
            · exact absurd (Decidable.not_not.mp c216) (by decide)
          · exact absurd (Decidable.not_not.mp c152) (by decide)
        · exact absurd (Decidable.not_not.mp c87) (by decide)
      · exact absurd (Decidable.not_not.mp c20) (by decide)
    · refine Or.inr ⟨hbo, F, F0, F4, hF, fun σM hM => ?_⟩
      obtain ⟨q, hw, hM2⟩ := hW σM hM
      obtain ⟨q2, hx, hM3⟩ := hNM _ _ hM2
      obtain ⟨q3, hx2, hM4⟩ := hNM2 _ _ hM3
      have hgr : (atS σM q (tps b L i)) 117 23 = nI n := by rw [hM2.2.2.2.1]; exact hb.2.2.1
      obtain ⟨j1, j2, j3, j4, j5⟩ := hM4
      have hPM : PM (up (up (up (atS (atS (atS σM q (tps b L i)) q2 (tps b L (i + 1))) q3 (tps b L (i + 1 + 1))) 116 14 (nI 0)) 116 15 (nI 0)) 116 16 (nI (70 - (tkv b L (tps b L (i + 1 + 1)))))) b L (tps b L (i + 1 + 1 + 1)) f (tkv b L (tps b L (i + 1 + 1))) (tkv b L (tps b L (i + 1 + 1))) 0 (fun k => f (40 + 70 * (tkv b L (tps b L (i + 1))) + k)) (fun _ => 0) (fun _ => 0) := ⟨⟨j1, j2, j3, j4, j5⟩, by rw [Nat.sub_self]; rfl, rfl, rfl, fun k hk => absurd hk (by omega), fun k hk => absurd hk (by omega)⟩
      obtain ⟨σN, y1, y2, y3⟩ := hM3' (up (up (up (atS (atS (atS σM q (tps b L i)) q2 (tps b L (i + 1))) q3 (tps b L (i + 1 + 1))) 116 14 (nI 0)) 116 15 (nI 0)) 116 16 (nI (70 - (tkv b L (tps b L (i + 1 + 1)))))) (some (.int (nI (tkv b L (tps b L (i + 1)))))) (some (.int (nI (tkv b L (tps b L (i + 1 + 1)))))) none hPM
      have hpt : mV G mX5_planTold 10 [.ref 116] (atS σM q (tps b L i)) none σN := mV_of fun Q hQ => by
        have y6 := y1 Q (p_fault F0 F4 y2 Q hQ)
        refine F_aload_n dX5_planTold_0 rfl ?_
        refine F_iconst (v := nI 0) dX5_planTold_1 rfl ?_
        refine F_aload_n dX5_planTold_2 rfl ?_
        refine F_cV0i (v_groups (d := 5)) dX5_planTold_3 rfl rfl (by decide) rfl rfl rfl rfl (by decide) (Nat.le_of_ble_eq_true rfl) (by omega) ?_
        refine F_top (y := nI n) hgr ?_
        refine F_iconst (v := nI 1) dX5_planTold_6 rfl ?_
        refine F_isub dX5_planTold_7 ?_
        refine F_cV2i (hx) dX5_planTold_8 rfl rfl (by decide) rfl rfl rfl rfl (by decide) (Nat.le_of_ble_eq_true rfl) (by omega) ?_
        refine F_istore_n dX5_planTold_11 (Nat.le_of_ble_eq_true rfl) ?_
        refine F_aload_n dX5_planTold_12 rfl ?_
        refine F_iconst (v := nI 0) dX5_planTold_13 rfl ?_
        refine F_bipush (v := nI 69) dX5_planTold_14 rfl ?_
        refine F_cV2i (hx2) dX5_planTold_16 rfl rfl (by decide) rfl rfl rfl rfl (by decide) (Nat.le_of_ble_eq_true rfl) (by omega) ?_
        refine F_istore_n dX5_planTold_19 (Nat.le_of_ble_eq_true rfl) ?_
        refine F_aload_n dX5_planTold_20 rfl ?_
        refine F_iconst (v := nI 0) dX5_planTold_21 rfl ?_
        refine F_put dX5_planTold_22 rfl rfl rfl rfl rfl rfl rfl ?_
        refine F_aload_n dX5_planTold_25 rfl ?_
        refine F_iconst (v := nI 0) dX5_planTold_26 rfl ?_
        refine F_put dX5_planTold_27 rfl rfl rfl rfl rfl rfl rfl ?_
        refine F_aload_n dX5_planTold_30 rfl ?_
        refine F_bipush (v := nI 70) dX5_planTold_31 rfl ?_
        refine F_iload_n dX5_planTold_33 rfl ?_
        refine F_isubN dX5_planTold_34 (by omega) ?_
        refine F_put dX5_planTold_35 rfl rfl rfl rfl rfl rfl rfl ?_
        exact y6
      refine ⟨σN, mV_of fun Q hQ => ?_, y2, (((((MFr.atS _ _ _).trans (MFr.atS _ _ _)).trans (MFr.atS _ _ _)).trans (MFr.many _ _)).trans ((MFr.op _ _).trans (MFr.room _ _))).trans y3⟩
      refine F_aload_n dX5_statement_0 rfl ?_
      refine F_cV0i (hw) dX5_statement_1 rfl rfl (by decide) rfl rfl rfl rfl (by decide) (Nat.le_of_ble_eq_true rfl) (by omega) ?_
      refine F_istore_n dX5_statement_4 (Nat.le_of_ble_eq_true rfl) ?_
      refine F_iload_n dX5_statement_5 rfl ?_
      refine F_iconst (v := nI 0) dX5_statement_6 rfl ?_
      refine F_bipush (v := nI 7) dX5_statement_7 rfl ?_
      refine F_bipush (v := nI 18) dX5_statement_9 rfl ?_
      refine F_bipush (v := nI 15) dX5_statement_11 rfl ?_
      refine F_bipush (v := nI 21) dX5_statement_13 rfl ?_
      refine F_bipush (v := nI 16) dX5_statement_15 rfl ?_
      refine F_cS6i (v_letters (d := 5) _ _ _ _ _ _) dX5_statement_17 rfl rfl rfl (by decide) (Nat.le_of_ble_eq_true rfl) (by omega) ?_
      refine F_icmp_neN (tgt := 75) dX5_statement_20 rfl (by omega) (by omega) (fun c20 => ?_) (fun c20 => ?_)
      · refine F_iload_n dX5_statement_75 rfl ?_
        refine F_iconst (v := nI 0) dX5_statement_76 rfl ?_
        refine F_iconst (v := nI 0) dX5_statement_77 rfl ?_
        refine F_bipush (v := nI 12) dX5_statement_78 rfl ?_
        refine F_bipush (v := nI 15) dX5_statement_80 rfl ?_
        refine F_iconst (v := nI 1) dX5_statement_82 rfl ?_
        refine F_iconst (v := nI 4) dX5_statement_83 rfl ?_
        refine F_cS6i (v_letters (d := 5) _ _ _ _ _ _) dX5_statement_84 rfl rfl rfl (by decide) (Nat.le_of_ble_eq_true rfl) (by omega) ?_
        refine F_icmp_neN (tgt := 140) dX5_statement_87 rfl (by omega) (by omega) (fun c87 => ?_) (fun c87 => ?_)
        · refine F_iload_n dX5_statement_140 rfl ?_
          refine F_iconst (v := nI 0) dX5_statement_141 rfl ?_
          refine F_iconst (v := nI 0) dX5_statement_142 rfl ?_
          refine F_iconst (v := nI 3) dX5_statement_143 rfl ?_
          refine F_iconst (v := nI 1) dX5_statement_144 rfl ?_
          refine F_bipush (v := nI 13) dX5_statement_145 rfl ?_
          refine F_bipush (v := nI 16) dX5_statement_147 rfl ?_
          refine F_cS6i (v_letters (d := 5) _ _ _ _ _ _) dX5_statement_149 rfl rfl rfl (by decide) (Nat.le_of_ble_eq_true rfl) (by omega) ?_
          refine F_icmp_neN (tgt := 204) dX5_statement_152 rfl (by omega) (by omega) (fun c152 => ?_) (fun c152 => ?_)
          · refine F_iload_n dX5_statement_204 rfl ?_
            refine F_iconst (v := nI 0) dX5_statement_205 rfl ?_
            refine F_iconst (v := nI 0) dX5_statement_206 rfl ?_
            refine F_iconst (v := nI 0) dX5_statement_207 rfl ?_
            refine F_bipush (v := nI 19) dX5_statement_208 rfl ?_
            refine F_iconst (v := nI 5) dX5_statement_210 rfl ?_
            refine F_bipush (v := nI 20) dX5_statement_211 rfl ?_
            refine F_cS6i (v_letters (d := 5) _ _ _ _ _ _) dX5_statement_213 rfl rfl rfl (by decide) (Nat.le_of_ble_eq_true rfl) (by omega) ?_
            refine F_icmp_neN (tgt := 280) dX5_statement_216 rfl (by omega) (by omega) (fun c216 => ?_) (fun c216 => ?_)
            · refine F_iload_n dX5_statement_280 rfl ?_
              refine F_iconst (v := nI 0) dX5_statement_281 rfl ?_
              refine F_iconst (v := nI 0) dX5_statement_282 rfl ?_
              refine F_bipush (v := nI 16) dX5_statement_283 rfl ?_
              refine F_bipush (v := nI 12) dX5_statement_285 rfl ?_
              refine F_iconst (v := nI 1) dX5_statement_287 rfl ?_
              refine F_bipush (v := nI 14) dX5_statement_288 rfl ?_
              refine F_cS6i (v_letters (d := 5) _ _ _ _ _ _) dX5_statement_290 rfl rfl rfl (by decide) (Nat.le_of_ble_eq_true rfl) (by omega) ?_
              refine F_icmp_neN (tgt := 303) dX5_statement_293 rfl (by omega) (by omega) (fun c293 => ?_) (fun c293 => ?_)
              · exact absurd rfl c293
              · refine F_aload_n dX5_statement_296 rfl ?_
                refine F_cV0v (hpt) dX5_statement_297 rfl rfl (by decide) rfl rfl rfl rfl (by decide) (Nat.le_of_ble_eq_true rfl) (by omega) ?_
                refine F_goto (tgt := 312) dX5_statement_300 rfl ?_
                refine F_vret dX5_statement_312 rfl ?_
                exact hQ
            · exact absurd (Decidable.not_not.mp c216) (by decide)
          · exact absurd (Decidable.not_not.mp c152) (by decide)
        · exact absurd (Decidable.not_not.mp c87) (by decide)
      · exact absurd (Decidable.not_not.mp c20) (by decide)

end SPL
