/-! ===== again opens on both sides: it does ===== -/
section OPN4
variable {G : mG} {b : Nat → Int32} {L s i n c : Nat} {f0 : Nat → Int32} {g d0 day o : Nat} {K : Nat → Int32} {ad tm : Nat → Nat} {σB : mS}
theorem MFr.bg (σ : mS) (k : Nat) (v : Int32) : MFr σ (up σ 122 k v) := ⟨fun z z1 z2 z3 => up_n _ _ _ (by omega), fun k a b c e f g => by rw [up_n _ _ _ (by decide)]⟩
theorem MFr.ti (σ : mS) (k : Nat) (v : Int32) : MFr σ (up σ 123 k v) := ⟨fun z z1 z2 z3 => up_n _ _ _ (by omega), fun k a b c e f g => by rw [up_n _ _ _ (by decide)]⟩
theorem i_open3 (h4 : L ≤ 400) (hby : ∀ k, k < L → isByte (b k)) (hP : PB σB b L s i f0 g d0 day o K ad tm n c) (ht : tkn b L (tps b L i) = 11) (ho : o < 4) (hok : tkn b L (tps b L (i + 1)) = 12 ∧ inR (nI (tkv b L (tps b L (i + 1)))) (nI 1) (nI 70) = true) (hgd : tkn b L (tps b L (i + 1 + 1)) = 13) : ISim G mX2_openAgain mX5_item b L s i f0 g d0 day o K ad tm n c σB := by
  obtain ⟨hB, hK, p4, p5, p6, p7, p8, p9, p10, p11, p12⟩ := id hP
  obtain ⟨h1, h2, h3, h5, h6⟩ := id hB
  have hlt := h1.lt h3 (by rw [ht]; decide)
  have hp6 : (tps b L (i + 1 + 1)) ≤ 400 := Nat.le_trans (tps_le b L _) h4
  have v1 := tkv_le b L (tps b L (i + 1))
  obtain ⟨-, -, lt1, hN, hB2, hNM⟩ | ⟨k, k0, k3, ke, kn, hN, hNM⟩ := num (G := G) (d := 5) h4 hby (hB.step hlt) (nI 1) (nI 70)
  rotate_left
  · exact absurd hok kn
  obtain ⟨g1, g2, g3, g4, g5⟩ := id hB2
  have hlt3 := g1.lt g3 (by rw [hgd]; decide)
  have hsg := ten_sg (b := b) (L := L) (p := (tps b L (i + 1 + 1))) (by omega) (by omega)
  have hv2 := hok.2
  rw [inR_nI (by decide) (by decide) (by omega), Bool.and_eq_true, decide_eq_true_eq, decide_eq_true_eq] at hv2
  refine ⟨true, (up (up (up (up (up (up σB 13 2 (nI (i + 1))) 13 2 (nI (i + 1 + 1))) 13 2 (nI (i + 1 + 1 + 1))) 27 o (nI day)) 28 o (nI (tkv b L (tps b L (i + 1))))) 13 6 (nI (o + 1))), mV_of fun Q hQ => ?_, fun z z1 z2 => ?_, Or.inl ⟨rfl, i + 1 + 1 + 1, day, o + 1, K, fun k => if k = o then day else ad k, fun k => if k = o then (tkv b L (tps b L (i + 1))) else tm k, by omega, ⟨⟨?_, rfl, by omega, h5, ?_⟩, hK, p4, p5, rfl, p7, p8, p9, by omega, fun k hk => ?_, p12⟩, fun σM hM hat => ?_⟩⟩
  · refine F_aload_n dX2_openAgain_0 rfl ?_
    refine F_getE (v := nI o) dX2_openAgain_1 rfl rfl rfl rfl p6 ?_
    refine F_iconst (v := nI 4) dX2_openAgain_4 rfl ?_
    refine F_icmp_ltN (tgt := 14) dX2_openAgain_5 rfl (by omega) (by omega) (fun c5 => ?_) (fun c5 => ?_)
    · refine F_aload_n dX2_openAgain_14 rfl ?_
      refine F_cV0v (v_step (d := 5) h1 h2 h3 hlt) dX2_openAgain_15 rfl rfl (by decide) rfl rfl rfl rfl (by decide) (Nat.le_of_ble_eq_true rfl) (by omega) ?_
      refine F_aload_n dX2_openAgain_18 rfl ?_
      refine F_iconst (v := nI 1) dX2_openAgain_19 rfl ?_
      refine F_bipush (v := nI 70) dX2_openAgain_20 rfl ?_
      refine F_cV2i (hN) dX2_openAgain_22 rfl rfl (by decide) rfl rfl rfl rfl (by decide) (Nat.le_of_ble_eq_true rfl) (by omega) ?_
      refine F_istore_n dX2_openAgain_25 (Nat.le_of_ble_eq_true rfl) ?_
      refine F_iload_n dX2_openAgain_26 rfl ?_
      refine F_iconst (v := (-1)) dX2_openAgain_27 rfl ?_
      refine F_icmp_eq (tgt := 40) dX2_openAgain_28 rfl (fun c28 => ?_) (fun c28 => ?_)
      · exact absurd c28 (nI_n1 (by omega))
      · refine F_aload_n dX2_openAgain_31 rfl ?_
        refine F_bipush (v := nI 13) dX2_openAgain_32 rfl ?_
        refine F_cV1i (v_takeB (d := 5) g1 g2 g3 13 (by decide) (by decide) hgd) dX2_openAgain_34 rfl rfl (by decide) rfl rfl rfl rfl (by decide) (Nat.le_of_ble_eq_true rfl) (by omega) ?_
        refine F_if_neN (tgt := 42) dX2_openAgain_37 rfl (by omega) (fun c37 => ?_) (fun c37 => ?_)
        · refine F_aload_n dX2_openAgain_42 rfl ?_
          refine F_getr dX2_openAgain_43 rfl rfl rfl rfl ?_
          refine F_aload_n dX2_openAgain_46 rfl ?_
          refine F_getE (v := nI o) dX2_openAgain_47 rfl rfl rfl rfl p6 ?_
          refine F_aload_n dX2_openAgain_50 rfl ?_
          refine F_getE (v := nI day) dX2_openAgain_51 rfl rfl rfl rfl p5 ?_
          refine F_iast dX2_openAgain_54 rfl (by decide) (by omega) ?_
          refine F_aload_n dX2_openAgain_55 rfl ?_
          refine F_getr dX2_openAgain_56 rfl rfl rfl rfl ?_
          refine F_aload_n dX2_openAgain_59 rfl ?_
          refine F_getE (v := nI o) dX2_openAgain_60 rfl rfl rfl rfl p6 ?_
          refine F_iload_n dX2_openAgain_63 rfl ?_
          refine F_iast dX2_openAgain_64 rfl (by decide) (by omega) ?_
          refine F_aload_n dX2_openAgain_65 rfl ?_
          refine F_dup dX2_openAgain_66 rfl ?_
          refine F_getE (v := nI o) dX2_openAgain_67 rfl rfl rfl rfl p6 ?_
          refine F_iconst (v := nI 1) dX2_openAgain_70 rfl ?_
          refine F_iaddN dX2_openAgain_71 ?_
          refine F_put dX2_openAgain_72 rfl rfl rfl rfl rfl rfl rfl ?_
          refine F_iconst (v := nI 1) dX2_openAgain_75 rfl ?_
          refine F_zret dX2_openAgain_76 rfl (by first | exact Or.inl rfl | exact Or.inr rfl | exact bI_01 _) ?_
          exact hQ
        · exact absurd c37 (by decide)
    · exact absurd ho c5
  · rw [up_n _ _ _ z1, up_n _ _ _ (by omega), up_n _ _ _ (by omega), up_n _ _ _ z1, up_n _ _ _ z1, up_n _ _ _ z1]
  · exact g1.rows (fun z z1 z2 => by rw [up_n _ _ _ (by omega), up_n _ _ _ (by omega), up_n _ _ _ (by omega), up_n _ _ _ (by omega)])
  · exact h6.rows (fun k hk => by rw [up_n _ _ _ (by omega), up_n _ _ _ (by omega), up_n _ _ _ (by omega), up_n _ _ _ (by omega), up_n _ _ _ (by omega), up_n _ _ _ (by omega)])
  · dsimp only
    by_cases hko : k = o
    · subst hko
      rw [if_pos rfl, if_pos rfl]
      refine ⟨?_, ?_, p8, Nat.le_refl _, hv2.1, hv2.2⟩
      · show up (up (up (up (up σB 13 2 (nI (i + 1))) 13 2 (nI (i + 1 + 1))) 13 2 (nI (i + 1 + 1 + 1))) 27 k (nI day)) 28 k (nI (tkv b L (tps b L (i + 1)))) 27 k = _
        rw [up_n _ _ _ (by decide), up_s]
      · show up (up (up (up (up σB 13 2 (nI (i + 1))) 13 2 (nI (i + 1 + 1))) 13 2 (nI (i + 1 + 1 + 1))) 27 k (nI day)) 28 k (nI (tkv b L (tps b L (i + 1)))) 28 k = _
        rw [up_s]
    · rw [if_neg hko, if_neg hko]
      obtain ⟨y1, y2, y3⟩ := p11 k (by omega)
      refine ⟨?_, ?_, y3⟩
      · show up (up (up (up (up σB 13 2 (nI (i + 1))) 13 2 (nI (i + 1 + 1))) 13 2 (nI (i + 1 + 1 + 1))) 27 o (nI day)) 28 o (nI (tkv b L (tps b L (i + 1)))) 27 k = _
        rw [up_n _ _ _ (by decide), up_r _ _ _ hko]
        exact y1
      · show up (up (up (up (up σB 13 2 (nI (i + 1))) 13 2 (nI (i + 1 + 1))) 13 2 (nI (i + 1 + 1 + 1))) 27 o (nI day)) 28 o (nI (tkv b L (tps b L (i + 1)))) 28 k = _
        rw [up_r _ _ _ hko]
        exact y2
  · obtain ⟨hLM, m1, m2, m3, m4, m5⟩ := hM
    have hnn := LM.nonum (G := G) (d := 5) h4 hby hLM (by omega)
    have hLh := hLM.here
    obtain ⟨v, q, w1, w2, w3, w4, w5⟩ := wrd (G := G) (d := 5) h4 hLh
    rw [ht, if_pos (by decide)] at w3
    have ev : v = 1279278 := wtok_inv w3 (by decide)
    subst ev
    have hw := w2
    obtain ⟨l1, l2, l3, l4, l5⟩ := hLM
    have hL2 := w4 (by rw [ht]; decide)
    rw [← h1.next hlt] at hL2
    obtain ⟨q2, hx, hL3⟩ := hNM _ _ hL2
    have hh := LM.hv (G := G) (d := 5) h4 hL3
    have hL4 := hL3.here
    obtain ⟨j1, j2, j3, j4, j5⟩ := id hL4
    refine ⟨(up (up (up (up (up (atS (atS (up σM 116 9 (nI (tps b L i))) q (tps b L i)) q2 (tps b L (i + 1))) 116 9 (nI (tps b L (i + 1 + 1)))) 116 9 (nI ((tps b L (i + 1 + 1)) + 1))) 122 o (nI (day - d0))) 123 o (nI (tkv b L (tps b L (i + 1))))) 116 15 (nI (o + 1))), mV_of fun Q hQ => ?_, ⟨⟨j1, ⟨(tps b L (i + 1 + 1)) + 1, by omega, rfl, ?_⟩, j3, j4, j5⟩, m1, rfl, m3, fun k hk => ?_, m5⟩, ((((((((MFr.atq _ _).trans (MFr.atS _ _ _)).trans (MFr.atS _ _ _)).trans (MFr.atq _ _)).trans (MFr.atq _ _)).trans (MFr.bg _ _ _)).trans (MFr.ti _ _ _)).trans (MFr.op _ _))⟩
    refine F_aload_n dX5_item_0 rfl ?_
    refine F_cV0i (hnn) dX5_item_1 rfl rfl (by decide) rfl rfl rfl rfl (by decide) (Nat.le_of_ble_eq_true rfl) (by omega) ?_
    refine F_istore_n dX5_item_4 (Nat.le_of_ble_eq_true rfl) ?_
    refine F_iload_n dX5_item_5 rfl ?_
    refine F_if_eqB (tgt := 19) dX5_item_6 rfl (fun c6 => ?_) (fun c6 => ?_)
    · refine F_iconst (v := nI 1) dX5_item_19 rfl ?_
      refine F_istore_n dX5_item_20 (Nat.le_of_ble_eq_true rfl) ?_
      refine F_aload_n dX5_item_21 rfl ?_
      refine F_getE (v := nI 0) dX5_item_22 rfl rfl rfl rfl l3 ?_
      refine F_if_eqN (tgt := 29) dX5_item_25 rfl (by omega) (fun c25 => ?_) (fun c25 => ?_)
      · refine F_aload_n dX5_item_29 rfl ?_
        refine F_cV0i (hw) dX5_item_30 rfl rfl (by decide) rfl rfl rfl rfl (by decide) (Nat.le_of_ble_eq_true rfl) (by omega) ?_
        refine F_istore_n dX5_item_33 (Nat.le_of_ble_eq_true rfl) ?_
        refine F_iload_n dX5_item_34 rfl ?_
        refine F_cS1i (v_kindBy (d := 5) (by decide)) dX5_item_35 rfl rfl rfl (by decide) (Nat.le_of_ble_eq_true rfl) (by omega) ?_
        refine F_top (y := (-1)) (by decide +kernel) ?_
        refine F_istore dX5_item_38 (Nat.le_of_ble_eq_true rfl) ?_
        refine F_iload dX5_item_40 rfl ?_
        refine F_iconst (v := (-1)) dX5_item_42 rfl ?_
        refine F_icmp_eq (tgt := 54) dX5_item_43 rfl (fun c43 => ?_) (fun c43 => ?_)
        · refine F_iload_n dX5_item_54 rfl ?_
          refine F_if_neB (tgt := 74) dX5_item_55 rfl (fun c55 => ?_) (fun c55 => ?_)
          · cases c55
          · refine F_iload_n dX5_item_58 rfl ?_
            refine F_iconst (v := nI 0) dX5_item_59 rfl ?_
            refine F_iconst (v := nI 1) dX5_item_60 rfl ?_
            refine F_bipush (v := nI 7) dX5_item_61 rfl ?_
            refine F_iconst (v := nI 1) dX5_item_63 rfl ?_
            refine F_bipush (v := nI 9) dX5_item_64 rfl ?_
            refine F_bipush (v := nI 14) dX5_item_66 rfl ?_
            refine F_cS6i (v_letters (d := 5) _ _ _ _ _ _) dX5_item_68 rfl rfl rfl (by decide) (Nat.le_of_ble_eq_true rfl) (by omega) ?_
            refine F_icmp_eqN (tgt := 84) dX5_item_71 rfl (by omega) (by omega) (fun c71 => ?_) (fun c71 => ?_)
            · refine F_aload_n dX5_item_84 rfl ?_
              refine F_getE (v := nI o) dX5_item_85 rfl rfl rfl rfl m2 ?_
              refine F_iconst (v := nI 4) dX5_item_88 rfl ?_
              refine F_icmp_neN (tgt := 102) dX5_item_89 rfl (by omega) (by omega) (fun c89 => ?_) (fun c89 => ?_)
              · refine F_aload_n dX5_item_102 rfl ?_
                refine F_iconst (v := nI 1) dX5_item_103 rfl ?_
                refine F_bipush (v := nI 70) dX5_item_104 rfl ?_
                refine F_cV2i (hx) dX5_item_106 rfl rfl (by decide) rfl rfl rfl rfl (by decide) (Nat.le_of_ble_eq_true rfl) (by omega) ?_
                refine F_istore dX5_item_109 (Nat.le_of_ble_eq_true rfl) ?_
                refine F_aload_n dX5_item_111 rfl ?_
                refine F_getE (v := nI 0) dX5_item_112 rfl rfl rfl rfl l3 ?_
                refine F_if_neN (tgt := 136) dX5_item_115 rfl (by omega) (fun c115 => ?_) (fun c115 => ?_)
                · exact absurd rfl c115
                · refine F_aload_n dX5_item_118 rfl ?_
                  refine F_cV0i (hh) dX5_item_119 rfl rfl (by decide) rfl rfl rfl rfl (by decide) (Nat.le_of_ble_eq_true rfl) (by omega) ?_
                  refine F_bipush (v := nI 40) dX5_item_122 rfl ?_
                  refine F_icmp_eq (tgt := 136) dX5_item_124 rfl (fun c124 => ?_) (fun c124 => ?_)
                  · refine F_aload_n dX5_item_136 rfl ?_
                    refine F_getE (v := nI 0) dX5_item_137 rfl rfl rfl rfl l3 ?_
                    refine F_if_eqN (tgt := 144) dX5_item_140 rfl (by omega) (fun c140 => ?_) (fun c140 => ?_)
                    · refine F_aload_n dX5_item_144 rfl ?_
                      refine F_dup dX5_item_145 rfl ?_
                      refine F_getE (v := nI (tps b L (i + 1 + 1))) dX5_item_146 rfl rfl rfl rfl rfl ?_
                      refine F_iconst (v := nI 1) dX5_item_149 rfl ?_
                      refine F_iaddN dX5_item_150 ?_
                      refine F_put dX5_item_151 rfl rfl rfl rfl rfl rfl rfl ?_
                      refine F_aload_n dX5_item_154 rfl ?_
                      refine F_getr dX5_item_155 rfl rfl rfl rfl ?_
                      refine F_aload_n dX5_item_158 rfl ?_
                      refine F_getE (v := nI o) dX5_item_159 rfl rfl rfl rfl m2 ?_
                      refine F_aload_n dX5_item_162 rfl ?_
                      refine F_getE (v := nI (day - d0)) dX5_item_163 rfl rfl rfl rfl m1 ?_
                      refine F_iast dX5_item_166 rfl (by decide) (by omega) ?_
                      refine F_aload_n dX5_item_167 rfl ?_
                      refine F_getr dX5_item_168 rfl rfl rfl rfl ?_
                      refine F_aload_n dX5_item_171 rfl ?_
                      refine F_getE (v := nI o) dX5_item_172 rfl rfl rfl rfl m2 ?_
                      refine F_iload dX5_item_175 rfl ?_
                      refine F_iast dX5_item_177 rfl (by decide) (by omega) ?_
                      refine F_aload_n dX5_item_178 rfl ?_
                      refine F_dup dX5_item_179 rfl ?_
                      refine F_getE (v := nI o) dX5_item_180 rfl rfl rfl rfl m2 ?_
                      refine F_iconst (v := nI 1) dX5_item_183 rfl ?_
                      refine F_iaddN dX5_item_184 ?_
                      refine F_put dX5_item_185 rfl rfl rfl rfl rfl rfl rfl ?_
                      refine F_vret dX5_item_188 rfl ?_
                      exact hQ
                    · exact absurd rfl c140
                  · exact absurd ((hr_13 hby).mpr hgd) c124
              · exact absurd (Decidable.not_not.mp c89) (by omega)
            · exact absurd rfl c71
        · exact absurd rfl c43
      · exact absurd rfl c25
    · cases c6

    · rw [g1.next hlt3]
      unfold nxt
      rw [hsg.2]
    · dsimp only
      by_cases hko : k = o
      · subst hko
        rw [if_pos rfl, if_pos rfl]
        refine ⟨?_, ?_⟩
        · show up (up (up (up (atS (atS (up σM 116 9 (nI (tps b L i))) q (tps b L i)) q2 (tps b L (i + 1))) 116 9 (nI (tps b L (i + 1 + 1)))) 116 9 (nI ((tps b L (i + 1 + 1)) + 1))) 122 k (nI (day - d0))) 123 k (nI (tkv b L (tps b L (i + 1)))) 122 k = _
          rw [up_n _ _ _ (by decide), up_s]
        · show up (up (up (up (atS (atS (up σM 116 9 (nI (tps b L i))) q (tps b L i)) q2 (tps b L (i + 1))) 116 9 (nI (tps b L (i + 1 + 1)))) 116 9 (nI ((tps b L (i + 1 + 1)) + 1))) 122 k (nI (day - d0))) 123 k (nI (tkv b L (tps b L (i + 1)))) 123 k = _
          rw [up_s]
      · rw [if_neg hko, if_neg hko]
        obtain ⟨y1, y2⟩ := m4 k (by omega)
        refine ⟨?_, ?_⟩
        · show up (up (up (up (atS (atS (up σM 116 9 (nI (tps b L i))) q (tps b L i)) q2 (tps b L (i + 1))) 116 9 (nI (tps b L (i + 1 + 1)))) 116 9 (nI ((tps b L (i + 1 + 1)) + 1))) 122 o (nI (day - d0))) 123 o (nI (tkv b L (tps b L (i + 1)))) 122 k = _
          rw [up_n _ _ _ (by decide), up_r _ _ _ hko]
          exact y1
        · show up (up (up (up (atS (atS (up σM 116 9 (nI (tps b L i))) q (tps b L i)) q2 (tps b L (i + 1))) 116 9 (nI (tps b L (i + 1 + 1)))) 116 9 (nI ((tps b L (i + 1 + 1)) + 1))) 122 o (nI (day - d0))) 123 o (nI (tkv b L (tps b L (i + 1)))) 123 k = _
          rw [up_r _ _ _ hko]
          exact y2
end OPN4
