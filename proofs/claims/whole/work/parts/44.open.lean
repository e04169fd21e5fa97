/-! ===== again opens on both sides ===== -/
theorem dX2_openAgain_0 : decode cX2_openAgain 0 = .ok (.aload_n 0, 1) := by decide +kernel
theorem dX2_openAgain_1 : decode cX2_openAgain 1 = .ok (.getfield 111, 3) := by decide +kernel
theorem dX2_openAgain_4 : decode cX2_openAgain 4 = .ok (.iconst 4, 1) := by decide +kernel
theorem dX2_openAgain_5 : decode cX2_openAgain 5 = .ok (.if_icmp .lt 9, 3) := by decide +kernel
theorem dX2_openAgain_8 : decode cX2_openAgain 8 = .ok (.aload_n 0, 1) := by decide +kernel
theorem dX2_openAgain_9 : decode cX2_openAgain 9 = .ok (.iconst 3, 1) := by decide +kernel
theorem dX2_openAgain_10 : decode cX2_openAgain 10 = .ok (.invokevirtual 70, 3) := by decide +kernel
theorem dX2_openAgain_13 : decode cX2_openAgain 13 = .ok (.ireturn, 1) := by decide +kernel
theorem dX2_openAgain_14 : decode cX2_openAgain 14 = .ok (.aload_n 0, 1) := by decide +kernel
theorem dX2_openAgain_15 : decode cX2_openAgain 15 = .ok (.invokevirtual 76, 3) := by decide +kernel
theorem dX2_openAgain_18 : decode cX2_openAgain 18 = .ok (.aload_n 0, 1) := by decide +kernel
theorem dX2_openAgain_19 : decode cX2_openAgain 19 = .ok (.iconst 1, 1) := by decide +kernel
theorem dX2_openAgain_20 : decode cX2_openAgain 20 = .ok (.bipush 70, 2) := by decide +kernel
theorem dX2_openAgain_22 : decode cX2_openAgain 22 = .ok (.invokevirtual 79, 3) := by decide +kernel
theorem dX2_openAgain_25 : decode cX2_openAgain 25 = .ok (.istore_n 1, 1) := by decide +kernel
theorem dX2_openAgain_26 : decode cX2_openAgain 26 = .ok (.iload_n 1, 1) := by decide +kernel
theorem dX2_openAgain_27 : decode cX2_openAgain 27 = .ok (.iconst (-1), 1) := by decide +kernel
theorem dX2_openAgain_28 : decode cX2_openAgain 28 = .ok (.if_icmp .eq 12, 3) := by decide +kernel
theorem dX2_openAgain_31 : decode cX2_openAgain 31 = .ok (.aload_n 0, 1) := by decide +kernel
theorem dX2_openAgain_32 : decode cX2_openAgain 32 = .ok (.bipush 13, 2) := by decide +kernel
theorem dX2_openAgain_34 : decode cX2_openAgain 34 = .ok (.invokevirtual 51, 3) := by decide +kernel
theorem dX2_openAgain_37 : decode cX2_openAgain 37 = .ok (.ifCond .ne 5, 3) := by decide +kernel
theorem dX2_openAgain_40 : decode cX2_openAgain 40 = .ok (.iconst 0, 1) := by decide +kernel
theorem dX2_openAgain_41 : decode cX2_openAgain 41 = .ok (.ireturn, 1) := by decide +kernel
theorem dX2_openAgain_42 : decode cX2_openAgain 42 = .ok (.aload_n 0, 1) := by decide +kernel
theorem dX2_openAgain_43 : decode cX2_openAgain 43 = .ok (.getfield 25, 3) := by decide +kernel
theorem dX2_openAgain_46 : decode cX2_openAgain 46 = .ok (.aload_n 0, 1) := by decide +kernel
theorem dX2_openAgain_47 : decode cX2_openAgain 47 = .ok (.getfield 111, 3) := by decide +kernel
theorem dX2_openAgain_50 : decode cX2_openAgain 50 = .ok (.aload_n 0, 1) := by decide +kernel
theorem dX2_openAgain_51 : decode cX2_openAgain 51 = .ok (.getfield 108, 3) := by decide +kernel
theorem dX2_openAgain_54 : decode cX2_openAgain 54 = .ok (.iastore, 1) := by decide +kernel
theorem dX2_openAgain_55 : decode cX2_openAgain 55 = .ok (.aload_n 0, 1) := by decide +kernel
theorem dX2_openAgain_56 : decode cX2_openAgain 56 = .ok (.getfield 29, 3) := by decide +kernel
theorem dX2_openAgain_59 : decode cX2_openAgain 59 = .ok (.aload_n 0, 1) := by decide +kernel
theorem dX2_openAgain_60 : decode cX2_openAgain 60 = .ok (.getfield 111, 3) := by decide +kernel
theorem dX2_openAgain_63 : decode cX2_openAgain 63 = .ok (.iload_n 1, 1) := by decide +kernel
theorem dX2_openAgain_64 : decode cX2_openAgain 64 = .ok (.iastore, 1) := by decide +kernel
theorem dX2_openAgain_65 : decode cX2_openAgain 65 = .ok (.aload_n 0, 1) := by decide +kernel
theorem dX2_openAgain_66 : decode cX2_openAgain 66 = .ok (.dup, 1) := by decide +kernel
theorem dX2_openAgain_67 : decode cX2_openAgain 67 = .ok (.getfield 111, 3) := by decide +kernel
theorem dX2_openAgain_70 : decode cX2_openAgain 70 = .ok (.iconst 1, 1) := by decide +kernel
theorem dX2_openAgain_71 : decode cX2_openAgain 71 = .ok (.iadd, 1) := by decide +kernel
theorem dX2_openAgain_72 : decode cX2_openAgain 72 = .ok (.putfield 111, 3) := by decide +kernel
theorem dX2_openAgain_75 : decode cX2_openAgain 75 = .ok (.iconst 1, 1) := by decide +kernel
theorem dX2_openAgain_76 : decode cX2_openAgain 76 = .ok (.ireturn, 1) := by decide +kernel
theorem dX5_item_0 : decode cX5_item 0 = .ok (.aload_n 0, 1) := by decide +kernel
theorem dX5_item_1 : decode cX5_item 1 = .ok (.invokevirtual 135, 3) := by decide +kernel
theorem dX5_item_4 : decode cX5_item 4 = .ok (.istore_n 1, 1) := by decide +kernel
theorem dX5_item_5 : decode cX5_item 5 = .ok (.iload_n 1, 1) := by decide +kernel
theorem dX5_item_6 : decode cX5_item 6 = .ok (.ifCond .eq 13, 3) := by decide +kernel
theorem dX5_item_9 : decode cX5_item 9 = .ok (.aload_n 0, 1) := by decide +kernel
theorem dX5_item_10 : decode cX5_item 10 = .ok (.iconst 1, 1) := by decide +kernel
theorem dX5_item_11 : decode cX5_item 11 = .ok (.bipush 70, 2) := by decide +kernel
theorem dX5_item_13 : decode cX5_item 13 = .ok (.invokevirtual 158, 3) := by decide +kernel
theorem dX5_item_16 : decode cX5_item 16 = .ok (.goto 4, 3) := by decide +kernel
theorem dX5_item_19 : decode cX5_item 19 = .ok (.iconst 1, 1) := by decide +kernel
theorem dX5_item_20 : decode cX5_item 20 = .ok (.istore_n 2, 1) := by decide +kernel
theorem dX5_item_21 : decode cX5_item 21 = .ok (.aload_n 0, 1) := by decide +kernel
theorem dX5_item_22 : decode cX5_item 22 = .ok (.getfield 129, 3) := by decide +kernel
theorem dX5_item_25 : decode cX5_item 25 = .ok (.ifCond .eq 4, 3) := by decide +kernel
theorem dX5_item_28 : decode cX5_item 28 = .ok (.return_, 1) := by decide +kernel
theorem dX5_item_29 : decode cX5_item 29 = .ok (.aload_n 0, 1) := by decide +kernel
theorem dX5_item_30 : decode cX5_item 30 = .ok (.invokevirtual 161, 3) := by decide +kernel
theorem dX5_item_33 : decode cX5_item 33 = .ok (.istore_n 3, 1) := by decide +kernel
theorem dX5_item_34 : decode cX5_item 34 = .ok (.iload_n 3, 1) := by decide +kernel
theorem dX5_item_35 : decode cX5_item 35 = .ok (.invokestatic 164, 3) := by decide +kernel
theorem dX5_item_38 : decode cX5_item 38 = .ok (.istore 4, 2) := by decide +kernel
theorem dX5_item_40 : decode cX5_item 40 = .ok (.iload 4, 2) := by decide +kernel
theorem dX5_item_42 : decode cX5_item 42 = .ok (.iconst (-1), 1) := by decide +kernel
theorem dX5_item_43 : decode cX5_item 43 = .ok (.if_icmp .eq 11, 3) := by decide +kernel
theorem dX5_item_46 : decode cX5_item 46 = .ok (.aload_n 0, 1) := by decide +kernel
theorem dX5_item_47 : decode cX5_item 47 = .ok (.iload 4, 2) := by decide +kernel
theorem dX5_item_49 : decode cX5_item 49 = .ok (.iload_n 2, 1) := by decide +kernel
theorem dX5_item_50 : decode cX5_item 50 = .ok (.invokevirtual 167, 3) := by decide +kernel
theorem dX5_item_53 : decode cX5_item 53 = .ok (.return_, 1) := by decide +kernel
theorem dX5_item_54 : decode cX5_item 54 = .ok (.iload_n 1, 1) := by decide +kernel
theorem dX5_item_55 : decode cX5_item 55 = .ok (.ifCond .ne 19, 3) := by decide +kernel
theorem dX5_item_58 : decode cX5_item 58 = .ok (.iload_n 3, 1) := by decide +kernel
theorem dX5_item_59 : decode cX5_item 59 = .ok (.iconst 0, 1) := by decide +kernel
theorem dX5_item_60 : decode cX5_item 60 = .ok (.iconst 1, 1) := by decide +kernel
theorem dX5_item_61 : decode cX5_item 61 = .ok (.bipush 7, 2) := by decide +kernel
theorem dX5_item_63 : decode cX5_item 63 = .ok (.iconst 1, 1) := by decide +kernel
theorem dX5_item_64 : decode cX5_item 64 = .ok (.bipush 9, 2) := by decide +kernel
theorem dX5_item_66 : decode cX5_item 66 = .ok (.bipush 14, 2) := by decide +kernel
theorem dX5_item_68 : decode cX5_item 68 = .ok (.invokestatic 145, 3) := by decide +kernel
theorem dX5_item_71 : decode cX5_item 71 = .ok (.if_icmp .eq 13, 3) := by decide +kernel
theorem dX5_item_74 : decode cX5_item 74 = .ok (.aload_n 0, 1) := by decide +kernel
theorem dX5_item_75 : decode cX5_item 75 = .ok (.iconst 1, 1) := by decide +kernel
theorem dX5_item_76 : decode cX5_item 76 = .ok (.aload_n 0, 1) := by decide +kernel
theorem dX5_item_77 : decode cX5_item 77 = .ok (.getfield 139, 3) := by decide +kernel
theorem dX5_item_80 : decode cX5_item 80 = .ok (.invokevirtual 142, 3) := by decide +kernel
theorem dX5_item_83 : decode cX5_item 83 = .ok (.return_, 1) := by decide +kernel
theorem dX5_item_84 : decode cX5_item 84 = .ok (.aload_n 0, 1) := by decide +kernel
theorem dX5_item_85 : decode cX5_item 85 = .ok (.getfield 155, 3) := by decide +kernel
theorem dX5_item_88 : decode cX5_item 88 = .ok (.iconst 4, 1) := by decide +kernel
theorem dX5_item_89 : decode cX5_item 89 = .ok (.if_icmp .ne 13, 3) := by decide +kernel
theorem dX5_item_92 : decode cX5_item 92 = .ok (.aload_n 0, 1) := by decide +kernel
theorem dX5_item_93 : decode cX5_item 93 = .ok (.iconst 3, 1) := by decide +kernel
theorem dX5_item_94 : decode cX5_item 94 = .ok (.aload_n 0, 1) := by decide +kernel
theorem dX5_item_95 : decode cX5_item 95 = .ok (.getfield 139, 3) := by decide +kernel
theorem dX5_item_98 : decode cX5_item 98 = .ok (.invokevirtual 142, 3) := by decide +kernel
theorem dX5_item_101 : decode cX5_item 101 = .ok (.return_, 1) := by decide +kernel
theorem dX5_item_102 : decode cX5_item 102 = .ok (.aload_n 0, 1) := by decide +kernel
theorem dX5_item_103 : decode cX5_item 103 = .ok (.iconst 1, 1) := by decide +kernel
theorem dX5_item_104 : decode cX5_item 104 = .ok (.bipush 70, 2) := by decide +kernel
theorem dX5_item_106 : decode cX5_item 106 = .ok (.invokevirtual 158, 3) := by decide +kernel
theorem dX5_item_109 : decode cX5_item 109 = .ok (.istore 5, 2) := by decide +kernel
theorem dX5_item_111 : decode cX5_item 111 = .ok (.aload_n 0, 1) := by decide +kernel
theorem dX5_item_112 : decode cX5_item 112 = .ok (.getfield 129, 3) := by decide +kernel
theorem dX5_item_115 : decode cX5_item 115 = .ok (.ifCond .ne 21, 3) := by decide +kernel
theorem dX5_item_118 : decode cX5_item 118 = .ok (.aload_n 0, 1) := by decide +kernel
theorem dX5_item_119 : decode cX5_item 119 = .ok (.invokevirtual 132, 3) := by decide +kernel
theorem dX5_item_122 : decode cX5_item 122 = .ok (.bipush 40, 2) := by decide +kernel
theorem dX5_item_124 : decode cX5_item 124 = .ok (.if_icmp .eq 12, 3) := by decide +kernel
theorem dX5_item_127 : decode cX5_item 127 = .ok (.aload_n 0, 1) := by decide +kernel
theorem dX5_item_128 : decode cX5_item 128 = .ok (.iconst 1, 1) := by decide +kernel
theorem dX5_item_129 : decode cX5_item 129 = .ok (.aload_n 0, 1) := by decide +kernel
theorem dX5_item_130 : decode cX5_item 130 = .ok (.getfield 123, 3) := by decide +kernel
theorem dX5_item_133 : decode cX5_item 133 = .ok (.invokevirtual 142, 3) := by decide +kernel
theorem dX5_item_136 : decode cX5_item 136 = .ok (.aload_n 0, 1) := by decide +kernel
theorem dX5_item_137 : decode cX5_item 137 = .ok (.getfield 129, 3) := by decide +kernel
theorem dX5_item_140 : decode cX5_item 140 = .ok (.ifCond .eq 4, 3) := by decide +kernel
theorem dX5_item_143 : decode cX5_item 143 = .ok (.return_, 1) := by decide +kernel
theorem dX5_item_144 : decode cX5_item 144 = .ok (.aload_n 0, 1) := by decide +kernel
theorem dX5_item_145 : decode cX5_item 145 = .ok (.dup, 1) := by decide +kernel
theorem dX5_item_146 : decode cX5_item 146 = .ok (.getfield 123, 3) := by decide +kernel
theorem dX5_item_149 : decode cX5_item 149 = .ok (.iconst 1, 1) := by decide +kernel
theorem dX5_item_150 : decode cX5_item 150 = .ok (.iadd, 1) := by decide +kernel
theorem dX5_item_151 : decode cX5_item 151 = .ok (.putfield 123, 3) := by decide +kernel
theorem dX5_item_154 : decode cX5_item 154 = .ok (.aload_n 0, 1) := by decide +kernel
theorem dX5_item_155 : decode cX5_item 155 = .ok (.getfield 26, 3) := by decide +kernel
theorem dX5_item_158 : decode cX5_item 158 = .ok (.aload_n 0, 1) := by decide +kernel
theorem dX5_item_159 : decode cX5_item 159 = .ok (.getfield 155, 3) := by decide +kernel
theorem dX5_item_162 : decode cX5_item 162 = .ok (.aload_n 0, 1) := by decide +kernel
theorem dX5_item_163 : decode cX5_item 163 = .ok (.getfield 149, 3) := by decide +kernel
theorem dX5_item_166 : decode cX5_item 166 = .ok (.iastore, 1) := by decide +kernel
theorem dX5_item_167 : decode cX5_item 167 = .ok (.aload_n 0, 1) := by decide +kernel
theorem dX5_item_168 : decode cX5_item 168 = .ok (.getfield 29, 3) := by decide +kernel
theorem dX5_item_171 : decode cX5_item 171 = .ok (.aload_n 0, 1) := by decide +kernel
theorem dX5_item_172 : decode cX5_item 172 = .ok (.getfield 155, 3) := by decide +kernel
theorem dX5_item_175 : decode cX5_item 175 = .ok (.iload 5, 2) := by decide +kernel
theorem dX5_item_177 : decode cX5_item 177 = .ok (.iastore, 1) := by decide +kernel
theorem dX5_item_178 : decode cX5_item 178 = .ok (.aload_n 0, 1) := by decide +kernel
theorem dX5_item_179 : decode cX5_item 179 = .ok (.dup, 1) := by decide +kernel
theorem dX5_item_180 : decode cX5_item 180 = .ok (.getfield 155, 3) := by decide +kernel
theorem dX5_item_183 : decode cX5_item 183 = .ok (.iconst 1, 1) := by decide +kernel
theorem dX5_item_184 : decode cX5_item 184 = .ok (.iadd, 1) := by decide +kernel
theorem dX5_item_185 : decode cX5_item 185 = .ok (.putfield 155, 3) := by decide +kernel
theorem dX5_item_188 : decode cX5_item 188 = .ok (.return_, 1) := by decide +kernel

section OPN
variable {G : mG} {b : Nat → Int32} {L s i n c : Nat} {f0 : Nat → Int32} {g d0 day o : Nat} {K : Nat → Int32} {ad tm : Nat → Nat} {σB : mS}
theorem LM.here {σM : mS} {p : Nat} {f : Nat → Int32} (h : LM σM b L p f) : LM (up σM 116 9 (nI p)) b L p f := by
  obtain ⟨m1, ⟨a, m2, m3, m4⟩, m5, m6, m7⟩ := h
  refine ⟨m1, ⟨p, by rw [m4]; exact rn_le m2, rfl, ?_⟩, m5, m6, m7⟩
  rw [m4, rn_idem m2]
/-- the reference's item: no number stands here -/
theorem LM.nonum (h4 : L ≤ 400) (hby : ∀ k, k < L → isByte (b k)) {d : Nat} {σM : mS} {p : Nat} {f : Nat → Int32} (h : LM σM b L p f) (ht : tkn b L p ≠ 12) : mV G mX5_isNumber (d + 1) [.ref 116] σM (some (.int (bI false))) (up σM 116 9 (nI p)) := by
  obtain ⟨m1, ⟨a, m2, m3, m4⟩, m5, m6, m7⟩ := h
  have hv := v_isNumber (G := G) (d := d) m1 h4 m2 m3 (by rw [m7]; exact hby)
  rw [m7, ← m4, tkn_n12 ht] at hv
  exact hv
theorem i_open4 (h4 : L ≤ 400) (hby : ∀ k, k < L → isByte (b k)) (hP : PB σB b L s i f0 g d0 day o K ad tm n c) (ht : tkn b L (tps b L i) = 11) (ho : o = 4) : ISim G mX2_openAgain mX5_item b L s i f0 g d0 day o K ad tm n c σB := by
  obtain ⟨hB, hK, p4, p5, p6, p7, p8, p9, p10, p11, p12⟩ := id hP
  obtain ⟨h1, h2, h3, h5, h6⟩ := id hB
  have hp4 : tps b L i ≤ 400 := Nat.le_trans (tps_le b L i) h4
  refine ⟨false, up σB 13 3 (nI (3 + 8 * tps b L i)), mV_of fun Q hQ => ?_, BFr.t _ _ _, Or.inr ⟨rfl, 3 + 8 * tps b L i, by omega, by omega, rfl, fun σM hM hat => ?_⟩⟩
  · refine F_aload_n dX2_openAgain_0 rfl ?_
    refine F_getE (v := nI o) dX2_openAgain_1 rfl rfl rfl rfl p6 ?_
    refine F_iconst (v := nI 4) dX2_openAgain_4 rfl ?_
    refine F_icmp_ltN (tgt := 14) dX2_openAgain_5 rfl (by omega) (by omega) (fun c5 => ?_) (fun c5 => ?_)
    · exact absurd c5 (by omega)
    · refine F_aload_n dX2_openAgain_8 rfl ?_
      refine F_iconst (v := nI 3) dX2_openAgain_9 rfl ?_
      refine F_cV1i (v_fail (d := 5) h1 h2 h3 3) dX2_openAgain_10 rfl rfl (by decide) rfl rfl rfl rfl (by decide) (Nat.le_of_ble_eq_true rfl) (by omega) ?_
      refine F_zret dX2_openAgain_13 rfl (by first | exact Or.inl rfl | exact Or.inr rfl | exact bI_01 _) ?_
      exact hQ
  · obtain ⟨hLM, m1, m2, m3, m4, m5⟩ := hM
    have hnn := LM.nonum (G := G) (d := 5) h4 hby hLM (by omega)
    have hLh := hLM.here
    obtain ⟨v, q, w1, w2, w3, w4, w5⟩ := wrd (G := G) (d := 5) h4 hLh
    rw [ht, if_pos (by decide)] at w3
    have ev : v = 1279278 := wtok_inv w3 (by decide)
    subst ev
    have hw := w2
    obtain ⟨l1, l2, l3, l4, l5⟩ := hLM
    refine ⟨up (atS (up σM 116 9 (nI (tps b L i))) q (tps b L i)) 116 7 (nI (3 + 8 * tps b L i)), mV_of fun Q hQ => ?_, rfl, ((MFr.atq _ _).trans (MFr.atS _ _ _)).trans (MFr.fault _ _)⟩
    refine F_aload_n dX5_item_0 rfl ?_
    refine F_cV0i (hnn) dX5_item_1 rfl rfl (by decide) rfl rfl rfl rfl (by decide) (Nat.le_of_ble_eq_true rfl) (by omega) ?_
    refine F_istore_n dX5_item_4 (Nat.le_of_ble_eq_true rfl) ?_
    refine F_iload_n dX5_item_5 rfl ?_
    refine F_if_eqB (tgt := 19) dX5_item_6 rfl (fun c6 => ?_) (fun c6 => ?_)
    · refine F_iconst (v := nI 1) dX5_item_19 rfl ?_
      refine F_istore_n dX5_item_20 (Nat.le_of_ble_eq_true rfl) ?_
      refine F_aload_n dX5_item_21 rfl ?_
      refine F_getE (v := nI 0) dX5_item_22 rfl rfl rfl rfl l3 ?_
      refine F_if_eqN (tgt := 29) dX5_item_25 rfl (by omega) (fun c25 => ?_) (fun c25 => ?_)
      · refine F_aload_n dX5_item_29 rfl ?_
        refine F_cV0i (hw) dX5_item_30 rfl rfl (by decide) rfl rfl rfl rfl (by decide) (Nat.le_of_ble_eq_true rfl) (by omega) ?_
        refine F_istore_n dX5_item_33 (Nat.le_of_ble_eq_true rfl) ?_
        refine F_iload_n dX5_item_34 rfl ?_
        refine F_cS1i (v_kindBy (d := 5) (by decide)) dX5_item_35 rfl rfl rfl (by decide) (Nat.le_of_ble_eq_true rfl) (by omega) ?_
        refine F_top (y := (-1)) (by decide +kernel) ?_
        refine F_istore dX5_item_38 (Nat.le_of_ble_eq_true rfl) ?_
        refine F_iload dX5_item_40 rfl ?_
        refine F_iconst (v := (-1)) dX5_item_42 rfl ?_
        refine F_icmp_eq (tgt := 54) dX5_item_43 rfl (fun c43 => ?_) (fun c43 => ?_)
        · refine F_iload_n dX5_item_54 rfl ?_
          refine F_if_neB (tgt := 74) dX5_item_55 rfl (fun c55 => ?_) (fun c55 => ?_)
          · cases c55
          · refine F_iload_n dX5_item_58 rfl ?_
            refine F_iconst (v := nI 0) dX5_item_59 rfl ?_
            refine F_iconst (v := nI 1) dX5_item_60 rfl ?_
            refine F_bipush (v := nI 7) dX5_item_61 rfl ?_
            refine F_iconst (v := nI 1) dX5_item_63 rfl ?_
            refine F_bipush (v := nI 9) dX5_item_64 rfl ?_
            refine F_bipush (v := nI 14) dX5_item_66 rfl ?_
            refine F_cS6i (v_letters (d := 5) _ _ _ _ _ _) dX5_item_68 rfl rfl rfl (by decide) (Nat.le_of_ble_eq_true rfl) (by omega) ?_
            refine F_icmp_eqN (tgt := 84) dX5_item_71 rfl (by omega) (by omega) (fun c71 => ?_) (fun c71 => ?_)
            · refine F_aload_n dX5_item_84 rfl ?_
              refine F_getE (v := nI o) dX5_item_85 rfl rfl rfl rfl m2 ?_
              refine F_iconst (v := nI 4) dX5_item_88 rfl ?_
              refine F_icmp_neN (tgt := 102) dX5_item_89 rfl (by omega) (by omega) (fun c89 => ?_) (fun c89 => ?_)
              · exact absurd ho c89
              · refine F_aload_n dX5_item_92 rfl ?_
                refine F_iconst (v := nI 3) dX5_item_93 rfl ?_
                refine F_aload_n dX5_item_94 rfl ?_
                refine F_getE (v := nI (tps b L i)) dX5_item_95 rfl rfl rfl rfl rfl ?_
                refine F_cV2v (v_failsB (d := 5) 3 (tps b L i) l3) dX5_item_98 rfl rfl (by decide) rfl rfl rfl rfl (by decide) (Nat.le_of_ble_eq_true rfl) (by omega) ?_
                refine F_vret dX5_item_101 rfl ?_
                exact hQ
            · exact absurd rfl c71
        · exact absurd rfl c43
      · exact absurd rfl c25
    · cases c6

end OPN
