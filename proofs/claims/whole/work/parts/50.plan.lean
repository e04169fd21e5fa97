/-! ===== the items of a plan on both sides ===== -/
theorem dX2_readPlan_0 : decode cX2_readPlan 0 = .ok (.aload_n 0, 1) := by decide +kernel
theorem dX2_readPlan_1 : decode cX2_readPlan 1 = .ok (.invokevirtual 76, 3) := by decide +kernel
theorem dX2_readPlan_4 : decode cX2_readPlan 4 = .ok (.aload_n 0, 1) := by decide +kernel
theorem dX2_readPlan_5 : decode cX2_readPlan 5 = .ok (.aload_n 0, 1) := by decide +kernel
theorem dX2_readPlan_6 : decode cX2_readPlan 6 = .ok (.iconst 0, 1) := by decide +kernel
theorem dX2_readPlan_7 : decode cX2_readPlan 7 = .ok (.aload_n 0, 1) := by decide +kernel
theorem dX2_readPlan_8 : decode cX2_readPlan 8 = .ok (.getfield 21, 3) := by decide +kernel
theorem dX2_readPlan_11 : decode cX2_readPlan 11 = .ok (.getfield 73, 3) := by decide +kernel
theorem dX2_readPlan_14 : decode cX2_readPlan 14 = .ok (.iconst 1, 1) := by decide +kernel
theorem dX2_readPlan_15 : decode cX2_readPlan 15 = .ok (.isub, 1) := by decide +kernel
theorem dX2_readPlan_16 : decode cX2_readPlan 16 = .ok (.invokevirtual 79, 3) := by decide +kernel
theorem dX2_readPlan_19 : decode cX2_readPlan 19 = .ok (.putfield 105, 3) := by decide +kernel
theorem dX2_readPlan_22 : decode cX2_readPlan 22 = .ok (.aload_n 0, 1) := by decide +kernel
theorem dX2_readPlan_23 : decode cX2_readPlan 23 = .ok (.aload_n 0, 1) := by decide +kernel
theorem dX2_readPlan_24 : decode cX2_readPlan 24 = .ok (.getfield 105, 3) := by decide +kernel
theorem dX2_readPlan_27 : decode cX2_readPlan 27 = .ok (.iconst (-1), 1) := by decide +kernel
theorem dX2_readPlan_28 : decode cX2_readPlan 28 = .ok (.if_icmp .ne 7, 3) := by decide +kernel
theorem dX2_readPlan_31 : decode cX2_readPlan 31 = .ok (.iconst (-1), 1) := by decide +kernel
theorem dX2_readPlan_32 : decode cX2_readPlan 32 = .ok (.goto 10, 3) := by decide +kernel
theorem dX2_readPlan_35 : decode cX2_readPlan 35 = .ok (.aload_n 0, 1) := by decide +kernel
theorem dX2_readPlan_36 : decode cX2_readPlan 36 = .ok (.iconst 0, 1) := by decide +kernel
theorem dX2_readPlan_37 : decode cX2_readPlan 37 = .ok (.bipush 69, 2) := by decide +kernel
theorem dX2_readPlan_39 : decode cX2_readPlan 39 = .ok (.invokevirtual 79, 3) := by decide +kernel
theorem dX2_readPlan_42 : decode cX2_readPlan 42 = .ok (.putfield 108, 3) := by decide +kernel
theorem dX2_readPlan_45 : decode cX2_readPlan 45 = .ok (.aload_n 0, 1) := by decide +kernel
theorem dX2_readPlan_46 : decode cX2_readPlan 46 = .ok (.getfield 108, 3) := by decide +kernel
theorem dX2_readPlan_49 : decode cX2_readPlan 49 = .ok (.iconst (-1), 1) := by decide +kernel
theorem dX2_readPlan_50 : decode cX2_readPlan 50 = .ok (.if_icmp .ne 5, 3) := by decide +kernel
theorem dX2_readPlan_53 : decode cX2_readPlan 53 = .ok (.iconst 0, 1) := by decide +kernel
theorem dX2_readPlan_54 : decode cX2_readPlan 54 = .ok (.ireturn, 1) := by decide +kernel
theorem dX2_readPlan_55 : decode cX2_readPlan 55 = .ok (.aload_n 0, 1) := by decide +kernel
theorem dX2_readPlan_56 : decode cX2_readPlan 56 = .ok (.iconst 0, 1) := by decide +kernel
theorem dX2_readPlan_57 : decode cX2_readPlan 57 = .ok (.putfield 111, 3) := by decide +kernel
theorem dX2_readPlan_60 : decode cX2_readPlan 60 = .ok (.iconst 0, 1) := by decide +kernel
theorem dX2_readPlan_61 : decode cX2_readPlan 61 = .ok (.istore_n 1, 1) := by decide +kernel
theorem dX2_readPlan_62 : decode cX2_readPlan 62 = .ok (.iload_n 1, 1) := by decide +kernel
theorem dX2_readPlan_63 : decode cX2_readPlan 63 = .ok (.sipush 400, 3) := by decide +kernel
theorem dX2_readPlan_66 : decode cX2_readPlan 66 = .ok (.if_icmp .gt 68, 3) := by decide +kernel
theorem dX2_readPlan_69 : decode cX2_readPlan 69 = .ok (.aload_n 0, 1) := by decide +kernel
theorem dX2_readPlan_70 : decode cX2_readPlan 70 = .ok (.getfield 111, 3) := by decide +kernel
theorem dX2_readPlan_73 : decode cX2_readPlan 73 = .ok (.ifCond .gt 12, 3) := by decide +kernel
theorem dX2_readPlan_76 : decode cX2_readPlan 76 = .ok (.aload_n 0, 1) := by decide +kernel
theorem dX2_readPlan_77 : decode cX2_readPlan 77 = .ok (.invokevirtual 43, 3) := by decide +kernel
theorem dX2_readPlan_80 : decode cX2_readPlan 80 = .ok (.bipush 15, 2) := by decide +kernel
theorem dX2_readPlan_82 : decode cX2_readPlan 82 = .ok (.if_icmp .eq 52, 3) := by decide +kernel
theorem dX2_readPlan_85 : decode cX2_readPlan 85 = .ok (.aload_n 0, 1) := by decide +kernel
theorem dX2_readPlan_86 : decode cX2_readPlan 86 = .ok (.invokevirtual 43, 3) := by decide +kernel
theorem dX2_readPlan_89 : decode cX2_readPlan 89 = .ok (.bipush 11, 2) := by decide +kernel
theorem dX2_readPlan_91 : decode cX2_readPlan 91 = .ok (.if_icmp .ne 10, 3) := by decide +kernel
theorem dX2_readPlan_94 : decode cX2_readPlan 94 = .ok (.aload_n 0, 1) := by decide +kernel
theorem dX2_readPlan_95 : decode cX2_readPlan 95 = .ok (.invokevirtual 114, 3) := by decide +kernel
theorem dX2_readPlan_98 : decode cX2_readPlan 98 = .ok (.goto 23, 3) := by decide +kernel
theorem dX2_readPlan_101 : decode cX2_readPlan 101 = .ok (.aload_n 0, 1) := by decide +kernel
theorem dX2_readPlan_102 : decode cX2_readPlan 102 = .ok (.invokevirtual 43, 3) := by decide +kernel
theorem dX2_readPlan_105 : decode cX2_readPlan 105 = .ok (.bipush 14, 2) := by decide +kernel
theorem dX2_readPlan_107 : decode cX2_readPlan 107 = .ok (.if_icmp .ne 10, 3) := by decide +kernel
theorem dX2_readPlan_110 : decode cX2_readPlan 110 = .ok (.aload_n 0, 1) := by decide +kernel
theorem dX2_readPlan_111 : decode cX2_readPlan 111 = .ok (.invokevirtual 117, 3) := by decide +kernel
theorem dX2_readPlan_114 : decode cX2_readPlan 114 = .ok (.goto 7, 3) := by decide +kernel
theorem dX2_readPlan_117 : decode cX2_readPlan 117 = .ok (.aload_n 0, 1) := by decide +kernel
theorem dX2_readPlan_118 : decode cX2_readPlan 118 = .ok (.invokevirtual 120, 3) := by decide +kernel
theorem dX2_readPlan_121 : decode cX2_readPlan 121 = .ok (.istore_n 2, 1) := by decide +kernel
theorem dX2_readPlan_122 : decode cX2_readPlan 122 = .ok (.iload_n 2, 1) := by decide +kernel
theorem dX2_readPlan_123 : decode cX2_readPlan 123 = .ok (.ifCond .ne 5, 3) := by decide +kernel
theorem dX2_readPlan_126 : decode cX2_readPlan 126 = .ok (.iconst 0, 1) := by decide +kernel
theorem dX2_readPlan_127 : decode cX2_readPlan 127 = .ok (.ireturn, 1) := by decide +kernel
theorem dX2_readPlan_128 : decode cX2_readPlan 128 = .ok (.iinc 1 1, 3) := by decide +kernel
theorem dX2_readPlan_131 : decode cX2_readPlan 131 = .ok (.goto (-69), 3) := by decide +kernel
theorem dX2_readPlan_134 : decode cX2_readPlan 134 = .ok (.iconst 1, 1) := by decide +kernel
theorem dX2_readPlan_135 : decode cX2_readPlan 135 = .ok (.ireturn, 1) := by decide +kernel
theorem dX5_planTold_0 : decode cX5_planTold 0 = .ok (.aload_n 0, 1) := by decide +kernel
theorem dX5_planTold_1 : decode cX5_planTold 1 = .ok (.iconst 0, 1) := by decide +kernel
theorem dX5_planTold_2 : decode cX5_planTold 2 = .ok (.aload_n 0, 1) := by decide +kernel
theorem dX5_planTold_3 : decode cX5_planTold 3 = .ok (.invokevirtual 64, 3) := by decide +kernel
theorem dX5_planTold_6 : decode cX5_planTold 6 = .ok (.iconst 1, 1) := by decide +kernel
theorem dX5_planTold_7 : decode cX5_planTold 7 = .ok (.isub, 1) := by decide +kernel
theorem dX5_planTold_8 : decode cX5_planTold 8 = .ok (.invokevirtual 158, 3) := by decide +kernel
theorem dX5_planTold_11 : decode cX5_planTold 11 = .ok (.istore_n 1, 1) := by decide +kernel
theorem dX5_planTold_12 : decode cX5_planTold 12 = .ok (.aload_n 0, 1) := by decide +kernel
theorem dX5_planTold_13 : decode cX5_planTold 13 = .ok (.iconst 0, 1) := by decide +kernel
theorem dX5_planTold_14 : decode cX5_planTold 14 = .ok (.bipush 69, 2) := by decide +kernel
theorem dX5_planTold_16 : decode cX5_planTold 16 = .ok (.invokevirtual 158, 3) := by decide +kernel
theorem dX5_planTold_19 : decode cX5_planTold 19 = .ok (.istore_n 2, 1) := by decide +kernel
theorem dX5_planTold_20 : decode cX5_planTold 20 = .ok (.aload_n 0, 1) := by decide +kernel
theorem dX5_planTold_21 : decode cX5_planTold 21 = .ok (.iconst 0, 1) := by decide +kernel
theorem dX5_planTold_22 : decode cX5_planTold 22 = .ok (.putfield 149, 3) := by decide +kernel
theorem dX5_planTold_25 : decode cX5_planTold 25 = .ok (.aload_n 0, 1) := by decide +kernel
theorem dX5_planTold_26 : decode cX5_planTold 26 = .ok (.iconst 0, 1) := by decide +kernel
theorem dX5_planTold_27 : decode cX5_planTold 27 = .ok (.putfield 155, 3) := by decide +kernel
theorem dX5_planTold_30 : decode cX5_planTold 30 = .ok (.aload_n 0, 1) := by decide +kernel
theorem dX5_planTold_31 : decode cX5_planTold 31 = .ok (.bipush 70, 2) := by decide +kernel
theorem dX5_planTold_33 : decode cX5_planTold 33 = .ok (.iload_n 2, 1) := by decide +kernel
theorem dX5_planTold_34 : decode cX5_planTold 34 = .ok (.isub, 1) := by decide +kernel
theorem dX5_planTold_35 : decode cX5_planTold 35 = .ok (.putfield 152, 3) := by decide +kernel
theorem dX5_planTold_38 : decode cX5_planTold 38 = .ok (.aload_n 0, 1) := by decide +kernel
theorem dX5_planTold_39 : decode cX5_planTold 39 = .ok (.getfield 129, 3) := by decide +kernel
theorem dX5_planTold_42 : decode cX5_planTold 42 = .ok (.ifCond .ne 49, 3) := by decide +kernel
theorem dX5_planTold_45 : decode cX5_planTold 45 = .ok (.aload_n 0, 1) := by decide +kernel
theorem dX5_planTold_46 : decode cX5_planTold 46 = .ok (.getfield 155, 3) := by decide +kernel
theorem dX5_planTold_49 : decode cX5_planTold 49 = .ok (.ifCond .gt 12, 3) := by decide +kernel
theorem dX5_planTold_52 : decode cX5_planTold 52 = .ok (.aload_n 0, 1) := by decide +kernel
theorem dX5_planTold_53 : decode cX5_planTold 53 = .ok (.invokevirtual 132, 3) := by decide +kernel
theorem dX5_planTold_56 : decode cX5_planTold 56 = .ok (.bipush 59, 2) := by decide +kernel
theorem dX5_planTold_58 : decode cX5_planTold 58 = .ok (.if_icmp .eq 33, 3) := by decide +kernel
theorem dX5_planTold_61 : decode cX5_planTold 61 = .ok (.aload_n 0, 1) := by decide +kernel
theorem dX5_planTold_62 : decode cX5_planTold 62 = .ok (.getfield 155, 3) := by decide +kernel
theorem dX5_planTold_65 : decode cX5_planTold 65 = .ok (.ifCond .le 19, 3) := by decide +kernel
theorem dX5_planTold_68 : decode cX5_planTold 68 = .ok (.aload_n 0, 1) := by decide +kernel
theorem dX5_planTold_69 : decode cX5_planTold 69 = .ok (.invokevirtual 132, 3) := by decide +kernel
theorem dX5_planTold_72 : decode cX5_planTold 72 = .ok (.bipush 41, 2) := by decide +kernel
theorem dX5_planTold_74 : decode cX5_planTold 74 = .ok (.if_icmp .ne 10, 3) := by decide +kernel
theorem dX5_planTold_77 : decode cX5_planTold 77 = .ok (.aload_n 0, 1) := by decide +kernel
theorem dX5_planTold_78 : decode cX5_planTold 78 = .ok (.invokevirtual 170, 3) := by decide +kernel
theorem dX5_planTold_81 : decode cX5_planTold 81 = .ok (.goto (-43), 3) := by decide +kernel
theorem dX5_planTold_84 : decode cX5_planTold 84 = .ok (.aload_n 0, 1) := by decide +kernel
theorem dX5_planTold_85 : decode cX5_planTold 85 = .ok (.invokevirtual 173, 3) := by decide +kernel
theorem dX5_planTold_88 : decode cX5_planTold 88 = .ok (.goto (-50), 3) := by decide +kernel
theorem dX5_planTold_91 : decode cX5_planTold 91 = .ok (.iconst 0, 1) := by decide +kernel
theorem dX5_planTold_92 : decode cX5_planTold 92 = .ok (.istore_n 3, 1) := by decide +kernel
theorem dX5_planTold_93 : decode cX5_planTold 93 = .ok (.iload_n 3, 1) := by decide +kernel
theorem dX5_planTold_94 : decode cX5_planTold 94 = .ok (.aload_n 0, 1) := by decide +kernel
theorem dX5_planTold_95 : decode cX5_planTold 95 = .ok (.getfield 149, 3) := by decide +kernel
theorem dX5_planTold_98 : decode cX5_planTold 98 = .ok (.if_icmp .ge 38, 3) := by decide +kernel
theorem dX5_planTold_101 : decode cX5_planTold 101 = .ok (.aload_n 0, 1) := by decide +kernel
theorem dX5_planTold_102 : decode cX5_planTold 102 = .ok (.getfield 129, 3) := by decide +kernel
theorem dX5_planTold_105 : decode cX5_planTold 105 = .ok (.ifCond .ne 31, 3) := by decide +kernel
theorem dX5_planTold_108 : decode cX5_planTold 108 = .ok (.aload_n 0, 1) := by decide +kernel
theorem dX5_planTold_109 : decode cX5_planTold 109 = .ok (.getfield 7, 3) := by decide +kernel
theorem dX5_planTold_112 : decode cX5_planTold 112 = .ok (.bipush 40, 2) := by decide +kernel
theorem dX5_planTold_114 : decode cX5_planTold 114 = .ok (.bipush 70, 2) := by decide +kernel
theorem dX5_planTold_116 : decode cX5_planTold 116 = .ok (.iload_n 1, 1) := by decide +kernel
theorem dX5_planTold_117 : decode cX5_planTold 117 = .ok (.imul, 1) := by decide +kernel
theorem dX5_planTold_118 : decode cX5_planTold 118 = .ok (.iadd, 1) := by decide +kernel
theorem dX5_planTold_119 : decode cX5_planTold 119 = .ok (.iload_n 2, 1) := by decide +kernel
theorem dX5_planTold_120 : decode cX5_planTold 120 = .ok (.iadd, 1) := by decide +kernel
theorem dX5_planTold_121 : decode cX5_planTold 121 = .ok (.iload_n 3, 1) := by decide +kernel
theorem dX5_planTold_122 : decode cX5_planTold 122 = .ok (.iadd, 1) := by decide +kernel
theorem dX5_planTold_123 : decode cX5_planTold 123 = .ok (.aload_n 0, 1) := by decide +kernel
theorem dX5_planTold_124 : decode cX5_planTold 124 = .ok (.getfield 23, 3) := by decide +kernel
theorem dX5_planTold_127 : decode cX5_planTold 127 = .ok (.iload_n 3, 1) := by decide +kernel
theorem dX5_planTold_128 : decode cX5_planTold 128 = .ok (.iaload, 1) := by decide +kernel
theorem dX5_planTold_129 : decode cX5_planTold 129 = .ok (.iastore, 1) := by decide +kernel
theorem dX5_planTold_130 : decode cX5_planTold 130 = .ok (.iinc 3 1, 3) := by decide +kernel
theorem dX5_planTold_133 : decode cX5_planTold 133 = .ok (.goto (-40), 3) := by decide +kernel
theorem dX5_planTold_136 : decode cX5_planTold 136 = .ok (.return_, 1) := by decide +kernel

section PLL
variable {G : mG} {b : Nat → Int32} {L s n c : Nat} {f0 : Nat → Int32} {g d0 : Nat}
theorem i_close0 {i day o : Nat} {K : Nat → Int32} {ad tm : Nat → Nat} {σB : mS} (h4 : L ≤ 400) (hby : ∀ k, k < L → isByte (b k)) (hP : PB σB b L s i f0 g d0 day o K ad tm n c) (ht : tkn b L (tps b L i) = 14) (ho : o = 0) : ISim G mX2_closeAgain mX5_item b L s i f0 g d0 day o K ad tm n c σB := by
  obtain ⟨hB, hK, p4, p5, p6, p7, p8, p9, p10, p11, p12⟩ := id hP
  obtain ⟨h1, h2, h3, h5, h6⟩ := id hB
  have hp4 : tps b L i ≤ 400 := Nat.le_trans (tps_le b L i) h4
  refine ⟨false, up σB 13 3 (nI (1 + 8 * tps b L i)), mV_of fun Q hQ => ?_, BFr.t _ _ _, Or.inr ⟨rfl, (1 + 8 * tps b L i), by omega, by omega, rfl, fun σM hM hat => ?_⟩⟩
  · refine F_aload_n dX2_closeAgain_0 rfl ?_
    refine F_getE (v := nI o) dX2_closeAgain_1 rfl rfl rfl rfl p6 ?_
    refine F_if_leN (tgt := 25) dX2_closeAgain_4 rfl (by omega) (fun c4 => ?_) (fun c4 => ?_)
    · refine F_aload_n dX2_closeAgain_25 rfl ?_
      refine F_iconst (v := nI 1) dX2_closeAgain_26 rfl ?_
      refine F_cV1i (v_fail (d := 5) h1 h2 h3 1) dX2_closeAgain_27 rfl rfl (by decide) rfl rfl rfl rfl (by decide) (Nat.le_of_ble_eq_true rfl) (by omega) ?_
      refine F_zret dX2_closeAgain_30 rfl (by first | exact Or.inl rfl | exact Or.inr rfl | exact bI_01 _) ?_
      exact hQ
    · exact absurd ho (by omega)
  · obtain ⟨hLM, m1, m2, m3, m4, m5⟩ := hM
    have hnn := LM.nonum (G := G) (d := 5) h4 hby hLM (by omega)
    have hLh := hLM.here
    obtain ⟨v, q, w1, hw, w3, w4, w5⟩ := wrd (G := G) (d := 5) h4 hLh
    obtain ⟨l1, l2, l3, l4, l5⟩ := id hLM
    rw [if_neg (by omega)] at w3
    have hk := kdV_a (v := v) (by omega)
    have hk11 : v ≠ 1279278 := fun z => by
      rw [z] at w3
      have e11 : wtok 1279278 = 11 := by decide
      omega
    refine ⟨up (atS (up σM 116 9 (nI (tps b L i))) q (tps b L i)) 116 7 (nI (1 + 8 * tps b L i)), mV_of fun Q hQ => ?_, rfl, ((MFr.atq _ _).trans (MFr.atS _ _ _)).trans (MFr.fault _ _)⟩
    refine F_aload_n dX5_item_0 rfl ?_
    refine F_cV0i (hnn) dX5_item_1 rfl rfl (by decide) rfl rfl rfl rfl (by decide) (Nat.le_of_ble_eq_true rfl) (by omega) ?_
    refine F_istore_n dX5_item_4 (Nat.le_of_ble_eq_true rfl) ?_
    refine F_iload_n dX5_item_5 rfl ?_
    refine F_if_eqB (tgt := 19) dX5_item_6 rfl (fun c6 => ?_) (fun c6 => ?_)
    · refine F_iconst (v := nI 1) dX5_item_19 rfl ?_
      refine F_istore_n dX5_item_20 (Nat.le_of_ble_eq_true rfl) ?_
      refine F_aload_n dX5_item_21 rfl ?_
      refine F_getE (v := nI 0) dX5_item_22 rfl rfl rfl rfl l3 ?_
      refine F_if_eqN (tgt := 29) dX5_item_25 rfl (by omega) (fun c25 => ?_) (fun c25 => ?_)
      · refine F_aload_n dX5_item_29 rfl ?_
        refine F_cV0i (hw) dX5_item_30 rfl rfl (by decide) rfl rfl rfl rfl (by decide) (Nat.le_of_ble_eq_true rfl) (by omega) ?_
        refine F_istore_n dX5_item_33 (Nat.le_of_ble_eq_true rfl) ?_
        refine F_iload_n dX5_item_34 rfl ?_
        refine F_cS1i (v_kindBy (d := 5) w1) dX5_item_35 rfl rfl rfl (by decide) (Nat.le_of_ble_eq_true rfl) (by omega) ?_
        refine F_top (y := (-1)) hk ?_
        refine F_istore dX5_item_38 (Nat.le_of_ble_eq_true rfl) ?_
        refine F_iload dX5_item_40 rfl ?_
        refine F_iconst (v := (-1)) dX5_item_42 rfl ?_
        refine F_icmp_eq (tgt := 54) dX5_item_43 rfl (fun c43 => ?_) (fun c43 => ?_)
        · refine F_iload_n dX5_item_54 rfl ?_
          refine F_if_neB (tgt := 74) dX5_item_55 rfl (fun c55 => ?_) (fun c55 => ?_)
          · cases c55
          · refine F_iload_n dX5_item_58 rfl ?_
            refine F_iconst (v := nI 0) dX5_item_59 rfl ?_
            refine F_iconst (v := nI 1) dX5_item_60 rfl ?_
            refine F_bipush (v := nI 7) dX5_item_61 rfl ?_
            refine F_iconst (v := nI 1) dX5_item_63 rfl ?_
            refine F_bipush (v := nI 9) dX5_item_64 rfl ?_
            refine F_bipush (v := nI 14) dX5_item_66 rfl ?_
            refine F_cS6i (v_letters (d := 5) _ _ _ _ _ _) dX5_item_68 rfl rfl rfl (by decide) (Nat.le_of_ble_eq_true rfl) (by omega) ?_
            refine F_icmp_eqN (tgt := 84) dX5_item_71 rfl (by omega) (by omega) (fun c71 => ?_) (fun c71 => ?_)
            · exact absurd c71 hk11
            · refine F_aload_n dX5_item_74 rfl ?_
              refine F_iconst (v := nI 1) dX5_item_75 rfl ?_
              refine F_aload_n dX5_item_76 rfl ?_
              refine F_getE (v := nI (tps b L i)) dX5_item_77 rfl rfl rfl rfl rfl ?_
              refine F_cV2v (v_failsB (d := 5) 1 (tps b L i) l3) dX5_item_80 rfl rfl (by decide) rfl rfl rfl rfl (by decide) (Nat.le_of_ble_eq_true rfl) (by omega) ?_
              refine F_vret dX5_item_83 rfl ?_
              exact hQ
        · exact absurd rfl c43
      · exact absurd rfl c25
    · cases c6

theorem i_days {i day o : Nat} {K : Nat → Int32} {ad tm : Nat → Nat} {σB : mS} (h4 : L ≤ 400) (hby : ∀ k, k < L → isByte (b k)) (hP : PB σB b L s i f0 g d0 day o K ad tm n c) (ht : tkn b L (tps b L i) ≠ 11) : ISim G mX2_readDays mX5_item b L s i f0 g d0 day o K ad tm n c σB := by
  by_cases h12 : tkn b L (tps b L i) = 12
  · cases hok : inR (nI (tkv b L (tps b L i))) (nI 1) (nI 70) with
    | false => exact i_days0 h4 hby hP h12 hok
    | true =>
      by_cases hk : tkn b L (tps b L (i + 1)) < 6
      · by_cases hd : day + tkv b L (tps b L i) ≤ 70
        · exact i_daysC1 h4 hby hP h12 hok hk hd
        · exact i_daysB1 h4 hby hP h12 hok hk (by omega)
      · exact i_daysA1 h4 hby hP h12 hok (by omega)
  · by_cases hk : tkn b L (tps b L i) < 6
    · by_cases hd : day + 1 ≤ 70
      · exact i_daysC0 h4 hby hP h12 ht hk hd
      · exact i_daysB0 h4 hby hP h12 ht hk (by omega)
    · exact i_daysA0 h4 hby hP h12 ht (by omega)
theorem i_open {i day o : Nat} {K : Nat → Int32} {ad tm : Nat → Nat} {σB : mS} (h4 : L ≤ 400) (hby : ∀ k, k < L → isByte (b k)) (hP : PB σB b L s i f0 g d0 day o K ad tm n c) (ht : tkn b L (tps b L i) = 11) : ISim G mX2_openAgain mX5_item b L s i f0 g d0 day o K ad tm n c σB := by
  have ho4 := hP.2.2.2.2.2.2.2.2.1
  by_cases ho : o = 4
  · exact i_open4 h4 hby hP ht ho
  · by_cases hok : tkn b L (tps b L (i + 1)) = 12 ∧ inR (nI (tkv b L (tps b L (i + 1)))) (nI 1) (nI 70) = true
    · by_cases h13 : tkn b L (tps b L (i + 1 + 1)) = 13
      · exact i_open3 h4 hby hP ht (by omega) hok h13
      · exact i_open2 h4 hby hP ht (by omega) hok h13
    · exact i_open1 h4 hby hP ht (by omega) hok
theorem i_close {i day o : Nat} {K : Nat → Int32} {ad tm : Nat → Nat} {σB : mS} (h4 : L ≤ 400) (hby : ∀ k, k < L → isByte (b k)) (hP : PB σB b L s i f0 g d0 day o K ad tm n c) (ht : tkn b L (tps b L i) = 14) (ho : 0 < o) : ISim G mX2_closeAgain mX5_closes b L s i f0 g d0 day o K ad tm n c σB := by
  obtain ⟨o, rfl⟩ := Nat.exists_eq_add_of_le' ho
  have q4 := (hP.2.2.2.2.2.2.2.2.2.1 o (by omega)).2.2.2.1
  by_cases hz : day = ad o
  · exact i_close1 h4 hP ht (Or.inl hz)
  · by_cases hl : ad o + (day - ad o) * tm o ≤ 70
    · exact i_close2 h4 hP ht (by omega) hl
    · exact i_close1 h4 hP ht (Or.inr (by omega))
theorem PM.here {i day o : Nat} {K : Nat → Int32} {ad tm : Nat → Nat} {σM : mS} (h : PM σM b L (tps b L i) f0 d0 day o K ad tm) : PM (up σM 116 9 (nI (tps b L i))) b L (tps b L i) f0 d0 day o K ad tm := by
  obtain ⟨h0, h1, h2, h3, h4, h5⟩ := h
  exact ⟨h0.here, h1, h2, h3, h4, h5⟩

theorem l_plan (h4 : L ≤ 400) (hby : ∀ k, k < L → isByte (b k)) : ∀ q i day o K ad tm cnt l2 σB, i + q = s → cnt ≤ i → PB σB b L s i f0 g d0 day o K ad tm n c → ∃ (bo : Bool) (σC : mS), (∀ Q : Option Value → mS → Prop, Q (some (.int (bI bo))) σC → mF G mX2_readPlan 9 62 [some (.ref 13), some (.int (nI cnt)), l2] [] σB Q) ∧ BFr σB σC ∧ ((bo = true ∧ ∃ i2 day2 K2 ad2 tm2, i ≤ i2 ∧ PB σC b L s i2 f0 g d0 day2 0 K2 ad2 tm2 n c ∧ ∀ σM l1 l2 l3, PM σM b L (tps b L i) f0 d0 day o K ad tm → ∃ σN, (∀ Q : Option Value → mS → Prop, mF G mX5_planTold 10 91 [some (.ref 116), l1, l2, l3] [] σN Q → mF G mX5_planTold 10 38 [some (.ref 116), l1, l2, l3] [] σM Q) ∧ PM σN b L (tps b L i2) f0 d0 day2 0 K2 ad2 tm2 ∧ MFr σM σN) ∨ (bo = false ∧ ∃ F, 0 < F ∧ F < 4096 ∧ σC 13 3 = nI F ∧ ∀ σM l1 l2 l3, PM σM b L (tps b L i) f0 d0 day o K ad tm → ∃ σN, (∀ Q : Option Value → mS → Prop, mF G mX5_planTold 10 91 [some (.ref 116), l1, l2, l3] [] σN Q → mF G mX5_planTold 10 38 [some (.ref 116), l1, l2, l3] [] σM Q) ∧ σN 116 7 = nI F ∧ MFr σM σN)) := by
  intro q
  induction q using Nat.strongRecOn with
  | _ q ih =>
  intro i day o K ad tm cnt l2 σB hq hcnt hP
  obtain ⟨hB, hK, p4, p5, p6, p7, p8, p9, p10, p11, p12⟩ := id hP
  obtain ⟨h1, h2, h3, h5, h6⟩ := id hB
  have hs4 : s ≤ 400 := h1.2.2.2.2
  have tlt := tkn_lt b L (tps b L i)
  by_cases hstop : o = 0 ∧ tkn b L (tps b L i) = 15
  · obtain ⟨ho, h15⟩ := hstop
    subst ho
    refine ⟨true, σB, fun Q hQ => ?_, fun _ _ _ => rfl, Or.inl ⟨rfl, i, day, K, ad, tm, Nat.le_refl _, hP, fun σM l1 l2 l3 hM => ?_⟩⟩
    · refine F_iload_n dX2_readPlan_62 rfl ?_
      refine F_sipush (v := nI 400) dX2_readPlan_63 rfl ?_
      refine F_icmp_gtN (tgt := 134) dX2_readPlan_66 rfl (by omega) (by omega) (fun c66 => ?_) (fun c66 => ?_)
      · exact absurd c66 (by omega)
      · refine F_aload_n dX2_readPlan_69 rfl ?_
        refine F_getE (v := nI 0) dX2_readPlan_70 rfl rfl rfl rfl p6 ?_
        refine F_if_gtN (tgt := 85) dX2_readPlan_73 rfl (by omega) (fun c73 => ?_) (fun c73 => ?_)
        · exact absurd c73 (by omega)
        · refine F_aload_n dX2_readPlan_76 rfl ?_
          refine F_cV0i (v_token (d := 7) h1 h2 h3) dX2_readPlan_77 rfl rfl (by decide) rfl rfl rfl rfl (by decide) (Nat.le_of_ble_eq_true rfl) (by omega) ?_
          refine F_bipush (v := nI 15) dX2_readPlan_80 rfl ?_
          refine F_icmp_eqN (tgt := 134) dX2_readPlan_82 rfl (by omega) (by omega) (fun c82 => ?_) (fun c82 => ?_)
          · refine F_iconst (v := nI 1) dX2_readPlan_134 rfl ?_
            refine F_zret dX2_readPlan_135 rfl (by first | exact Or.inl rfl | exact Or.inr rfl | exact bI_01 _) ?_
            exact hQ
          · exact absurd h15 c82
    · obtain ⟨hLM, m1, m2, m3, m4, m5⟩ := id hM
      have hh := LM.hv (G := G) (d := 7) h4 hLM
      refine ⟨(up σM 116 9 (nI (tps b L i))), fun Q hQ => ?_, hM.here, MFr.atq _ _⟩
      refine F_aload_n dX5_planTold_38 rfl ?_
      refine F_getE (v := nI 0) dX5_planTold_39 rfl rfl rfl rfl hLM.2.2.1 ?_
      refine F_if_neN (tgt := 91) dX5_planTold_42 rfl (by omega) (fun c42 => ?_) (fun c42 => ?_)
      · exact absurd rfl c42
      · refine F_aload_n dX5_planTold_45 rfl ?_
        refine F_getE (v := nI 0) dX5_planTold_46 rfl rfl rfl rfl m2 ?_
        refine F_if_gtN (tgt := 61) dX5_planTold_49 rfl (by omega) (fun c49 => ?_) (fun c49 => ?_)
        · exact absurd c49 (by omega)
        · refine F_aload_n dX5_planTold_52 rfl ?_
          refine F_cV0i (hh) dX5_planTold_53 rfl rfl (by decide) rfl rfl rfl rfl (by decide) (Nat.le_of_ble_eq_true rfl) (by omega) ?_
          refine F_bipush (v := nI 59) dX5_planTold_56 rfl ?_
          refine F_icmp_eq (tgt := 91) dX5_planTold_58 rfl (fun c58 => ?_) (fun c58 => ?_)
          · exact hQ
          · exact absurd ((hr_15 hby).mpr h15) c58

  by_cases h11 : tkn b L (tps b L i) = 11
  · skip
    by_cases ho : o = 0
    · skip
      obtain ⟨bo, σ1, hb1, fr1, ⟨hbo, i2, day2, o2, K2, ad2, tm2, hi2, hP2, hM2⟩ | ⟨hbo, F, F0, F4, hF, hM2⟩⟩ := i_open (G := G) h4 hby hP h11
      · subst hbo
        have hi2s := hP2.1.2.2.1
        obtain ⟨bo, σC, k1, k2, k3⟩ := ih (s - i2) (by omega) i2 day2 o2 K2 ad2 tm2 (cnt + 1) (some (.int (bI true))) σ1 (by omega) (by omega) hP2
        refine ⟨bo, σC, fun Q hQ => ?_, fr1.trans k2, ?_⟩
        · have k1 := k1 Q hQ
          refine F_iload_n dX2_readPlan_62 rfl ?_
          refine F_sipush (v := nI 400) dX2_readPlan_63 rfl ?_
          refine F_icmp_gtN (tgt := 134) dX2_readPlan_66 rfl (by omega) (by omega) (fun c66 => ?_) (fun c66 => ?_)
          · exact absurd c66 (by omega)
          · refine F_aload_n dX2_readPlan_69 rfl ?_
            refine F_getE (v := nI o) dX2_readPlan_70 rfl rfl rfl rfl p6 ?_
            refine F_if_gtN (tgt := 85) dX2_readPlan_73 rfl (by omega) (fun c73 => ?_) (fun c73 => ?_)
            · exact absurd c73 (by omega)
            · refine F_aload_n dX2_readPlan_76 rfl ?_
              refine F_cV0i (v_token (d := 7) h1 h2 h3) dX2_readPlan_77 rfl rfl (by decide) rfl rfl rfl rfl (by decide) (Nat.le_of_ble_eq_true rfl) (by omega) ?_
              refine F_bipush (v := nI 15) dX2_readPlan_80 rfl ?_
              refine F_icmp_eqN (tgt := 134) dX2_readPlan_82 rfl (by omega) (by omega) (fun c82 => ?_) (fun c82 => ?_)
              · exact absurd ⟨by omega, c82⟩ hstop
              · refine F_aload_n dX2_readPlan_85 rfl ?_
                refine F_cV0i (v_token (d := 7) h1 h2 h3) dX2_readPlan_86 rfl rfl (by decide) rfl rfl rfl rfl (by decide) (Nat.le_of_ble_eq_true rfl) (by omega) ?_
                refine F_bipush (v := nI 11) dX2_readPlan_89 rfl ?_
                refine F_icmp_neN (tgt := 101) dX2_readPlan_91 rfl (by omega) (by omega) (fun c91 => ?_) (fun c91 => ?_)
                · exact absurd h11 c91
                · refine F_aload_n dX2_readPlan_94 rfl ?_
                  refine F_cV0i (hb1) dX2_readPlan_95 rfl rfl (by decide) rfl rfl rfl rfl (by decide) (Nat.le_of_ble_eq_true rfl) (by omega) ?_
                  refine F_goto (tgt := 121) dX2_readPlan_98 rfl ?_
                  refine F_istore_n dX2_readPlan_121 (Nat.le_of_ble_eq_true rfl) ?_
                  refine F_iload_n dX2_readPlan_122 rfl ?_
                  refine F_if_neB (tgt := 128) dX2_readPlan_123 rfl (fun c123 => ?_) (fun c123 => ?_)
                  · refine F_iincN dX2_readPlan_128 rfl ?_
                    refine F_goto (tgt := 62) dX2_readPlan_131 rfl ?_
                    exact k1
                  · cases c123
        · obtain ⟨k3, i3, day3, K3, ad3, tm3, hi3, hP3, hM3⟩ | ⟨k3, F, F0, F4, hF, hM3⟩ := k3
          · refine Or.inl ⟨k3, i3, day3, K3, ad3, tm3, by omega, hP3, fun σM l1 l2 l3 hM => ?_⟩
            obtain ⟨hLM, m1, m2, m3, m4, m5⟩ := id hM
            have hh := LM.hv (G := G) (d := 7) h4 hLM
            obtain ⟨σN1, hj, hPM1, fm1⟩ := hM2 _ hM.here rfl
            obtain ⟨σN, y1, y2, y3⟩ := hM3 σN1 l1 l2 l3 hPM1
            refine ⟨σN, fun Q hQ => ?_, y2, ((MFr.atq _ _).trans fm1).trans y3⟩
            have y1 := y1 Q hQ
            refine F_aload_n dX5_planTold_38 rfl ?_
            refine F_getE (v := nI 0) dX5_planTold_39 rfl rfl rfl rfl hLM.2.2.1 ?_
            refine F_if_neN (tgt := 91) dX5_planTold_42 rfl (by omega) (fun c42 => ?_) (fun c42 => ?_)
            · exact absurd rfl c42
            · refine F_aload_n dX5_planTold_45 rfl ?_
              refine F_getE (v := nI o) dX5_planTold_46 rfl rfl rfl rfl m2 ?_
              refine F_if_gtN (tgt := 61) dX5_planTold_49 rfl (by omega) (fun c49 => ?_) (fun c49 => ?_)
              · exact absurd c49 (by omega)
              · refine F_aload_n dX5_planTold_52 rfl ?_
                refine F_cV0i (hh) dX5_planTold_53 rfl rfl (by decide) rfl rfl rfl rfl (by decide) (Nat.le_of_ble_eq_true rfl) (by omega) ?_
                refine F_bipush (v := nI 59) dX5_planTold_56 rfl ?_
                refine F_icmp_eq (tgt := 91) dX5_planTold_58 rfl (fun c58 => ?_) (fun c58 => ?_)
                · exact absurd ⟨by omega, (hr_15 hby).mp c58⟩ hstop
                · refine F_aload_n dX5_planTold_61 rfl ?_
                  refine F_getE (v := nI o) dX5_planTold_62 rfl rfl rfl rfl m2 ?_
                  refine F_if_leN (tgt := 84) dX5_planTold_65 rfl (by omega) (fun c65 => ?_) (fun c65 => ?_)
                  · refine F_aload_n dX5_planTold_84 rfl ?_
                    refine F_cV0v (hj) dX5_planTold_85 rfl rfl (by decide) rfl rfl rfl rfl (by decide) (Nat.le_of_ble_eq_true rfl) (by omega) ?_
                    refine F_goto (tgt := 38) dX5_planTold_88 rfl ?_
                    exact y1
                  · exact absurd ho (by omega)
          · refine Or.inr ⟨k3, F, F0, F4, hF, fun σM l1 l2 l3 hM => ?_⟩
            obtain ⟨hLM, m1, m2, m3, m4, m5⟩ := id hM
            have hh := LM.hv (G := G) (d := 7) h4 hLM
            obtain ⟨σN1, hj, hPM1, fm1⟩ := hM2 _ hM.here rfl
            obtain ⟨σN, y1, y2, y3⟩ := hM3 σN1 l1 l2 l3 hPM1
            refine ⟨σN, fun Q hQ => ?_, y2, ((MFr.atq _ _).trans fm1).trans y3⟩
            have y1 := y1 Q hQ
            refine F_aload_n dX5_planTold_38 rfl ?_
            refine F_getE (v := nI 0) dX5_planTold_39 rfl rfl rfl rfl hLM.2.2.1 ?_
            refine F_if_neN (tgt := 91) dX5_planTold_42 rfl (by omega) (fun c42 => ?_) (fun c42 => ?_)
            · exact absurd rfl c42
            · refine F_aload_n dX5_planTold_45 rfl ?_
              refine F_getE (v := nI o) dX5_planTold_46 rfl rfl rfl rfl m2 ?_
              refine F_if_gtN (tgt := 61) dX5_planTold_49 rfl (by omega) (fun c49 => ?_) (fun c49 => ?_)
              · exact absurd c49 (by omega)
              · refine F_aload_n dX5_planTold_52 rfl ?_
                refine F_cV0i (hh) dX5_planTold_53 rfl rfl (by decide) rfl rfl rfl rfl (by decide) (Nat.le_of_ble_eq_true rfl) (by omega) ?_
                refine F_bipush (v := nI 59) dX5_planTold_56 rfl ?_
                refine F_icmp_eq (tgt := 91) dX5_planTold_58 rfl (fun c58 => ?_) (fun c58 => ?_)
                · exact absurd ⟨by omega, (hr_15 hby).mp c58⟩ hstop
                · refine F_aload_n dX5_planTold_61 rfl ?_
                  refine F_getE (v := nI o) dX5_planTold_62 rfl rfl rfl rfl m2 ?_
                  refine F_if_leN (tgt := 84) dX5_planTold_65 rfl (by omega) (fun c65 => ?_) (fun c65 => ?_)
                  · refine F_aload_n dX5_planTold_84 rfl ?_
                    refine F_cV0v (hj) dX5_planTold_85 rfl rfl (by decide) rfl rfl rfl rfl (by decide) (Nat.le_of_ble_eq_true rfl) (by omega) ?_
                    refine F_goto (tgt := 38) dX5_planTold_88 rfl ?_
                    exact y1
                  · exact absurd ho (by omega)
      · subst hbo
        refine ⟨false, σ1, fun Q hQ => ?_, fr1, Or.inr ⟨rfl, F, F0, F4, hF, fun σM l1 l2 l3 hM => ?_⟩⟩
        · refine F_iload_n dX2_readPlan_62 rfl ?_
          refine F_sipush (v := nI 400) dX2_readPlan_63 rfl ?_
          refine F_icmp_gtN (tgt := 134) dX2_readPlan_66 rfl (by omega) (by omega) (fun c66 => ?_) (fun c66 => ?_)
          · exact absurd c66 (by omega)
          · refine F_aload_n dX2_readPlan_69 rfl ?_
            refine F_getE (v := nI o) dX2_readPlan_70 rfl rfl rfl rfl p6 ?_
            refine F_if_gtN (tgt := 85) dX2_readPlan_73 rfl (by omega) (fun c73 => ?_) (fun c73 => ?_)
            · exact absurd c73 (by omega)
            · refine F_aload_n dX2_readPlan_76 rfl ?_
              refine F_cV0i (v_token (d := 7) h1 h2 h3) dX2_readPlan_77 rfl rfl (by decide) rfl rfl rfl rfl (by decide) (Nat.le_of_ble_eq_true rfl) (by omega) ?_
              refine F_bipush (v := nI 15) dX2_readPlan_80 rfl ?_
              refine F_icmp_eqN (tgt := 134) dX2_readPlan_82 rfl (by omega) (by omega) (fun c82 => ?_) (fun c82 => ?_)
              · exact absurd ⟨by omega, c82⟩ hstop
              · refine F_aload_n dX2_readPlan_85 rfl ?_
                refine F_cV0i (v_token (d := 7) h1 h2 h3) dX2_readPlan_86 rfl rfl (by decide) rfl rfl rfl rfl (by decide) (Nat.le_of_ble_eq_true rfl) (by omega) ?_
                refine F_bipush (v := nI 11) dX2_readPlan_89 rfl ?_
                refine F_icmp_neN (tgt := 101) dX2_readPlan_91 rfl (by omega) (by omega) (fun c91 => ?_) (fun c91 => ?_)
                · exact absurd h11 c91
                · refine F_aload_n dX2_readPlan_94 rfl ?_
                  refine F_cV0i (hb1) dX2_readPlan_95 rfl rfl (by decide) rfl rfl rfl rfl (by decide) (Nat.le_of_ble_eq_true rfl) (by omega) ?_
                  refine F_goto (tgt := 121) dX2_readPlan_98 rfl ?_
                  refine F_istore_n dX2_readPlan_121 (Nat.le_of_ble_eq_true rfl) ?_
                  refine F_iload_n dX2_readPlan_122 rfl ?_
                  refine F_if_neB (tgt := 128) dX2_readPlan_123 rfl (fun c123 => ?_) (fun c123 => ?_)
                  · cases c123
                  · refine F_iconst (v := nI 0) dX2_readPlan_126 rfl ?_
                    refine F_zret dX2_readPlan_127 rfl (by first | exact Or.inl rfl | exact Or.inr rfl | exact bI_01 _) ?_
                    exact hQ
        · obtain ⟨hLM, m1, m2, m3, m4, m5⟩ := id hM
          have hh := LM.hv (G := G) (d := 7) h4 hLM
          obtain ⟨σN1, hj, e7, fm1⟩ := hM2 _ hM.here rfl
          refine ⟨σN1, fun Q hQ => ?_, e7, (MFr.atq _ _).trans fm1⟩
          have y1 : mF G mX5_planTold 10 38 [some (.ref 116), l1, l2, l3] [] σN1 Q := by
            refine F_aload_n dX5_planTold_38 rfl ?_
            refine F_getE (v := nI F) dX5_planTold_39 rfl rfl rfl rfl e7 ?_
            refine F_if_neN (tgt := 91) dX5_planTold_42 rfl (by omega) (fun c42 => ?_) (fun c42 => ?_)
            · exact hQ
            · exact absurd c42 (by omega)
          refine F_aload_n dX5_planTold_38 rfl ?_
          refine F_getE (v := nI 0) dX5_planTold_39 rfl rfl rfl rfl hLM.2.2.1 ?_
          refine F_if_neN (tgt := 91) dX5_planTold_42 rfl (by omega) (fun c42 => ?_) (fun c42 => ?_)
          · exact absurd rfl c42
          · refine F_aload_n dX5_planTold_45 rfl ?_
            refine F_getE (v := nI o) dX5_planTold_46 rfl rfl rfl rfl m2 ?_
            refine F_if_gtN (tgt := 61) dX5_planTold_49 rfl (by omega) (fun c49 => ?_) (fun c49 => ?_)
            · exact absurd c49 (by omega)
            · refine F_aload_n dX5_planTold_52 rfl ?_
              refine F_cV0i (hh) dX5_planTold_53 rfl rfl (by decide) rfl rfl rfl rfl (by decide) (Nat.le_of_ble_eq_true rfl) (by omega) ?_
              refine F_bipush (v := nI 59) dX5_planTold_56 rfl ?_
              refine F_icmp_eq (tgt := 91) dX5_planTold_58 rfl (fun c58 => ?_) (fun c58 => ?_)
              · exact absurd ⟨by omega, (hr_15 hby).mp c58⟩ hstop
              · refine F_aload_n dX5_planTold_61 rfl ?_
                refine F_getE (v := nI o) dX5_planTold_62 rfl rfl rfl rfl m2 ?_
                refine F_if_leN (tgt := 84) dX5_planTold_65 rfl (by omega) (fun c65 => ?_) (fun c65 => ?_)
                · refine F_aload_n dX5_planTold_84 rfl ?_
                  refine F_cV0v (hj) dX5_planTold_85 rfl rfl (by decide) rfl rfl rfl rfl (by decide) (Nat.le_of_ble_eq_true rfl) (by omega) ?_
                  refine F_goto (tgt := 38) dX5_planTold_88 rfl ?_
                  exact y1
                · exact absurd ho (by omega)
    · skip
      obtain ⟨bo, σ1, hb1, fr1, ⟨hbo, i2, day2, o2, K2, ad2, tm2, hi2, hP2, hM2⟩ | ⟨hbo, F, F0, F4, hF, hM2⟩⟩ := i_open (G := G) h4 hby hP h11
      · subst hbo
        have hi2s := hP2.1.2.2.1
        obtain ⟨bo, σC, k1, k2, k3⟩ := ih (s - i2) (by omega) i2 day2 o2 K2 ad2 tm2 (cnt + 1) (some (.int (bI true))) σ1 (by omega) (by omega) hP2
        refine ⟨bo, σC, fun Q hQ => ?_, fr1.trans k2, ?_⟩
        · have k1 := k1 Q hQ
          refine F_iload_n dX2_readPlan_62 rfl ?_
          refine F_sipush (v := nI 400) dX2_readPlan_63 rfl ?_
          refine F_icmp_gtN (tgt := 134) dX2_readPlan_66 rfl (by omega) (by omega) (fun c66 => ?_) (fun c66 => ?_)
          · exact absurd c66 (by omega)
          · refine F_aload_n dX2_readPlan_69 rfl ?_
            refine F_getE (v := nI o) dX2_readPlan_70 rfl rfl rfl rfl p6 ?_
            refine F_if_gtN (tgt := 85) dX2_readPlan_73 rfl (by omega) (fun c73 => ?_) (fun c73 => ?_)
            · refine F_aload_n dX2_readPlan_85 rfl ?_
              refine F_cV0i (v_token (d := 7) h1 h2 h3) dX2_readPlan_86 rfl rfl (by decide) rfl rfl rfl rfl (by decide) (Nat.le_of_ble_eq_true rfl) (by omega) ?_
              refine F_bipush (v := nI 11) dX2_readPlan_89 rfl ?_
              refine F_icmp_neN (tgt := 101) dX2_readPlan_91 rfl (by omega) (by omega) (fun c91 => ?_) (fun c91 => ?_)
              · exact absurd h11 c91
              · refine F_aload_n dX2_readPlan_94 rfl ?_
                refine F_cV0i (hb1) dX2_readPlan_95 rfl rfl (by decide) rfl rfl rfl rfl (by decide) (Nat.le_of_ble_eq_true rfl) (by omega) ?_
                refine F_goto (tgt := 121) dX2_readPlan_98 rfl ?_
                refine F_istore_n dX2_readPlan_121 (Nat.le_of_ble_eq_true rfl) ?_
                refine F_iload_n dX2_readPlan_122 rfl ?_
                refine F_if_neB (tgt := 128) dX2_readPlan_123 rfl (fun c123 => ?_) (fun c123 => ?_)
                · refine F_iincN dX2_readPlan_128 rfl ?_
                  refine F_goto (tgt := 62) dX2_readPlan_131 rfl ?_
                  exact k1
                · cases c123
            · exact absurd c73 (by omega)
        · obtain ⟨k3, i3, day3, K3, ad3, tm3, hi3, hP3, hM3⟩ | ⟨k3, F, F0, F4, hF, hM3⟩ := k3
          · refine Or.inl ⟨k3, i3, day3, K3, ad3, tm3, by omega, hP3, fun σM l1 l2 l3 hM => ?_⟩
            obtain ⟨hLM, m1, m2, m3, m4, m5⟩ := id hM
            have hh := LM.hv (G := G) (d := 7) h4 hLM
            obtain ⟨σN1, hj, hPM1, fm1⟩ := hM2 _ hM.here rfl
            obtain ⟨σN, y1, y2, y3⟩ := hM3 σN1 l1 l2 l3 hPM1
            refine ⟨σN, fun Q hQ => ?_, y2, ((MFr.atq _ _).trans fm1).trans y3⟩
            have y1 := y1 Q hQ
            refine F_aload_n dX5_planTold_38 rfl ?_
            refine F_getE (v := nI 0) dX5_planTold_39 rfl rfl rfl rfl hLM.2.2.1 ?_
            refine F_if_neN (tgt := 91) dX5_planTold_42 rfl (by omega) (fun c42 => ?_) (fun c42 => ?_)
            · exact absurd rfl c42
            · refine F_aload_n dX5_planTold_45 rfl ?_
              refine F_getE (v := nI o) dX5_planTold_46 rfl rfl rfl rfl m2 ?_
              refine F_if_gtN (tgt := 61) dX5_planTold_49 rfl (by omega) (fun c49 => ?_) (fun c49 => ?_)
              · refine F_aload_n dX5_planTold_61 rfl ?_
                refine F_getE (v := nI o) dX5_planTold_62 rfl rfl rfl rfl m2 ?_
                refine F_if_leN (tgt := 84) dX5_planTold_65 rfl (by omega) (fun c65 => ?_) (fun c65 => ?_)
                · exact absurd c65 (by omega)
                · refine F_aload_n dX5_planTold_68 rfl ?_
                  refine F_cV0i (hh) dX5_planTold_69 rfl rfl (by decide) rfl rfl rfl rfl (by decide) (Nat.le_of_ble_eq_true rfl) (by omega) ?_
                  refine F_bipush (v := nI 41) dX5_planTold_72 rfl ?_
                  refine F_icmp_ne (tgt := 84) dX5_planTold_74 rfl (fun c74 => ?_) (fun c74 => ?_)
                  · refine F_aload_n dX5_planTold_84 rfl ?_
                    refine F_cV0v (hj) dX5_planTold_85 rfl rfl (by decide) rfl rfl rfl rfl (by decide) (Nat.le_of_ble_eq_true rfl) (by omega) ?_
                    refine F_goto (tgt := 38) dX5_planTold_88 rfl ?_
                    exact y1
                  · exact absurd ((hr_14 hby).mp c74) (by omega)
              · exact absurd c49 (by omega)
          · refine Or.inr ⟨k3, F, F0, F4, hF, fun σM l1 l2 l3 hM => ?_⟩
            obtain ⟨hLM, m1, m2, m3, m4, m5⟩ := id hM
            have hh := LM.hv (G := G) (d := 7) h4 hLM
            obtain ⟨σN1, hj, hPM1, fm1⟩ := hM2 _ hM.here rfl
            obtain ⟨σN, y1, y2, y3⟩ := hM3 σN1 l1 l2 l3 hPM1
            refine ⟨σN, fun Q hQ => ?_, y2, ((MFr.atq _ _).trans fm1).trans y3⟩
            have y1 := y1 Q hQ
            refine F_aload_n dX5_planTold_38 rfl ?_
            refine F_getE (v := nI 0) dX5_planTold_39 rfl rfl rfl rfl hLM.2.2.1 ?_
            refine F_if_neN (tgt := 91) dX5_planTold_42 rfl (by omega) (fun c42 => ?_) (fun c42 => ?_)
            · exact absurd rfl c42
            · refine F_aload_n dX5_planTold_45 rfl ?_
              refine F_getE (v := nI o) dX5_planTold_46 rfl rfl rfl rfl m2 ?_
              refine F_if_gtN (tgt := 61) dX5_planTold_49 rfl (by omega) (fun c49 => ?_) (fun c49 => ?_)
              · refine F_aload_n dX5_planTold_61 rfl ?_
                refine F_getE (v := nI o) dX5_planTold_62 rfl rfl rfl rfl m2 ?_
                refine F_if_leN (tgt := 84) dX5_planTold_65 rfl (by omega) (fun c65 => ?_) (fun c65 => ?_)
                · exact absurd c65 (by omega)
                · refine F_aload_n dX5_planTold_68 rfl ?_
                  refine F_cV0i (hh) dX5_planTold_69 rfl rfl (by decide) rfl rfl rfl rfl (by decide) (Nat.le_of_ble_eq_true rfl) (by omega) ?_
                  refine F_bipush (v := nI 41) dX5_planTold_72 rfl ?_
                  refine F_icmp_ne (tgt := 84) dX5_planTold_74 rfl (fun c74 => ?_) (fun c74 => ?_)
                  · refine F_aload_n dX5_planTold_84 rfl ?_
                    refine F_cV0v (hj) dX5_planTold_85 rfl rfl (by decide) rfl rfl rfl rfl (by decide) (Nat.le_of_ble_eq_true rfl) (by omega) ?_
                    refine F_goto (tgt := 38) dX5_planTold_88 rfl ?_
                    exact y1
                  · exact absurd ((hr_14 hby).mp c74) (by omega)
              · exact absurd c49 (by omega)
      · subst hbo
        refine ⟨false, σ1, fun Q hQ => ?_, fr1, Or.inr ⟨rfl, F, F0, F4, hF, fun σM l1 l2 l3 hM => ?_⟩⟩
        · refine F_iload_n dX2_readPlan_62 rfl ?_
          refine F_sipush (v := nI 400) dX2_readPlan_63 rfl ?_
          refine F_icmp_gtN (tgt := 134) dX2_readPlan_66 rfl (by omega) (by omega) (fun c66 => ?_) (fun c66 => ?_)
          · exact absurd c66 (by omega)
          · refine F_aload_n dX2_readPlan_69 rfl ?_
            refine F_getE (v := nI o) dX2_readPlan_70 rfl rfl rfl rfl p6 ?_
            refine F_if_gtN (tgt := 85) dX2_readPlan_73 rfl (by omega) (fun c73 => ?_) (fun c73 => ?_)
            · refine F_aload_n dX2_readPlan_85 rfl ?_
              refine F_cV0i (v_token (d := 7) h1 h2 h3) dX2_readPlan_86 rfl rfl (by decide) rfl rfl rfl rfl (by decide) (Nat.le_of_ble_eq_true rfl) (by omega) ?_
              refine F_bipush (v := nI 11) dX2_readPlan_89 rfl ?_
              refine F_icmp_neN (tgt := 101) dX2_readPlan_91 rfl (by omega) (by omega) (fun c91 => ?_) (fun c91 => ?_)
              · exact absurd h11 c91
              · refine F_aload_n dX2_readPlan_94 rfl ?_
                refine F_cV0i (hb1) dX2_readPlan_95 rfl rfl (by decide) rfl rfl rfl rfl (by decide) (Nat.le_of_ble_eq_true rfl) (by omega) ?_
                refine F_goto (tgt := 121) dX2_readPlan_98 rfl ?_
                refine F_istore_n dX2_readPlan_121 (Nat.le_of_ble_eq_true rfl) ?_
                refine F_iload_n dX2_readPlan_122 rfl ?_
                refine F_if_neB (tgt := 128) dX2_readPlan_123 rfl (fun c123 => ?_) (fun c123 => ?_)
                · cases c123
                · refine F_iconst (v := nI 0) dX2_readPlan_126 rfl ?_
                  refine F_zret dX2_readPlan_127 rfl (by first | exact Or.inl rfl | exact Or.inr rfl | exact bI_01 _) ?_
                  exact hQ
            · exact absurd c73 (by omega)
        · obtain ⟨hLM, m1, m2, m3, m4, m5⟩ := id hM
          have hh := LM.hv (G := G) (d := 7) h4 hLM
          obtain ⟨σN1, hj, e7, fm1⟩ := hM2 _ hM.here rfl
          refine ⟨σN1, fun Q hQ => ?_, e7, (MFr.atq _ _).trans fm1⟩
          have y1 : mF G mX5_planTold 10 38 [some (.ref 116), l1, l2, l3] [] σN1 Q := by
            refine F_aload_n dX5_planTold_38 rfl ?_
            refine F_getE (v := nI F) dX5_planTold_39 rfl rfl rfl rfl e7 ?_
            refine F_if_neN (tgt := 91) dX5_planTold_42 rfl (by omega) (fun c42 => ?_) (fun c42 => ?_)
            · exact hQ
            · exact absurd c42 (by omega)
          refine F_aload_n dX5_planTold_38 rfl ?_
          refine F_getE (v := nI 0) dX5_planTold_39 rfl rfl rfl rfl hLM.2.2.1 ?_
          refine F_if_neN (tgt := 91) dX5_planTold_42 rfl (by omega) (fun c42 => ?_) (fun c42 => ?_)
          · exact absurd rfl c42
          · refine F_aload_n dX5_planTold_45 rfl ?_
            refine F_getE (v := nI o) dX5_planTold_46 rfl rfl rfl rfl m2 ?_
            refine F_if_gtN (tgt := 61) dX5_planTold_49 rfl (by omega) (fun c49 => ?_) (fun c49 => ?_)
            · refine F_aload_n dX5_planTold_61 rfl ?_
              refine F_getE (v := nI o) dX5_planTold_62 rfl rfl rfl rfl m2 ?_
              refine F_if_leN (tgt := 84) dX5_planTold_65 rfl (by omega) (fun c65 => ?_) (fun c65 => ?_)
              · exact absurd c65 (by omega)
              · refine F_aload_n dX5_planTold_68 rfl ?_
                refine F_cV0i (hh) dX5_planTold_69 rfl rfl (by decide) rfl rfl rfl rfl (by decide) (Nat.le_of_ble_eq_true rfl) (by omega) ?_
                refine F_bipush (v := nI 41) dX5_planTold_72 rfl ?_
                refine F_icmp_ne (tgt := 84) dX5_planTold_74 rfl (fun c74 => ?_) (fun c74 => ?_)
                · refine F_aload_n dX5_planTold_84 rfl ?_
                  refine F_cV0v (hj) dX5_planTold_85 rfl rfl (by decide) rfl rfl rfl rfl (by decide) (Nat.le_of_ble_eq_true rfl) (by omega) ?_
                  refine F_goto (tgt := 38) dX5_planTold_88 rfl ?_
                  exact y1
                · exact absurd ((hr_14 hby).mp c74) (by omega)
            · exact absurd c49 (by omega)
  by_cases h14 : tkn b L (tps b L i) = 14
  · by_cases ho : o = 0
    · skip
      obtain ⟨bo, σ1, hb1, fr1, ⟨hbo, i2, day2, o2, K2, ad2, tm2, hi2, hP2, hM2⟩ | ⟨hbo, F, F0, F4, hF, hM2⟩⟩ := i_close0 (G := G) h4 hby hP h14 ho
      · subst hbo
        have hi2s := hP2.1.2.2.1
        obtain ⟨bo, σC, k1, k2, k3⟩ := ih (s - i2) (by omega) i2 day2 o2 K2 ad2 tm2 (cnt + 1) (some (.int (bI true))) σ1 (by omega) (by omega) hP2
        refine ⟨bo, σC, fun Q hQ => ?_, fr1.trans k2, ?_⟩
        · have k1 := k1 Q hQ
          refine F_iload_n dX2_readPlan_62 rfl ?_
          refine F_sipush (v := nI 400) dX2_readPlan_63 rfl ?_
          refine F_icmp_gtN (tgt := 134) dX2_readPlan_66 rfl (by omega) (by omega) (fun c66 => ?_) (fun c66 => ?_)
          · exact absurd c66 (by omega)
          · refine F_aload_n dX2_readPlan_69 rfl ?_
            refine F_getE (v := nI o) dX2_readPlan_70 rfl rfl rfl rfl p6 ?_
            refine F_if_gtN (tgt := 85) dX2_readPlan_73 rfl (by omega) (fun c73 => ?_) (fun c73 => ?_)
            · exact absurd c73 (by omega)
            · refine F_aload_n dX2_readPlan_76 rfl ?_
              refine F_cV0i (v_token (d := 7) h1 h2 h3) dX2_readPlan_77 rfl rfl (by decide) rfl rfl rfl rfl (by decide) (Nat.le_of_ble_eq_true rfl) (by omega) ?_
              refine F_bipush (v := nI 15) dX2_readPlan_80 rfl ?_
              refine F_icmp_eqN (tgt := 134) dX2_readPlan_82 rfl (by omega) (by omega) (fun c82 => ?_) (fun c82 => ?_)
              · exact absurd ⟨by omega, c82⟩ hstop
              · refine F_aload_n dX2_readPlan_85 rfl ?_
                refine F_cV0i (v_token (d := 7) h1 h2 h3) dX2_readPlan_86 rfl rfl (by decide) rfl rfl rfl rfl (by decide) (Nat.le_of_ble_eq_true rfl) (by omega) ?_
                refine F_bipush (v := nI 11) dX2_readPlan_89 rfl ?_
                refine F_icmp_neN (tgt := 101) dX2_readPlan_91 rfl (by omega) (by omega) (fun c91 => ?_) (fun c91 => ?_)
                · refine F_aload_n dX2_readPlan_101 rfl ?_
                  refine F_cV0i (v_token (d := 7) h1 h2 h3) dX2_readPlan_102 rfl rfl (by decide) rfl rfl rfl rfl (by decide) (Nat.le_of_ble_eq_true rfl) (by omega) ?_
                  refine F_bipush (v := nI 14) dX2_readPlan_105 rfl ?_
                  refine F_icmp_neN (tgt := 117) dX2_readPlan_107 rfl (by omega) (by omega) (fun c107 => ?_) (fun c107 => ?_)
                  · exact absurd h14 c107
                  · refine F_aload_n dX2_readPlan_110 rfl ?_
                    refine F_cV0i (hb1) dX2_readPlan_111 rfl rfl (by decide) rfl rfl rfl rfl (by decide) (Nat.le_of_ble_eq_true rfl) (by omega) ?_
                    refine F_goto (tgt := 121) dX2_readPlan_114 rfl ?_
                    refine F_istore_n dX2_readPlan_121 (Nat.le_of_ble_eq_true rfl) ?_
                    refine F_iload_n dX2_readPlan_122 rfl ?_
                    refine F_if_neB (tgt := 128) dX2_readPlan_123 rfl (fun c123 => ?_) (fun c123 => ?_)
                    · refine F_iincN dX2_readPlan_128 rfl ?_
                      refine F_goto (tgt := 62) dX2_readPlan_131 rfl ?_
                      exact k1
                    · cases c123
                · exact absurd (Decidable.not_not.mp c91) h11
        · obtain ⟨k3, i3, day3, K3, ad3, tm3, hi3, hP3, hM3⟩ | ⟨k3, F, F0, F4, hF, hM3⟩ := k3
          · refine Or.inl ⟨k3, i3, day3, K3, ad3, tm3, by omega, hP3, fun σM l1 l2 l3 hM => ?_⟩
            obtain ⟨hLM, m1, m2, m3, m4, m5⟩ := id hM
            have hh := LM.hv (G := G) (d := 7) h4 hLM
            obtain ⟨σN1, hj, hPM1, fm1⟩ := hM2 _ hM.here rfl
            obtain ⟨σN, y1, y2, y3⟩ := hM3 σN1 l1 l2 l3 hPM1
            refine ⟨σN, fun Q hQ => ?_, y2, ((MFr.atq _ _).trans fm1).trans y3⟩
            have y1 := y1 Q hQ
            refine F_aload_n dX5_planTold_38 rfl ?_
            refine F_getE (v := nI 0) dX5_planTold_39 rfl rfl rfl rfl hLM.2.2.1 ?_
            refine F_if_neN (tgt := 91) dX5_planTold_42 rfl (by omega) (fun c42 => ?_) (fun c42 => ?_)
            · exact absurd rfl c42
            · refine F_aload_n dX5_planTold_45 rfl ?_
              refine F_getE (v := nI o) dX5_planTold_46 rfl rfl rfl rfl m2 ?_
              refine F_if_gtN (tgt := 61) dX5_planTold_49 rfl (by omega) (fun c49 => ?_) (fun c49 => ?_)
              · exact absurd c49 (by omega)
              · refine F_aload_n dX5_planTold_52 rfl ?_
                refine F_cV0i (hh) dX5_planTold_53 rfl rfl (by decide) rfl rfl rfl rfl (by decide) (Nat.le_of_ble_eq_true rfl) (by omega) ?_
                refine F_bipush (v := nI 59) dX5_planTold_56 rfl ?_
                refine F_icmp_eq (tgt := 91) dX5_planTold_58 rfl (fun c58 => ?_) (fun c58 => ?_)
                · exact absurd ⟨by omega, (hr_15 hby).mp c58⟩ hstop
                · refine F_aload_n dX5_planTold_61 rfl ?_
                  refine F_getE (v := nI o) dX5_planTold_62 rfl rfl rfl rfl m2 ?_
                  refine F_if_leN (tgt := 84) dX5_planTold_65 rfl (by omega) (fun c65 => ?_) (fun c65 => ?_)
                  · refine F_aload_n dX5_planTold_84 rfl ?_
                    refine F_cV0v (hj) dX5_planTold_85 rfl rfl (by decide) rfl rfl rfl rfl (by decide) (Nat.le_of_ble_eq_true rfl) (by omega) ?_
                    refine F_goto (tgt := 38) dX5_planTold_88 rfl ?_
                    exact y1
                  · exact absurd ho (by omega)
          · refine Or.inr ⟨k3, F, F0, F4, hF, fun σM l1 l2 l3 hM => ?_⟩
            obtain ⟨hLM, m1, m2, m3, m4, m5⟩ := id hM
            have hh := LM.hv (G := G) (d := 7) h4 hLM
            obtain ⟨σN1, hj, hPM1, fm1⟩ := hM2 _ hM.here rfl
            obtain ⟨σN, y1, y2, y3⟩ := hM3 σN1 l1 l2 l3 hPM1
            refine ⟨σN, fun Q hQ => ?_, y2, ((MFr.atq _ _).trans fm1).trans y3⟩
            have y1 := y1 Q hQ
            refine F_aload_n dX5_planTold_38 rfl ?_
            refine F_getE (v := nI 0) dX5_planTold_39 rfl rfl rfl rfl hLM.2.2.1 ?_
            refine F_if_neN (tgt := 91) dX5_planTold_42 rfl (by omega) (fun c42 => ?_) (fun c42 => ?_)
            · exact absurd rfl c42
            · refine F_aload_n dX5_planTold_45 rfl ?_
              refine F_getE (v := nI o) dX5_planTold_46 rfl rfl rfl rfl m2 ?_
              refine F_if_gtN (tgt := 61) dX5_planTold_49 rfl (by omega) (fun c49 => ?_) (fun c49 => ?_)
              · exact absurd c49 (by omega)
              · refine F_aload_n dX5_planTold_52 rfl ?_
                refine F_cV0i (hh) dX5_planTold_53 rfl rfl (by decide) rfl rfl rfl rfl (by decide) (Nat.le_of_ble_eq_true rfl) (by omega) ?_
                refine F_bipush (v := nI 59) dX5_planTold_56 rfl ?_
                refine F_icmp_eq (tgt := 91) dX5_planTold_58 rfl (fun c58 => ?_) (fun c58 => ?_)
                · exact absurd ⟨by omega, (hr_15 hby).mp c58⟩ hstop
                · refine F_aload_n dX5_planTold_61 rfl ?_
                  refine F_getE (v := nI o) dX5_planTold_62 rfl rfl rfl rfl m2 ?_
                  refine F_if_leN (tgt := 84) dX5_planTold_65 rfl (by omega) (fun c65 => ?_) (fun c65 => ?_)
                  · refine F_aload_n dX5_planTold_84 rfl ?_
                    refine F_cV0v (hj) dX5_planTold_85 rfl rfl (by decide) rfl rfl rfl rfl (by decide) (Nat.le_of_ble_eq_true rfl) (by omega) ?_
                    refine F_goto (tgt := 38) dX5_planTold_88 rfl ?_
                    exact y1
                  · exact absurd ho (by omega)
      · subst hbo
        refine ⟨false, σ1, fun Q hQ => ?_, fr1, Or.inr ⟨rfl, F, F0, F4, hF, fun σM l1 l2 l3 hM => ?_⟩⟩
        · refine F_iload_n dX2_readPlan_62 rfl ?_
          refine F_sipush (v := nI 400) dX2_readPlan_63 rfl ?_
          refine F_icmp_gtN (tgt := 134) dX2_readPlan_66 rfl (by omega) (by omega) (fun c66 => ?_) (fun c66 => ?_)
          · exact absurd c66 (by omega)
          · refine F_aload_n dX2_readPlan_69 rfl ?_
            refine F_getE (v := nI o) dX2_readPlan_70 rfl rfl rfl rfl p6 ?_
            refine F_if_gtN (tgt := 85) dX2_readPlan_73 rfl (by omega) (fun c73 => ?_) (fun c73 => ?_)
            · exact absurd c73 (by omega)
            · refine F_aload_n dX2_readPlan_76 rfl ?_
              refine F_cV0i (v_token (d := 7) h1 h2 h3) dX2_readPlan_77 rfl rfl (by decide) rfl rfl rfl rfl (by decide) (Nat.le_of_ble_eq_true rfl) (by omega) ?_
              refine F_bipush (v := nI 15) dX2_readPlan_80 rfl ?_
              refine F_icmp_eqN (tgt := 134) dX2_readPlan_82 rfl (by omega) (by omega) (fun c82 => ?_) (fun c82 => ?_)
              · exact absurd ⟨by omega, c82⟩ hstop
              · refine F_aload_n dX2_readPlan_85 rfl ?_
                refine F_cV0i (v_token (d := 7) h1 h2 h3) dX2_readPlan_86 rfl rfl (by decide) rfl rfl rfl rfl (by decide) (Nat.le_of_ble_eq_true rfl) (by omega) ?_
                refine F_bipush (v := nI 11) dX2_readPlan_89 rfl ?_
                refine F_icmp_neN (tgt := 101) dX2_readPlan_91 rfl (by omega) (by omega) (fun c91 => ?_) (fun c91 => ?_)
                · refine F_aload_n dX2_readPlan_101 rfl ?_
                  refine F_cV0i (v_token (d := 7) h1 h2 h3) dX2_readPlan_102 rfl rfl (by decide) rfl rfl rfl rfl (by decide) (Nat.le_of_ble_eq_true rfl) (by omega) ?_
                  refine F_bipush (v := nI 14) dX2_readPlan_105 rfl ?_
                  refine F_icmp_neN (tgt := 117) dX2_readPlan_107 rfl (by omega) (by omega) (fun c107 => ?_) (fun c107 => ?_)
                  · exact absurd h14 c107
                  · refine F_aload_n dX2_readPlan_110 rfl ?_
                    refine F_cV0i (hb1) dX2_readPlan_111 rfl rfl (by decide) rfl rfl rfl rfl (by decide) (Nat.le_of_ble_eq_true rfl) (by omega) ?_
                    refine F_goto (tgt := 121) dX2_readPlan_114 rfl ?_
                    refine F_istore_n dX2_readPlan_121 (Nat.le_of_ble_eq_true rfl) ?_
                    refine F_iload_n dX2_readPlan_122 rfl ?_
                    refine F_if_neB (tgt := 128) dX2_readPlan_123 rfl (fun c123 => ?_) (fun c123 => ?_)
                    · cases c123
                    · refine F_iconst (v := nI 0) dX2_readPlan_126 rfl ?_
                      refine F_zret dX2_readPlan_127 rfl (by first | exact Or.inl rfl | exact Or.inr rfl | exact bI_01 _) ?_
                      exact hQ
                · exact absurd (Decidable.not_not.mp c91) h11
        · obtain ⟨hLM, m1, m2, m3, m4, m5⟩ := id hM
          have hh := LM.hv (G := G) (d := 7) h4 hLM
          obtain ⟨σN1, hj, e7, fm1⟩ := hM2 _ hM.here rfl
          refine ⟨σN1, fun Q hQ => ?_, e7, (MFr.atq _ _).trans fm1⟩
          have y1 : mF G mX5_planTold 10 38 [some (.ref 116), l1, l2, l3] [] σN1 Q := by
            refine F_aload_n dX5_planTold_38 rfl ?_
            refine F_getE (v := nI F) dX5_planTold_39 rfl rfl rfl rfl e7 ?_
            refine F_if_neN (tgt := 91) dX5_planTold_42 rfl (by omega) (fun c42 => ?_) (fun c42 => ?_)
            · exact hQ
            · exact absurd c42 (by omega)
          refine F_aload_n dX5_planTold_38 rfl ?_
          refine F_getE (v := nI 0) dX5_planTold_39 rfl rfl rfl rfl hLM.2.2.1 ?_
          refine F_if_neN (tgt := 91) dX5_planTold_42 rfl (by omega) (fun c42 => ?_) (fun c42 => ?_)
          · exact absurd rfl c42
          · refine F_aload_n dX5_planTold_45 rfl ?_
            refine F_getE (v := nI o) dX5_planTold_46 rfl rfl rfl rfl m2 ?_
            refine F_if_gtN (tgt := 61) dX5_planTold_49 rfl (by omega) (fun c49 => ?_) (fun c49 => ?_)
            · exact absurd c49 (by omega)
            · refine F_aload_n dX5_planTold_52 rfl ?_
              refine F_cV0i (hh) dX5_planTold_53 rfl rfl (by decide) rfl rfl rfl rfl (by decide) (Nat.le_of_ble_eq_true rfl) (by omega) ?_
              refine F_bipush (v := nI 59) dX5_planTold_56 rfl ?_
              refine F_icmp_eq (tgt := 91) dX5_planTold_58 rfl (fun c58 => ?_) (fun c58 => ?_)
              · exact absurd ⟨by omega, (hr_15 hby).mp c58⟩ hstop
              · refine F_aload_n dX5_planTold_61 rfl ?_
                refine F_getE (v := nI o) dX5_planTold_62 rfl rfl rfl rfl m2 ?_
                refine F_if_leN (tgt := 84) dX5_planTold_65 rfl (by omega) (fun c65 => ?_) (fun c65 => ?_)
                · refine F_aload_n dX5_planTold_84 rfl ?_
                  refine F_cV0v (hj) dX5_planTold_85 rfl rfl (by decide) rfl rfl rfl rfl (by decide) (Nat.le_of_ble_eq_true rfl) (by omega) ?_
                  refine F_goto (tgt := 38) dX5_planTold_88 rfl ?_
                  exact y1
                · exact absurd ho (by omega)
    · skip
      obtain ⟨bo, σ1, hb1, fr1, ⟨hbo, i2, day2, o2, K2, ad2, tm2, hi2, hP2, hM2⟩ | ⟨hbo, F, F0, F4, hF, hM2⟩⟩ := i_close (G := G) h4 hby hP h14 (by omega)
      · subst hbo
        have hi2s := hP2.1.2.2.1
        obtain ⟨bo, σC, k1, k2, k3⟩ := ih (s - i2) (by omega) i2 day2 o2 K2 ad2 tm2 (cnt + 1) (some (.int (bI true))) σ1 (by omega) (by omega) hP2
        refine ⟨bo, σC, fun Q hQ => ?_, fr1.trans k2, ?_⟩
        · have k1 := k1 Q hQ
          refine F_iload_n dX2_readPlan_62 rfl ?_
          refine F_sipush (v := nI 400) dX2_readPlan_63 rfl ?_
          refine F_icmp_gtN (tgt := 134) dX2_readPlan_66 rfl (by omega) (by omega) (fun c66 => ?_) (fun c66 => ?_)
          · exact absurd c66 (by omega)
          · refine F_aload_n dX2_readPlan_69 rfl ?_
            refine F_getE (v := nI o) dX2_readPlan_70 rfl rfl rfl rfl p6 ?_
            refine F_if_gtN (tgt := 85) dX2_readPlan_73 rfl (by omega) (fun c73 => ?_) (fun c73 => ?_)
            · refine F_aload_n dX2_readPlan_85 rfl ?_
              refine F_cV0i (v_token (d := 7) h1 h2 h3) dX2_readPlan_86 rfl rfl (by decide) rfl rfl rfl rfl (by decide) (Nat.le_of_ble_eq_true rfl) (by omega) ?_
              refine F_bipush (v := nI 11) dX2_readPlan_89 rfl ?_
              refine F_icmp_neN (tgt := 101) dX2_readPlan_91 rfl (by omega) (by omega) (fun c91 => ?_) (fun c91 => ?_)
              · refine F_aload_n dX2_readPlan_101 rfl ?_
                refine F_cV0i (v_token (d := 7) h1 h2 h3) dX2_readPlan_102 rfl rfl (by decide) rfl rfl rfl rfl (by decide) (Nat.le_of_ble_eq_true rfl) (by omega) ?_
                refine F_bipush (v := nI 14) dX2_readPlan_105 rfl ?_
                refine F_icmp_neN (tgt := 117) dX2_readPlan_107 rfl (by omega) (by omega) (fun c107 => ?_) (fun c107 => ?_)
                · exact absurd h14 c107
                · refine F_aload_n dX2_readPlan_110 rfl ?_
                  refine F_cV0i (hb1) dX2_readPlan_111 rfl rfl (by decide) rfl rfl rfl rfl (by decide) (Nat.le_of_ble_eq_true rfl) (by omega) ?_
                  refine F_goto (tgt := 121) dX2_readPlan_114 rfl ?_
                  refine F_istore_n dX2_readPlan_121 (Nat.le_of_ble_eq_true rfl) ?_
                  refine F_iload_n dX2_readPlan_122 rfl ?_
                  refine F_if_neB (tgt := 128) dX2_readPlan_123 rfl (fun c123 => ?_) (fun c123 => ?_)
                  · refine F_iincN dX2_readPlan_128 rfl ?_
                    refine F_goto (tgt := 62) dX2_readPlan_131 rfl ?_
                    exact k1
                  · cases c123
              · exact absurd (Decidable.not_not.mp c91) h11
            · exact absurd c73 (by omega)
        · obtain ⟨k3, i3, day3, K3, ad3, tm3, hi3, hP3, hM3⟩ | ⟨k3, F, F0, F4, hF, hM3⟩ := k3
          · refine Or.inl ⟨k3, i3, day3, K3, ad3, tm3, by omega, hP3, fun σM l1 l2 l3 hM => ?_⟩
            obtain ⟨hLM, m1, m2, m3, m4, m5⟩ := id hM
            have hh := LM.hv (G := G) (d := 7) h4 hLM
            obtain ⟨σN1, hj, hPM1, fm1⟩ := hM2 _ hM.here rfl
            obtain ⟨σN, y1, y2, y3⟩ := hM3 σN1 l1 l2 l3 hPM1
            refine ⟨σN, fun Q hQ => ?_, y2, ((MFr.atq _ _).trans fm1).trans y3⟩
            have y1 := y1 Q hQ
            refine F_aload_n dX5_planTold_38 rfl ?_
            refine F_getE (v := nI 0) dX5_planTold_39 rfl rfl rfl rfl hLM.2.2.1 ?_
            refine F_if_neN (tgt := 91) dX5_planTold_42 rfl (by omega) (fun c42 => ?_) (fun c42 => ?_)
            · exact absurd rfl c42
            · refine F_aload_n dX5_planTold_45 rfl ?_
              refine F_getE (v := nI o) dX5_planTold_46 rfl rfl rfl rfl m2 ?_
              refine F_if_gtN (tgt := 61) dX5_planTold_49 rfl (by omega) (fun c49 => ?_) (fun c49 => ?_)
              · refine F_aload_n dX5_planTold_61 rfl ?_
                refine F_getE (v := nI o) dX5_planTold_62 rfl rfl rfl rfl m2 ?_
                refine F_if_leN (tgt := 84) dX5_planTold_65 rfl (by omega) (fun c65 => ?_) (fun c65 => ?_)
                · exact absurd c65 (by omega)
                · refine F_aload_n dX5_planTold_68 rfl ?_
                  refine F_cV0i (hh) dX5_planTold_69 rfl rfl (by decide) rfl rfl rfl rfl (by decide) (Nat.le_of_ble_eq_true rfl) (by omega) ?_
                  refine F_bipush (v := nI 41) dX5_planTold_72 rfl ?_
                  refine F_icmp_ne (tgt := 84) dX5_planTold_74 rfl (fun c74 => ?_) (fun c74 => ?_)
                  · exact absurd ((hr_14 hby).mpr h14) c74
                  · refine F_aload_n dX5_planTold_77 rfl ?_
                    refine F_cV0v (hj) dX5_planTold_78 rfl rfl (by decide) rfl rfl rfl rfl (by decide) (Nat.le_of_ble_eq_true rfl) (by omega) ?_
                    refine F_goto (tgt := 38) dX5_planTold_81 rfl ?_
                    exact y1
              · exact absurd c49 (by omega)
          · refine Or.inr ⟨k3, F, F0, F4, hF, fun σM l1 l2 l3 hM => ?_⟩
            obtain ⟨hLM, m1, m2, m3, m4, m5⟩ := id hM
            have hh := LM.hv (G := G) (d := 7) h4 hLM
            obtain ⟨σN1, hj, hPM1, fm1⟩ := hM2 _ hM.here rfl
            obtain ⟨σN, y1, y2, y3⟩ := hM3 σN1 l1 l2 l3 hPM1
            refine ⟨σN, fun Q hQ => ?_, y2, ((MFr.atq _ _).trans fm1).trans y3⟩
            have y1 := y1 Q hQ
            refine F_aload_n dX5_planTold_38 rfl ?_
            refine F_getE (v := nI 0) dX5_planTold_39 rfl rfl rfl rfl hLM.2.2.1 ?_
            refine F_if_neN (tgt := 91) dX5_planTold_42 rfl (by omega) (fun c42 => ?_) (fun c42 => ?_)
            · exact absurd rfl c42
            · refine F_aload_n dX5_planTold_45 rfl ?_
              refine F_getE (v := nI o) dX5_planTold_46 rfl rfl rfl rfl m2 ?_
              refine F_if_gtN (tgt := 61) dX5_planTold_49 rfl (by omega) (fun c49 => ?_) (fun c49 => ?_)
              · refine F_aload_n dX5_planTold_61 rfl ?_
                refine F_getE (v := nI o) dX5_planTold_62 rfl rfl rfl rfl m2 ?_
                refine F_if_leN (tgt := 84) dX5_planTold_65 rfl (by omega) (fun c65 => ?_) (fun c65 => ?_)
                · exact absurd c65 (by omega)
                · refine F_aload_n dX5_planTold_68 rfl ?_
                  refine F_cV0i (hh) dX5_planTold_69 rfl rfl (by decide) rfl rfl rfl rfl (by decide) (Nat.le_of_ble_eq_true rfl) (by omega) ?_
                  refine F_bipush (v := nI 41) dX5_planTold_72 rfl ?_
                  refine F_icmp_ne (tgt := 84) dX5_planTold_74 rfl (fun c74 => ?_) (fun c74 => ?_)
                  · exact absurd ((hr_14 hby).mpr h14) c74
                  · refine F_aload_n dX5_planTold_77 rfl ?_
                    refine F_cV0v (hj) dX5_planTold_78 rfl rfl (by decide) rfl rfl rfl rfl (by decide) (Nat.le_of_ble_eq_true rfl) (by omega) ?_
                    refine F_goto (tgt := 38) dX5_planTold_81 rfl ?_
                    exact y1
              · exact absurd c49 (by omega)
      · subst hbo
        refine ⟨false, σ1, fun Q hQ => ?_, fr1, Or.inr ⟨rfl, F, F0, F4, hF, fun σM l1 l2 l3 hM => ?_⟩⟩
        · refine F_iload_n dX2_readPlan_62 rfl ?_
          refine F_sipush (v := nI 400) dX2_readPlan_63 rfl ?_
          refine F_icmp_gtN (tgt := 134) dX2_readPlan_66 rfl (by omega) (by omega) (fun c66 => ?_) (fun c66 => ?_)
          · exact absurd c66 (by omega)
          · refine F_aload_n dX2_readPlan_69 rfl ?_
            refine F_getE (v := nI o) dX2_readPlan_70 rfl rfl rfl rfl p6 ?_
            refine F_if_gtN (tgt := 85) dX2_readPlan_73 rfl (by omega) (fun c73 => ?_) (fun c73 => ?_)
            · refine F_aload_n dX2_readPlan_85 rfl ?_
              refine F_cV0i (v_token (d := 7) h1 h2 h3) dX2_readPlan_86 rfl rfl (by decide) rfl rfl rfl rfl (by decide) (Nat.le_of_ble_eq_true rfl) (by omega) ?_
              refine F_bipush (v := nI 11) dX2_readPlan_89 rfl ?_
              refine F_icmp_neN (tgt := 101) dX2_readPlan_91 rfl (by omega) (by omega) (fun c91 => ?_) (fun c91 => ?_)
              · refine F_aload_n dX2_readPlan_101 rfl ?_
                refine F_cV0i (v_token (d := 7) h1 h2 h3) dX2_readPlan_102 rfl rfl (by decide) rfl rfl rfl rfl (by decide) (Nat.le_of_ble_eq_true rfl) (by omega) ?_
                refine F_bipush (v := nI 14) dX2_readPlan_105 rfl ?_
                refine F_icmp_neN (tgt := 117) dX2_readPlan_107 rfl (by omega) (by omega) (fun c107 => ?_) (fun c107 => ?_)
                · exact absurd h14 c107
                · refine F_aload_n dX2_readPlan_110 rfl ?_
                  refine F_cV0i (hb1) dX2_readPlan_111 rfl rfl (by decide) rfl rfl rfl rfl (by decide) (Nat.le_of_ble_eq_true rfl) (by omega) ?_
                  refine F_goto (tgt := 121) dX2_readPlan_114 rfl ?_
                  refine F_istore_n dX2_readPlan_121 (Nat.le_of_ble_eq_true rfl) ?_
                  refine F_iload_n dX2_readPlan_122 rfl ?_
                  refine F_if_neB (tgt := 128) dX2_readPlan_123 rfl (fun c123 => ?_) (fun c123 => ?_)
                  · cases c123
                  · refine F_iconst (v := nI 0) dX2_readPlan_126 rfl ?_
                    refine F_zret dX2_readPlan_127 rfl (by first | exact Or.inl rfl | exact Or.inr rfl | exact bI_01 _) ?_
                    exact hQ
              · exact absurd (Decidable.not_not.mp c91) h11
            · exact absurd c73 (by omega)
        · obtain ⟨hLM, m1, m2, m3, m4, m5⟩ := id hM
          have hh := LM.hv (G := G) (d := 7) h4 hLM
          obtain ⟨σN1, hj, e7, fm1⟩ := hM2 _ hM.here rfl
          refine ⟨σN1, fun Q hQ => ?_, e7, (MFr.atq _ _).trans fm1⟩
          have y1 : mF G mX5_planTold 10 38 [some (.ref 116), l1, l2, l3] [] σN1 Q := by
            refine F_aload_n dX5_planTold_38 rfl ?_
            refine F_getE (v := nI F) dX5_planTold_39 rfl rfl rfl rfl e7 ?_
            refine F_if_neN (tgt := 91) dX5_planTold_42 rfl (by omega) (fun c42 => ?_) (fun c42 => ?_)
            · exact hQ
            · exact absurd c42 (by omega)
          refine F_aload_n dX5_planTold_38 rfl ?_
          refine F_getE (v := nI 0) dX5_planTold_39 rfl rfl rfl rfl hLM.2.2.1 ?_
          refine F_if_neN (tgt := 91) dX5_planTold_42 rfl (by omega) (fun c42 => ?_) (fun c42 => ?_)
          · exact absurd rfl c42
          · refine F_aload_n dX5_planTold_45 rfl ?_
            refine F_getE (v := nI o) dX5_planTold_46 rfl rfl rfl rfl m2 ?_
            refine F_if_gtN (tgt := 61) dX5_planTold_49 rfl (by omega) (fun c49 => ?_) (fun c49 => ?_)
            · refine F_aload_n dX5_planTold_61 rfl ?_
              refine F_getE (v := nI o) dX5_planTold_62 rfl rfl rfl rfl m2 ?_
              refine F_if_leN (tgt := 84) dX5_planTold_65 rfl (by omega) (fun c65 => ?_) (fun c65 => ?_)
              · exact absurd c65 (by omega)
              · refine F_aload_n dX5_planTold_68 rfl ?_
                refine F_cV0i (hh) dX5_planTold_69 rfl rfl (by decide) rfl rfl rfl rfl (by decide) (Nat.le_of_ble_eq_true rfl) (by omega) ?_
                refine F_bipush (v := nI 41) dX5_planTold_72 rfl ?_
                refine F_icmp_ne (tgt := 84) dX5_planTold_74 rfl (fun c74 => ?_) (fun c74 => ?_)
                · exact absurd ((hr_14 hby).mpr h14) c74
                · refine F_aload_n dX5_planTold_77 rfl ?_
                  refine F_cV0v (hj) dX5_planTold_78 rfl rfl (by decide) rfl rfl rfl rfl (by decide) (Nat.le_of_ble_eq_true rfl) (by omega) ?_
                  refine F_goto (tgt := 38) dX5_planTold_81 rfl ?_
                  exact y1
            · exact absurd c49 (by omega)
  by_cases ho : o = 0
  · skip
    obtain ⟨bo, σ1, hb1, fr1, ⟨hbo, i2, day2, o2, K2, ad2, tm2, hi2, hP2, hM2⟩ | ⟨hbo, F, F0, F4, hF, hM2⟩⟩ := i_days (G := G) h4 hby hP h11
    · subst hbo
      have hi2s := hP2.1.2.2.1
      obtain ⟨bo, σC, k1, k2, k3⟩ := ih (s - i2) (by omega) i2 day2 o2 K2 ad2 tm2 (cnt + 1) (some (.int (bI true))) σ1 (by omega) (by omega) hP2
      refine ⟨bo, σC, fun Q hQ => ?_, fr1.trans k2, ?_⟩
      · have k1 := k1 Q hQ
        refine F_iload_n dX2_readPlan_62 rfl ?_
        refine F_sipush (v := nI 400) dX2_readPlan_63 rfl ?_
        refine F_icmp_gtN (tgt := 134) dX2_readPlan_66 rfl (by omega) (by omega) (fun c66 => ?_) (fun c66 => ?_)
        · exact absurd c66 (by omega)
        · refine F_aload_n dX2_readPlan_69 rfl ?_
          refine F_getE (v := nI o) dX2_readPlan_70 rfl rfl rfl rfl p6 ?_
          refine F_if_gtN (tgt := 85) dX2_readPlan_73 rfl (by omega) (fun c73 => ?_) (fun c73 => ?_)
          · exact absurd c73 (by omega)
          · refine F_aload_n dX2_readPlan_76 rfl ?_
            refine F_cV0i (v_token (d := 7) h1 h2 h3) dX2_readPlan_77 rfl rfl (by decide) rfl rfl rfl rfl (by decide) (Nat.le_of_ble_eq_true rfl) (by omega) ?_
            refine F_bipush (v := nI 15) dX2_readPlan_80 rfl ?_
            refine F_icmp_eqN (tgt := 134) dX2_readPlan_82 rfl (by omega) (by omega) (fun c82 => ?_) (fun c82 => ?_)
            · exact absurd ⟨by omega, c82⟩ hstop
            · refine F_aload_n dX2_readPlan_85 rfl ?_
              refine F_cV0i (v_token (d := 7) h1 h2 h3) dX2_readPlan_86 rfl rfl (by decide) rfl rfl rfl rfl (by decide) (Nat.le_of_ble_eq_true rfl) (by omega) ?_
              refine F_bipush (v := nI 11) dX2_readPlan_89 rfl ?_
              refine F_icmp_neN (tgt := 101) dX2_readPlan_91 rfl (by omega) (by omega) (fun c91 => ?_) (fun c91 => ?_)
              · refine F_aload_n dX2_readPlan_101 rfl ?_
                refine F_cV0i (v_token (d := 7) h1 h2 h3) dX2_readPlan_102 rfl rfl (by decide) rfl rfl rfl rfl (by decide) (Nat.le_of_ble_eq_true rfl) (by omega) ?_
                refine F_bipush (v := nI 14) dX2_readPlan_105 rfl ?_
                refine F_icmp_neN (tgt := 117) dX2_readPlan_107 rfl (by omega) (by omega) (fun c107 => ?_) (fun c107 => ?_)
                · refine F_aload_n dX2_readPlan_117 rfl ?_
                  refine F_cV0i (hb1) dX2_readPlan_118 rfl rfl (by decide) rfl rfl rfl rfl (by decide) (Nat.le_of_ble_eq_true rfl) (by omega) ?_
                  refine F_istore_n dX2_readPlan_121 (Nat.le_of_ble_eq_true rfl) ?_
                  refine F_iload_n dX2_readPlan_122 rfl ?_
                  refine F_if_neB (tgt := 128) dX2_readPlan_123 rfl (fun c123 => ?_) (fun c123 => ?_)
                  · refine F_iincN dX2_readPlan_128 rfl ?_
                    refine F_goto (tgt := 62) dX2_readPlan_131 rfl ?_
                    exact k1
                  · cases c123
                · exact absurd (Decidable.not_not.mp c107) h14
              · exact absurd (Decidable.not_not.mp c91) h11
      · obtain ⟨k3, i3, day3, K3, ad3, tm3, hi3, hP3, hM3⟩ | ⟨k3, F, F0, F4, hF, hM3⟩ := k3
        · refine Or.inl ⟨k3, i3, day3, K3, ad3, tm3, by omega, hP3, fun σM l1 l2 l3 hM => ?_⟩
          obtain ⟨hLM, m1, m2, m3, m4, m5⟩ := id hM
          have hh := LM.hv (G := G) (d := 7) h4 hLM
          obtain ⟨σN1, hj, hPM1, fm1⟩ := hM2 _ hM.here rfl
          obtain ⟨σN, y1, y2, y3⟩ := hM3 σN1 l1 l2 l3 hPM1
          refine ⟨σN, fun Q hQ => ?_, y2, ((MFr.atq _ _).trans fm1).trans y3⟩
          have y1 := y1 Q hQ
          refine F_aload_n dX5_planTold_38 rfl ?_
          refine F_getE (v := nI 0) dX5_planTold_39 rfl rfl rfl rfl hLM.2.2.1 ?_
          refine F_if_neN (tgt := 91) dX5_planTold_42 rfl (by omega) (fun c42 => ?_) (fun c42 => ?_)
          · exact absurd rfl c42
          · refine F_aload_n dX5_planTold_45 rfl ?_
            refine F_getE (v := nI o) dX5_planTold_46 rfl rfl rfl rfl m2 ?_
            refine F_if_gtN (tgt := 61) dX5_planTold_49 rfl (by omega) (fun c49 => ?_) (fun c49 => ?_)
            · exact absurd c49 (by omega)
            · refine F_aload_n dX5_planTold_52 rfl ?_
              refine F_cV0i (hh) dX5_planTold_53 rfl rfl (by decide) rfl rfl rfl rfl (by decide) (Nat.le_of_ble_eq_true rfl) (by omega) ?_
              refine F_bipush (v := nI 59) dX5_planTold_56 rfl ?_
              refine F_icmp_eq (tgt := 91) dX5_planTold_58 rfl (fun c58 => ?_) (fun c58 => ?_)
              · exact absurd ⟨by omega, (hr_15 hby).mp c58⟩ hstop
              · refine F_aload_n dX5_planTold_61 rfl ?_
                refine F_getE (v := nI o) dX5_planTold_62 rfl rfl rfl rfl m2 ?_
                refine F_if_leN (tgt := 84) dX5_planTold_65 rfl (by omega) (fun c65 => ?_) (fun c65 => ?_)
                · refine F_aload_n dX5_planTold_84 rfl ?_
                  refine F_cV0v (hj) dX5_planTold_85 rfl rfl (by decide) rfl rfl rfl rfl (by decide) (Nat.le_of_ble_eq_true rfl) (by omega) ?_
                  refine F_goto (tgt := 38) dX5_planTold_88 rfl ?_
                  exact y1
                · exact absurd ho (by omega)
        · refine Or.inr ⟨k3, F, F0, F4, hF, fun σM l1 l2 l3 hM => ?_⟩
          obtain ⟨hLM, m1, m2, m3, m4, m5⟩ := id hM
          have hh := LM.hv (G := G) (d := 7) h4 hLM
          obtain ⟨σN1, hj, hPM1, fm1⟩ := hM2 _ hM.here rfl
          obtain ⟨σN, y1, y2, y3⟩ := hM3 σN1 l1 l2 l3 hPM1
          refine ⟨σN, fun Q hQ => ?_, y2, ((MFr.atq _ _).trans fm1).trans y3⟩
          have y1 := y1 Q hQ
          refine F_aload_n dX5_planTold_38 rfl ?_
          refine F_getE (v := nI 0) dX5_planTold_39 rfl rfl rfl rfl hLM.2.2.1 ?_
          refine F_if_neN (tgt := 91) dX5_planTold_42 rfl (by omega) (fun c42 => ?_) (fun c42 => ?_)
          · exact absurd rfl c42
          · refine F_aload_n dX5_planTold_45 rfl ?_
            refine F_getE (v := nI o) dX5_planTold_46 rfl rfl rfl rfl m2 ?_
            refine F_if_gtN (tgt := 61) dX5_planTold_49 rfl (by omega) (fun c49 => ?_) (fun c49 => ?_)
            · exact absurd c49 (by omega)
            · refine F_aload_n dX5_planTold_52 rfl ?_
              refine F_cV0i (hh) dX5_planTold_53 rfl rfl (by decide) rfl rfl rfl rfl (by decide) (Nat.le_of_ble_eq_true rfl) (by omega) ?_
              refine F_bipush (v := nI 59) dX5_planTold_56 rfl ?_
              refine F_icmp_eq (tgt := 91) dX5_planTold_58 rfl (fun c58 => ?_) (fun c58 => ?_)
              · exact absurd ⟨by omega, (hr_15 hby).mp c58⟩ hstop
              · refine F_aload_n dX5_planTold_61 rfl ?_
                refine F_getE (v := nI o) dX5_planTold_62 rfl rfl rfl rfl m2 ?_
                refine F_if_leN (tgt := 84) dX5_planTold_65 rfl (by omega) (fun c65 => ?_) (fun c65 => ?_)
                · refine F_aload_n dX5_planTold_84 rfl ?_
                  refine F_cV0v (hj) dX5_planTold_85 rfl rfl (by decide) rfl rfl rfl rfl (by decide) (Nat.le_of_ble_eq_true rfl) (by omega) ?_
                  refine F_goto (tgt := 38) dX5_planTold_88 rfl ?_
                  exact y1
                · exact absurd ho (by omega)
    · subst hbo
      refine ⟨false, σ1, fun Q hQ => ?_, fr1, Or.inr ⟨rfl, F, F0, F4, hF, fun σM l1 l2 l3 hM => ?_⟩⟩
      · refine F_iload_n dX2_readPlan_62 rfl ?_
        refine F_sipush (v := nI 400) dX2_readPlan_63 rfl ?_
        refine F_icmp_gtN (tgt := 134) dX2_readPlan_66 rfl (by omega) (by omega) (fun c66 => ?_) (fun c66 => ?_)
        · exact absurd c66 (by omega)
        · refine F_aload_n dX2_readPlan_69 rfl ?_
          refine F_getE (v := nI o) dX2_readPlan_70 rfl rfl rfl rfl p6 ?_
          refine F_if_gtN (tgt := 85) dX2_readPlan_73 rfl (by omega) (fun c73 => ?_) (fun c73 => ?_)
          · exact absurd c73 (by omega)
          · refine F_aload_n dX2_readPlan_76 rfl ?_
            refine F_cV0i (v_token (d := 7) h1 h2 h3) dX2_readPlan_77 rfl rfl (by decide) rfl rfl rfl rfl (by decide) (Nat.le_of_ble_eq_true rfl) (by omega) ?_
            refine F_bipush (v := nI 15) dX2_readPlan_80 rfl ?_
            refine F_icmp_eqN (tgt := 134) dX2_readPlan_82 rfl (by omega) (by omega) (fun c82 => ?_) (fun c82 => ?_)
            · exact absurd ⟨by omega, c82⟩ hstop
            · refine F_aload_n dX2_readPlan_85 rfl ?_
              refine F_cV0i (v_token (d := 7) h1 h2 h3) dX2_readPlan_86 rfl rfl (by decide) rfl rfl rfl rfl (by decide) (Nat.le_of_ble_eq_true rfl) (by omega) ?_
              refine F_bipush (v := nI 11) dX2_readPlan_89 rfl ?_
              refine F_icmp_neN (tgt := 101) dX2_readPlan_91 rfl (by omega) (by omega) (fun c91 => ?_) (fun c91 => ?_)
              · refine F_aload_n dX2_readPlan_101 rfl ?_
                refine F_cV0i (v_token (d := 7) h1 h2 h3) dX2_readPlan_102 rfl rfl (by decide) rfl rfl rfl rfl (by decide) (Nat.le_of_ble_eq_true rfl) (by omega) ?_
                refine F_bipush (v := nI 14) dX2_readPlan_105 rfl ?_
                refine F_icmp_neN (tgt := 117) dX2_readPlan_107 rfl (by omega) (by omega) (fun c107 => ?_) (fun c107 => ?_)
                · refine F_aload_n dX2_readPlan_117 rfl ?_
                  refine F_cV0i (hb1) dX2_readPlan_118 rfl rfl (by decide) rfl rfl rfl rfl (by decide) (Nat.le_of_ble_eq_true rfl) (by omega) ?_
                  refine F_istore_n dX2_readPlan_121 (Nat.le_of_ble_eq_true rfl) ?_
                  refine F_iload_n dX2_readPlan_122 rfl ?_
                  refine F_if_neB (tgt := 128) dX2_readPlan_123 rfl (fun c123 => ?_) (fun c123 => ?_)
                  · cases c123
                  · refine F_iconst (v := nI 0) dX2_readPlan_126 rfl ?_
                    refine F_zret dX2_readPlan_127 rfl (by first | exact Or.inl rfl | exact Or.inr rfl | exact bI_01 _) ?_
                    exact hQ
                · exact absurd (Decidable.not_not.mp c107) h14
              · exact absurd (Decidable.not_not.mp c91) h11
      · obtain ⟨hLM, m1, m2, m3, m4, m5⟩ := id hM
        have hh := LM.hv (G := G) (d := 7) h4 hLM
        obtain ⟨σN1, hj, e7, fm1⟩ := hM2 _ hM.here rfl
        refine ⟨σN1, fun Q hQ => ?_, e7, (MFr.atq _ _).trans fm1⟩
        have y1 : mF G mX5_planTold 10 38 [some (.ref 116), l1, l2, l3] [] σN1 Q := by
          refine F_aload_n dX5_planTold_38 rfl ?_
          refine F_getE (v := nI F) dX5_planTold_39 rfl rfl rfl rfl e7 ?_
          refine F_if_neN (tgt := 91) dX5_planTold_42 rfl (by omega) (fun c42 => ?_) (fun c42 => ?_)
          · exact hQ
          · exact absurd c42 (by omega)
        refine F_aload_n dX5_planTold_38 rfl ?_
        refine F_getE (v := nI 0) dX5_planTold_39 rfl rfl rfl rfl hLM.2.2.1 ?_
        refine F_if_neN (tgt := 91) dX5_planTold_42 rfl (by omega) (fun c42 => ?_) (fun c42 => ?_)
        · exact absurd rfl c42
        · refine F_aload_n dX5_planTold_45 rfl ?_
          refine F_getE (v := nI o) dX5_planTold_46 rfl rfl rfl rfl m2 ?_
          refine F_if_gtN (tgt := 61) dX5_planTold_49 rfl (by omega) (fun c49 => ?_) (fun c49 => ?_)
          · exact absurd c49 (by omega)
          · refine F_aload_n dX5_planTold_52 rfl ?_
            refine F_cV0i (hh) dX5_planTold_53 rfl rfl (by decide) rfl rfl rfl rfl (by decide) (Nat.le_of_ble_eq_true rfl) (by omega) ?_
            refine F_bipush (v := nI 59) dX5_planTold_56 rfl ?_
            refine F_icmp_eq (tgt := 91) dX5_planTold_58 rfl (fun c58 => ?_) (fun c58 => ?_)
            · exact absurd ⟨by omega, (hr_15 hby).mp c58⟩ hstop
            · refine F_aload_n dX5_planTold_61 rfl ?_
              refine F_getE (v := nI o) dX5_planTold_62 rfl rfl rfl rfl m2 ?_
              refine F_if_leN (tgt := 84) dX5_planTold_65 rfl (by omega) (fun c65 => ?_) (fun c65 => ?_)
              · refine F_aload_n dX5_planTold_84 rfl ?_
                refine F_cV0v (hj) dX5_planTold_85 rfl rfl (by decide) rfl rfl rfl rfl (by decide) (Nat.le_of_ble_eq_true rfl) (by omega) ?_
                refine F_goto (tgt := 38) dX5_planTold_88 rfl ?_
                exact y1
              · exact absurd ho (by omega)
  · skip
    obtain ⟨bo, σ1, hb1, fr1, ⟨hbo, i2, day2, o2, K2, ad2, tm2, hi2, hP2, hM2⟩ | ⟨hbo, F, F0, F4, hF, hM2⟩⟩ := i_days (G := G) h4 hby hP h11
    · subst hbo
      have hi2s := hP2.1.2.2.1
      obtain ⟨bo, σC, k1, k2, k3⟩ := ih (s - i2) (by omega) i2 day2 o2 K2 ad2 tm2 (cnt + 1) (some (.int (bI true))) σ1 (by omega) (by omega) hP2
      refine ⟨bo, σC, fun Q hQ => ?_, fr1.trans k2, ?_⟩
      · have k1 := k1 Q hQ
        refine F_iload_n dX2_readPlan_62 rfl ?_
        refine F_sipush (v := nI 400) dX2_readPlan_63 rfl ?_
        refine F_icmp_gtN (tgt := 134) dX2_readPlan_66 rfl (by omega) (by omega) (fun c66 => ?_) (fun c66 => ?_)
        · exact absurd c66 (by omega)
        · refine F_aload_n dX2_readPlan_69 rfl ?_
          refine F_getE (v := nI o) dX2_readPlan_70 rfl rfl rfl rfl p6 ?_
          refine F_if_gtN (tgt := 85) dX2_readPlan_73 rfl (by omega) (fun c73 => ?_) (fun c73 => ?_)
          · refine F_aload_n dX2_readPlan_85 rfl ?_
            refine F_cV0i (v_token (d := 7) h1 h2 h3) dX2_readPlan_86 rfl rfl (by decide) rfl rfl rfl rfl (by decide) (Nat.le_of_ble_eq_true rfl) (by omega) ?_
            refine F_bipush (v := nI 11) dX2_readPlan_89 rfl ?_
            refine F_icmp_neN (tgt := 101) dX2_readPlan_91 rfl (by omega) (by omega) (fun c91 => ?_) (fun c91 => ?_)
            · refine F_aload_n dX2_readPlan_101 rfl ?_
              refine F_cV0i (v_token (d := 7) h1 h2 h3) dX2_readPlan_102 rfl rfl (by decide) rfl rfl rfl rfl (by decide) (Nat.le_of_ble_eq_true rfl) (by omega) ?_
              refine F_bipush (v := nI 14) dX2_readPlan_105 rfl ?_
              refine F_icmp_neN (tgt := 117) dX2_readPlan_107 rfl (by omega) (by omega) (fun c107 => ?_) (fun c107 => ?_)
              · refine F_aload_n dX2_readPlan_117 rfl ?_
                refine F_cV0i (hb1) dX2_readPlan_118 rfl rfl (by decide) rfl rfl rfl rfl (by decide) (Nat.le_of_ble_eq_true rfl) (by omega) ?_
                refine F_istore_n dX2_readPlan_121 (Nat.le_of_ble_eq_true rfl) ?_
                refine F_iload_n dX2_readPlan_122 rfl ?_
                refine F_if_neB (tgt := 128) dX2_readPlan_123 rfl (fun c123 => ?_) (fun c123 => ?_)
                · refine F_iincN dX2_readPlan_128 rfl ?_
                  refine F_goto (tgt := 62) dX2_readPlan_131 rfl ?_
                  exact k1
                · cases c123
              · exact absurd (Decidable.not_not.mp c107) h14
            · exact absurd (Decidable.not_not.mp c91) h11
          · exact absurd c73 (by omega)
      · obtain ⟨k3, i3, day3, K3, ad3, tm3, hi3, hP3, hM3⟩ | ⟨k3, F, F0, F4, hF, hM3⟩ := k3
        · refine Or.inl ⟨k3, i3, day3, K3, ad3, tm3, by omega, hP3, fun σM l1 l2 l3 hM => ?_⟩
          obtain ⟨hLM, m1, m2, m3, m4, m5⟩ := id hM
          have hh := LM.hv (G := G) (d := 7) h4 hLM
          obtain ⟨σN1, hj, hPM1, fm1⟩ := hM2 _ hM.here rfl
          obtain ⟨σN, y1, y2, y3⟩ := hM3 σN1 l1 l2 l3 hPM1
          refine ⟨σN, fun Q hQ => ?_, y2, ((MFr.atq _ _).trans fm1).trans y3⟩
          have y1 := y1 Q hQ
          refine F_aload_n dX5_planTold_38 rfl ?_
          refine F_getE (v := nI 0) dX5_planTold_39 rfl rfl rfl rfl hLM.2.2.1 ?_
          refine F_if_neN (tgt := 91) dX5_planTold_42 rfl (by omega) (fun c42 => ?_) (fun c42 => ?_)
          · exact absurd rfl c42
          · refine F_aload_n dX5_planTold_45 rfl ?_
            refine F_getE (v := nI o) dX5_planTold_46 rfl rfl rfl rfl m2 ?_
            refine F_if_gtN (tgt := 61) dX5_planTold_49 rfl (by omega) (fun c49 => ?_) (fun c49 => ?_)
            · refine F_aload_n dX5_planTold_61 rfl ?_
              refine F_getE (v := nI o) dX5_planTold_62 rfl rfl rfl rfl m2 ?_
              refine F_if_leN (tgt := 84) dX5_planTold_65 rfl (by omega) (fun c65 => ?_) (fun c65 => ?_)
              · exact absurd c65 (by omega)
              · refine F_aload_n dX5_planTold_68 rfl ?_
                refine F_cV0i (hh) dX5_planTold_69 rfl rfl (by decide) rfl rfl rfl rfl (by decide) (Nat.le_of_ble_eq_true rfl) (by omega) ?_
                refine F_bipush (v := nI 41) dX5_planTold_72 rfl ?_
                refine F_icmp_ne (tgt := 84) dX5_planTold_74 rfl (fun c74 => ?_) (fun c74 => ?_)
                · refine F_aload_n dX5_planTold_84 rfl ?_
                  refine F_cV0v (hj) dX5_planTold_85 rfl rfl (by decide) rfl rfl rfl rfl (by decide) (Nat.le_of_ble_eq_true rfl) (by omega) ?_
                  refine F_goto (tgt := 38) dX5_planTold_88 rfl ?_
                  exact y1
                · exact absurd ((hr_14 hby).mp c74) (by omega)
            · exact absurd c49 (by omega)
        · refine Or.inr ⟨k3, F, F0, F4, hF, fun σM l1 l2 l3 hM => ?_⟩
          obtain ⟨hLM, m1, m2, m3, m4, m5⟩ := id hM
          have hh := LM.hv (G := G) (d := 7) h4 hLM
          obtain ⟨σN1, hj, hPM1, fm1⟩ := hM2 _ hM.here rfl
          obtain ⟨σN, y1, y2, y3⟩ := hM3 σN1 l1 l2 l3 hPM1
          refine ⟨σN, fun Q hQ => ?_, y2, ((MFr.atq _ _).trans fm1).trans y3⟩
          have y1 := y1 Q hQ
          refine F_aload_n dX5_planTold_38 rfl ?_
          refine F_getE (v := nI 0) dX5_planTold_39 rfl rfl rfl rfl hLM.2.2.1 ?_
          refine F_if_neN (tgt := 91) dX5_planTold_42 rfl (by omega) (fun c42 => ?_) (fun c42 => ?_)
          · exact absurd rfl c42
          · refine F_aload_n dX5_planTold_45 rfl ?_
            refine F_getE (v := nI o) dX5_planTold_46 rfl rfl rfl rfl m2 ?_
            refine F_if_gtN (tgt := 61) dX5_planTold_49 rfl (by omega) (fun c49 => ?_) (fun c49 => ?_)
            · refine F_aload_n dX5_planTold_61 rfl ?_
              refine F_getE (v := nI o) dX5_planTold_62 rfl rfl rfl rfl m2 ?_
              refine F_if_leN (tgt := 84) dX5_planTold_65 rfl (by omega) (fun c65 => ?_) (fun c65 => ?_)
              · exact absurd c65 (by omega)
              · refine F_aload_n dX5_planTold_68 rfl ?_
                refine F_cV0i (hh) dX5_planTold_69 rfl rfl (by decide) rfl rfl rfl rfl (by decide) (Nat.le_of_ble_eq_true rfl) (by omega) ?_
                refine F_bipush (v := nI 41) dX5_planTold_72 rfl ?_
                refine F_icmp_ne (tgt := 84) dX5_planTold_74 rfl (fun c74 => ?_) (fun c74 => ?_)
                · refine F_aload_n dX5_planTold_84 rfl ?_
                  refine F_cV0v (hj) dX5_planTold_85 rfl rfl (by decide) rfl rfl rfl rfl (by decide) (Nat.le_of_ble_eq_true rfl) (by omega) ?_
                  refine F_goto (tgt := 38) dX5_planTold_88 rfl ?_
                  exact y1
                · exact absurd ((hr_14 hby).mp c74) (by omega)
            · exact absurd c49 (by omega)
    · subst hbo
      refine ⟨false, σ1, fun Q hQ => ?_, fr1, Or.inr ⟨rfl, F, F0, F4, hF, fun σM l1 l2 l3 hM => ?_⟩⟩
      · refine F_iload_n dX2_readPlan_62 rfl ?_
        refine F_sipush (v := nI 400) dX2_readPlan_63 rfl ?_
        refine F_icmp_gtN (tgt := 134) dX2_readPlan_66 rfl (by omega) (by omega) (fun c66 => ?_) (fun c66 => ?_)
        · exact absurd c66 (by omega)
        · refine F_aload_n dX2_readPlan_69 rfl ?_
          refine F_getE (v := nI o) dX2_readPlan_70 rfl rfl rfl rfl p6 ?_
          refine F_if_gtN (tgt := 85) dX2_readPlan_73 rfl (by omega) (fun c73 => ?_) (fun c73 => ?_)
          · refine F_aload_n dX2_readPlan_85 rfl ?_
            refine F_cV0i (v_token (d := 7) h1 h2 h3) dX2_readPlan_86 rfl rfl (by decide) rfl rfl rfl rfl (by decide) (Nat.le_of_ble_eq_true rfl) (by omega) ?_
            refine F_bipush (v := nI 11) dX2_readPlan_89 rfl ?_
            refine F_icmp_neN (tgt := 101) dX2_readPlan_91 rfl (by omega) (by omega) (fun c91 => ?_) (fun c91 => ?_)
            · refine F_aload_n dX2_readPlan_101 rfl ?_
              refine F_cV0i (v_token (d := 7) h1 h2 h3) dX2_readPlan_102 rfl rfl (by decide) rfl rfl rfl rfl (by decide) (Nat.le_of_ble_eq_true rfl) (by omega) ?_
              refine F_bipush (v := nI 14) dX2_readPlan_105 rfl ?_
              refine F_icmp_neN (tgt := 117) dX2_readPlan_107 rfl (by omega) (by omega) (fun c107 => ?_) (fun c107 => ?_)
              · refine F_aload_n dX2_readPlan_117 rfl ?_
                refine F_cV0i (hb1) dX2_readPlan_118 rfl rfl (by decide) rfl rfl rfl rfl (by decide) (Nat.le_of_ble_eq_true rfl) (by omega) ?_
                refine F_istore_n dX2_readPlan_121 (Nat.le_of_ble_eq_true rfl) ?_
                refine F_iload_n dX2_readPlan_122 rfl ?_
                refine F_if_neB (tgt := 128) dX2_readPlan_123 rfl (fun c123 => ?_) (fun c123 => ?_)
                · cases c123
                · refine F_iconst (v := nI 0) dX2_readPlan_126 rfl ?_
                  refine F_zret dX2_readPlan_127 rfl (by first | exact Or.inl rfl | exact Or.inr rfl | exact bI_01 _) ?_
                  exact hQ
              · exact absurd (Decidable.not_not.mp c107) h14
            · exact absurd (Decidable.not_not.mp c91) h11
          · exact absurd c73 (by omega)
      · obtain ⟨hLM, m1, m2, m3, m4, m5⟩ := id hM
        have hh := LM.hv (G := G) (d := 7) h4 hLM
        obtain ⟨σN1, hj, e7, fm1⟩ := hM2 _ hM.here rfl
        refine ⟨σN1, fun Q hQ => ?_, e7, (MFr.atq _ _).trans fm1⟩
        have y1 : mF G mX5_planTold 10 38 [some (.ref 116), l1, l2, l3] [] σN1 Q := by
          refine F_aload_n dX5_planTold_38 rfl ?_
          refine F_getE (v := nI F) dX5_planTold_39 rfl rfl rfl rfl e7 ?_
          refine F_if_neN (tgt := 91) dX5_planTold_42 rfl (by omega) (fun c42 => ?_) (fun c42 => ?_)
          · exact hQ
          · exact absurd c42 (by omega)
        refine F_aload_n dX5_planTold_38 rfl ?_
        refine F_getE (v := nI 0) dX5_planTold_39 rfl rfl rfl rfl hLM.2.2.1 ?_
        refine F_if_neN (tgt := 91) dX5_planTold_42 rfl (by omega) (fun c42 => ?_) (fun c42 => ?_)
        · exact absurd rfl c42
        · refine F_aload_n dX5_planTold_45 rfl ?_
          refine F_getE (v := nI o) dX5_planTold_46 rfl rfl rfl rfl m2 ?_
          refine F_if_gtN (tgt := 61) dX5_planTold_49 rfl (by omega) (fun c49 => ?_) (fun c49 => ?_)
          · refine F_aload_n dX5_planTold_61 rfl ?_
            refine F_getE (v := nI o) dX5_planTold_62 rfl rfl rfl rfl m2 ?_
            refine F_if_leN (tgt := 84) dX5_planTold_65 rfl (by omega) (fun c65 => ?_) (fun c65 => ?_)
            · exact absurd c65 (by omega)
            · refine F_aload_n dX5_planTold_68 rfl ?_
              refine F_cV0i (hh) dX5_planTold_69 rfl rfl (by decide) rfl rfl rfl rfl (by decide) (Nat.le_of_ble_eq_true rfl) (by omega) ?_
              refine F_bipush (v := nI 41) dX5_planTold_72 rfl ?_
              refine F_icmp_ne (tgt := 84) dX5_planTold_74 rfl (fun c74 => ?_) (fun c74 => ?_)
              · refine F_aload_n dX5_planTold_84 rfl ?_
                refine F_cV0v (hj) dX5_planTold_85 rfl rfl (by decide) rfl rfl rfl rfl (by decide) (Nat.le_of_ble_eq_true rfl) (by omega) ?_
                refine F_goto (tgt := 38) dX5_planTold_88 rfl ?_
                exact y1
              · exact absurd ((hr_14 hby).mp c74) (by omega)
          · exact absurd c49 (by omega)

end PLL
