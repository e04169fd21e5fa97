/-! ===== how great forms can be; team ===== -/
theorem dX4_team_0 : decode cX4_team 0 = .ok (.iload_n 1, 1) := by decide +kernel
theorem dX4_team_1 : decode cX4_team 1 = .ok (.invokestatic 145, 3) := by decide +kernel
theorem dX4_team_4 : decode cX4_team 4 = .ok (.ifCond .eq 18, 3) := by decide +kernel
theorem dX4_team_7 : decode cX4_team 7 = .ok (.iload_n 2, 1) := by decide +kernel
theorem dX4_team_8 : decode cX4_team 8 = .ok (.ifCond .lt 14, 3) := by decide +kernel
theorem dX4_team_11 : decode cX4_team 11 = .ok (.iload_n 2, 1) := by decide +kernel
theorem dX4_team_12 : decode cX4_team 12 = .ok (.aload_n 0, 1) := by decide +kernel
theorem dX4_team_13 : decode cX4_team 13 = .ok (.getfield 10, 3) := by decide +kernel
theorem dX4_team_16 : decode cX4_team 16 = .ok (.getfield 79, 3) := by decide +kernel
theorem dX4_team_19 : decode cX4_team 19 = .ok (.if_icmp .le 5, 3) := by decide +kernel
theorem dX4_team_22 : decode cX4_team 22 = .ok (.iconst (-1), 1) := by decide +kernel
theorem dX4_team_23 : decode cX4_team 23 = .ok (.ireturn, 1) := by decide +kernel
theorem dX4_team_24 : decode cX4_team 24 = .ok (.iconst 0, 1) := by decide +kernel
theorem dX4_team_25 : decode cX4_team 25 = .ok (.istore_n 3, 1) := by decide +kernel
theorem dX4_team_26 : decode cX4_team 26 = .ok (.iload_n 3, 1) := by decide +kernel
theorem dX4_team_27 : decode cX4_team 27 = .ok (.aload_n 0, 1) := by decide +kernel
theorem dX4_team_28 : decode cX4_team 28 = .ok (.getfield 10, 3) := by decide +kernel
theorem dX4_team_31 : decode cX4_team 31 = .ok (.getfield 79, 3) := by decide +kernel
theorem dX4_team_34 : decode cX4_team 34 = .ok (.if_icmp .ge 21, 3) := by decide +kernel
theorem dX4_team_37 : decode cX4_team 37 = .ok (.aload_n 0, 1) := by decide +kernel
theorem dX4_team_38 : decode cX4_team 38 = .ok (.getfield 37, 3) := by decide +kernel
theorem dX4_team_41 : decode cX4_team 41 = .ok (.iload_n 3, 1) := by decide +kernel
theorem dX4_team_42 : decode cX4_team 42 = .ok (.aload_n 0, 1) := by decide +kernel
theorem dX4_team_43 : decode cX4_team 43 = .ok (.iload_n 3, 1) := by decide +kernel
theorem dX4_team_44 : decode cX4_team 44 = .ok (.iload_n 1, 1) := by decide +kernel
theorem dX4_team_45 : decode cX4_team 45 = .ok (.invokevirtual 176, 3) := by decide +kernel
theorem dX4_team_48 : decode cX4_team 48 = .ok (.iastore, 1) := by decide +kernel
theorem dX4_team_49 : decode cX4_team 49 = .ok (.iinc 3 1, 3) := by decide +kernel
theorem dX4_team_52 : decode cX4_team 52 = .ok (.goto (-26), 3) := by decide +kernel
theorem dX4_team_55 : decode cX4_team 55 = .ok (.iconst 0, 1) := by decide +kernel
theorem dX4_team_56 : decode cX4_team 56 = .ok (.istore_n 3, 1) := by decide +kernel
theorem dX4_team_57 : decode cX4_team 57 = .ok (.iconst 0, 1) := by decide +kernel
theorem dX4_team_58 : decode cX4_team 58 = .ok (.istore 4, 2) := by decide +kernel
theorem dX4_team_60 : decode cX4_team 60 = .ok (.iload 4, 2) := by decide +kernel
theorem dX4_team_62 : decode cX4_team 62 = .ok (.iload_n 2, 1) := by decide +kernel
theorem dX4_team_63 : decode cX4_team 63 = .ok (.if_icmp .ge 19, 3) := by decide +kernel
theorem dX4_team_66 : decode cX4_team 66 = .ok (.iload_n 3, 1) := by decide +kernel
theorem dX4_team_67 : decode cX4_team 67 = .ok (.iconst 1, 1) := by decide +kernel
theorem dX4_team_68 : decode cX4_team 68 = .ok (.aload_n 0, 1) := by decide +kernel
theorem dX4_team_69 : decode cX4_team 69 = .ok (.iload_n 3, 1) := by decide +kernel
theorem dX4_team_70 : decode cX4_team 70 = .ok (.invokevirtual 204, 3) := by decide +kernel
theorem dX4_team_73 : decode cX4_team 73 = .ok (.ishl, 1) := by decide +kernel
theorem dX4_team_74 : decode cX4_team 74 = .ok (.ior, 1) := by decide +kernel
theorem dX4_team_75 : decode cX4_team 75 = .ok (.istore_n 3, 1) := by decide +kernel
theorem dX4_team_76 : decode cX4_team 76 = .ok (.iinc 4 1, 3) := by decide +kernel
theorem dX4_team_79 : decode cX4_team 79 = .ok (.goto (-19), 3) := by decide +kernel
theorem dX4_team_82 : decode cX4_team 82 = .ok (.iload_n 3, 1) := by decide +kernel
theorem dX4_team_83 : decode cX4_team 83 = .ok (.ireturn, 1) := by decide +kernel
theorem dX4_greatestBeside_0 : decode cX4_greatestBeside 0 = .ok (.iconst 0, 1) := by decide +kernel
theorem dX4_greatestBeside_1 : decode cX4_greatestBeside 1 = .ok (.istore_n 2, 1) := by decide +kernel
theorem dX4_greatestBeside_2 : decode cX4_greatestBeside 2 = .ok (.ldc 175, 2) := by decide +kernel
theorem dX4_greatestBeside_4 : decode cX4_greatestBeside 4 = .ok (.istore_n 3, 1) := by decide +kernel
theorem dX4_greatestBeside_5 : decode cX4_greatestBeside 5 = .ok (.iconst 0, 1) := by decide +kernel
theorem dX4_greatestBeside_6 : decode cX4_greatestBeside 6 = .ok (.istore 4, 2) := by decide +kernel
theorem dX4_greatestBeside_8 : decode cX4_greatestBeside 8 = .ok (.iload 4, 2) := by decide +kernel
theorem dX4_greatestBeside_10 : decode cX4_greatestBeside 10 = .ok (.aload_n 0, 1) := by decide +kernel
theorem dX4_greatestBeside_11 : decode cX4_greatestBeside 11 = .ok (.getfield 10, 3) := by decide +kernel
theorem dX4_greatestBeside_14 : decode cX4_greatestBeside 14 = .ok (.getfield 79, 3) := by decide +kernel
theorem dX4_greatestBeside_17 : decode cX4_greatestBeside 17 = .ok (.if_icmp .ge 40, 3) := by decide +kernel
theorem dX4_greatestBeside_20 : decode cX4_greatestBeside 20 = .ok (.iload_n 1, 1) := by decide +kernel
theorem dX4_greatestBeside_21 : decode cX4_greatestBeside 21 = .ok (.iload 4, 2) := by decide +kernel
theorem dX4_greatestBeside_23 : decode cX4_greatestBeside 23 = .ok (.ishr, 1) := by decide +kernel
theorem dX4_greatestBeside_24 : decode cX4_greatestBeside 24 = .ok (.iconst 1, 1) := by decide +kernel
theorem dX4_greatestBeside_25 : decode cX4_greatestBeside 25 = .ok (.iand, 1) := by decide +kernel
theorem dX4_greatestBeside_26 : decode cX4_greatestBeside 26 = .ok (.ifCond .ne 25, 3) := by decide +kernel
theorem dX4_greatestBeside_29 : decode cX4_greatestBeside 29 = .ok (.aload_n 0, 1) := by decide +kernel
theorem dX4_greatestBeside_30 : decode cX4_greatestBeside 30 = .ok (.getfield 37, 3) := by decide +kernel
theorem dX4_greatestBeside_33 : decode cX4_greatestBeside 33 = .ok (.iload 4, 2) := by decide +kernel
theorem dX4_greatestBeside_35 : decode cX4_greatestBeside 35 = .ok (.iaload, 1) := by decide +kernel
theorem dX4_greatestBeside_36 : decode cX4_greatestBeside 36 = .ok (.iload_n 3, 1) := by decide +kernel
theorem dX4_greatestBeside_37 : decode cX4_greatestBeside 37 = .ok (.if_icmp .le 14, 3) := by decide +kernel
theorem dX4_greatestBeside_40 : decode cX4_greatestBeside 40 = .ok (.aload_n 0, 1) := by decide +kernel
theorem dX4_greatestBeside_41 : decode cX4_greatestBeside 41 = .ok (.getfield 37, 3) := by decide +kernel
theorem dX4_greatestBeside_44 : decode cX4_greatestBeside 44 = .ok (.iload 4, 2) := by decide +kernel
theorem dX4_greatestBeside_46 : decode cX4_greatestBeside 46 = .ok (.iaload, 1) := by decide +kernel
theorem dX4_greatestBeside_47 : decode cX4_greatestBeside 47 = .ok (.istore_n 3, 1) := by decide +kernel
theorem dX4_greatestBeside_48 : decode cX4_greatestBeside 48 = .ok (.iload 4, 2) := by decide +kernel
theorem dX4_greatestBeside_50 : decode cX4_greatestBeside 50 = .ok (.istore_n 2, 1) := by decide +kernel
theorem dX4_greatestBeside_51 : decode cX4_greatestBeside 51 = .ok (.iinc 4 1, 3) := by decide +kernel
theorem dX4_greatestBeside_54 : decode cX4_greatestBeside 54 = .ok (.goto (-46), 3) := by decide +kernel
theorem dX4_greatestBeside_57 : decode cX4_greatestBeside 57 = .ok (.iload_n 2, 1) := by decide +kernel
theorem dX4_greatestBeside_58 : decode cX4_greatestBeside 58 = .ok (.ireturn, 1) := by decide +kernel
theorem dX5_team_0 : decode cX5_team 0 = .ok (.aload_n 0, 1) := by decide +kernel
theorem dX5_team_1 : decode cX5_team 1 = .ok (.iconst 0, 1) := by decide +kernel
theorem dX5_team_2 : decode cX5_team 2 = .ok (.putfield 61, 3) := by decide +kernel
theorem dX5_team_5 : decode cX5_team 5 = .ok (.iload_n 1, 1) := by decide +kernel
theorem dX5_team_6 : decode cX5_team 6 = .ok (.invokestatic 76, 3) := by decide +kernel
theorem dX5_team_9 : decode cX5_team 9 = .ok (.ifCond .eq 15, 3) := by decide +kernel
theorem dX5_team_12 : decode cX5_team 12 = .ok (.iload_n 2, 1) := by decide +kernel
theorem dX5_team_13 : decode cX5_team 13 = .ok (.iconst 0, 1) := by decide +kernel
theorem dX5_team_14 : decode cX5_team 14 = .ok (.aload_n 0, 1) := by decide +kernel
theorem dX5_team_15 : decode cX5_team 15 = .ok (.invokevirtual 64, 3) := by decide +kernel
theorem dX5_team_18 : decode cX5_team 18 = .ok (.invokestatic 68, 3) := by decide +kernel
theorem dX5_team_21 : decode cX5_team 21 = .ok (.ifCond .ne 5, 3) := by decide +kernel
theorem dX5_team_24 : decode cX5_team 24 = .ok (.iconst (-1), 1) := by decide +kernel
theorem dX5_team_25 : decode cX5_team 25 = .ok (.ireturn, 1) := by decide +kernel
theorem dX5_team_26 : decode cX5_team 26 = .ok (.iconst 0, 1) := by decide +kernel
theorem dX5_team_27 : decode cX5_team 27 = .ok (.istore_n 3, 1) := by decide +kernel
theorem dX5_team_28 : decode cX5_team 28 = .ok (.iconst 0, 1) := by decide +kernel
theorem dX5_team_29 : decode cX5_team 29 = .ok (.istore 4, 2) := by decide +kernel
theorem dX5_team_31 : decode cX5_team 31 = .ok (.iload 4, 2) := by decide +kernel
theorem dX5_team_33 : decode cX5_team 33 = .ok (.iload_n 2, 1) := by decide +kernel
theorem dX5_team_34 : decode cX5_team 34 = .ok (.if_icmp .ge 73, 3) := by decide +kernel
theorem dX5_team_37 : decode cX5_team 37 = .ok (.iconst (-1), 1) := by decide +kernel
theorem dX5_team_38 : decode cX5_team 38 = .ok (.istore 5, 2) := by decide +kernel
theorem dX5_team_40 : decode cX5_team 40 = .ok (.iconst 0, 1) := by decide +kernel
theorem dX5_team_41 : decode cX5_team 41 = .ok (.istore 6, 2) := by decide +kernel
theorem dX5_team_43 : decode cX5_team 43 = .ok (.iload 6, 2) := by decide +kernel
theorem dX5_team_45 : decode cX5_team 45 = .ok (.aload_n 0, 1) := by decide +kernel
theorem dX5_team_46 : decode cX5_team 46 = .ok (.invokevirtual 64, 3) := by decide +kernel
theorem dX5_team_49 : decode cX5_team 49 = .ok (.if_icmp .ge 45, 3) := by decide +kernel
theorem dX5_team_52 : decode cX5_team 52 = .ok (.iload_n 3, 1) := by decide +kernel
theorem dX5_team_53 : decode cX5_team 53 = .ok (.iload 6, 2) := by decide +kernel
theorem dX5_team_55 : decode cX5_team 55 = .ok (.ishr, 1) := by decide +kernel
theorem dX5_team_56 : decode cX5_team 56 = .ok (.iconst 1, 1) := by decide +kernel
theorem dX5_team_57 : decode cX5_team 57 = .ok (.iand, 1) := by decide +kernel
theorem dX5_team_58 : decode cX5_team 58 = .ok (.ifCond .ne 30, 3) := by decide +kernel
theorem dX5_team_61 : decode cX5_team 61 = .ok (.iload 5, 2) := by decide +kernel
theorem dX5_team_63 : decode cX5_team 63 = .ok (.iconst (-1), 1) := by decide +kernel
theorem dX5_team_64 : decode cX5_team 64 = .ok (.if_icmp .eq 20, 3) := by decide +kernel
theorem dX5_team_67 : decode cX5_team 67 = .ok (.aload_n 0, 1) := by decide +kernel
theorem dX5_team_68 : decode cX5_team 68 = .ok (.iload 6, 2) := by decide +kernel
theorem dX5_team_70 : decode cX5_team 70 = .ok (.iload_n 1, 1) := by decide +kernel
theorem dX5_team_71 : decode cX5_team 71 = .ok (.invokevirtual 200, 3) := by decide +kernel
theorem dX5_team_74 : decode cX5_team 74 = .ok (.aload_n 0, 1) := by decide +kernel
theorem dX5_team_75 : decode cX5_team 75 = .ok (.iload 5, 2) := by decide +kernel
theorem dX5_team_77 : decode cX5_team 77 = .ok (.iload_n 1, 1) := by decide +kernel
theorem dX5_team_78 : decode cX5_team 78 = .ok (.invokevirtual 200, 3) := by decide +kernel
theorem dX5_team_81 : decode cX5_team 81 = .ok (.if_icmp .le 7, 3) := by decide +kernel
theorem dX5_team_84 : decode cX5_team 84 = .ok (.iload 6, 2) := by decide +kernel
theorem dX5_team_86 : decode cX5_team 86 = .ok (.istore 5, 2) := by decide +kernel
theorem dX5_team_88 : decode cX5_team 88 = .ok (.iinc 6 1, 3) := by decide +kernel
theorem dX5_team_91 : decode cX5_team 91 = .ok (.goto (-48), 3) := by decide +kernel
theorem dX5_team_94 : decode cX5_team 94 = .ok (.iload_n 3, 1) := by decide +kernel
theorem dX5_team_95 : decode cX5_team 95 = .ok (.iconst 1, 1) := by decide +kernel
theorem dX5_team_96 : decode cX5_team 96 = .ok (.iload 5, 2) := by decide +kernel
theorem dX5_team_98 : decode cX5_team 98 = .ok (.ishl, 1) := by decide +kernel
theorem dX5_team_99 : decode cX5_team 99 = .ok (.ior, 1) := by decide +kernel
theorem dX5_team_100 : decode cX5_team 100 = .ok (.istore_n 3, 1) := by decide +kernel
theorem dX5_team_101 : decode cX5_team 101 = .ok (.iinc 4 1, 3) := by decide +kernel
theorem dX5_team_104 : decode cX5_team 104 = .ok (.goto (-73), 3) := by decide +kernel
theorem dX5_team_107 : decode cX5_team 107 = .ok (.iload_n 3, 1) := by decide +kernel
theorem dX5_team_108 : decode cX5_team 108 = .ok (.ireturn, 1) := by decide +kernel

theorem s_bound {p : sP} (hs : sOk p.1) (hl : ∀ k, k < 70 → ∃ v, v ≤ 300 ∧ p.2.1 k = nI v) (hf : ∃ v, v ≤ 9999 ∧ p.2.2.2.1 = nI v) (ht : ∃ v, v ≤ 9999 ∧ p.2.2.2.2 = nI v) : ∀ k, k ≤ 70 → ∃ F T, sFit p k = nI F ∧ sTir p k = nI T ∧ F ≤ 9999 + 9000 * k ∧ T ≤ 9999 + 9000 * k := by
  obtain ⟨al, -, hal, e6⟩ := sOk_n hs (k := 6) (a := 0) (b := 2100) (by omega) (by decide +kernel) (by decide +kernel) (by decide) (by decide)
  obtain ⟨cm, -, hcm, e7⟩ := sOk_n hs (k := 7) (a := 100) (b := 300) (by omega) (by decide +kernel) (by decide +kernel) (by decide) (by decide)
  obtain ⟨z0, q0, r0, e0⟩ := sOk_n hs (k := 0) (a := 2) (b := 99) (by omega) (by decide +kernel) (by decide +kernel) (by decide) (by decide)
  obtain ⟨z1, q1, r1, e1⟩ := sOk_n hs (k := 1) (a := 2) (b := 99) (by omega) (by decide +kernel) (by decide +kernel) (by decide) (by decide)
  have key : ∀ k, k ≤ 70 → ∃ S W F T, sSum p k = nI S ∧ sSum p (k - k % 7) = nI W ∧ W ≤ S ∧ S - W ≤ al ∧ sFit p k = nI F ∧ sTir p k = nI T ∧ S ≤ 900 * k ∧ F ≤ 9999 + 9000 * k ∧ T ≤ 9999 + 9000 * k := by
    intro k
    induction k with
    | zero =>
      intro _
      obtain ⟨v, hv, ev⟩ := hf
      obtain ⟨w, hw, ew⟩ := ht
      exact ⟨0, 0, v, w, rfl, rfl, by omega, by omega, ev, ew, by omega, by omega, by omega⟩
    | succ k ih =>
      intro hk
      obtain ⟨S, W, F, T, h1, h2, h3, h4, h5, h6, h7, h8, h9⟩ := ih (by omega)
      have hL : ∃ L, sLoad p k = nI L ∧ L ≤ 900 ∧ L ≤ al - (S - W) := by
        obtain ⟨v, hv, ev⟩ := hl k (by omega)
        have hX : ∃ X, (if p.2.2.1 k = true then p.2.1 k * p.1 7 / nI 100 else p.2.1 k) = nI X ∧ X ≤ 900 := by
          have hm : v * cm ≤ 300 * 300 := Nat.mul_le_mul hv hcm
          split
          · refine ⟨v * cm / 100, ?_, by omega⟩
            rw [ev, e7, nI_mul, nI_div (by omega) (by decide)]
          · exact ⟨v, ev, by omega⟩
        obtain ⟨X, eX, hX⟩ := hX
        have e : sLoad p k = if k < sHl p k then nI 0 else if p.1 6 - (sSum p k - sSum p (k - k % 7)) < (if p.2.2.1 k = true then p.2.1 k * p.1 7 / nI 100 else p.2.1 k) then p.1 6 - (sSum p k - sSum p (k - k % 7)) else (if p.2.2.1 k = true then p.2.1 k * p.1 7 / nI 100 else p.2.1 k) := rfl
        rw [eX, e6, h1, h2, nI_sub h3, nI_sub h4] at e
        rw [e]
        split
        · exact ⟨0, rfl, by omega, by omega⟩
        · split
          · rename_i hlt
            rw [nI_lt_iff (by omega) (by omega)] at hlt
            exact ⟨_, rfl, by omega, by omega⟩
          · rename_i hlt
            rw [nI_lt_iff (by omega) (by omega)] at hlt
            exact ⟨_, rfl, by omega, by omega⟩
      obtain ⟨L, eL, hL1, hL2⟩ := hL
      have hd0 : F / z0 ≤ F := Nat.div_le_self _ _
      have hd1 : T / z1 ≤ T := Nat.div_le_self _ _
      have hF1 : F - F / z0 ≤ F := Nat.sub_le _ _
      have hT1 : T - T / z1 ≤ T := Nat.sub_le _ _
      have eS : sSum p (k + 1) = nI (S + L) := by rw [sSum_s, h1, eL, nI_add]
      have eF : sFit p (k + 1) = nI (F - F / z0 + 10 * L) := by rw [sFit_s, h5, e0, eL, nI_div (by omega) (by omega), nI_sub hd0, nI_mul, nI_add]
      have eT : sTir p (k + 1) = nI (T - T / z1 + 10 * L) := by rw [sTir_s, h6, e1, eL, nI_div (by omega) (by omega), nI_sub hd1, nI_mul, nI_add]
      generalize F - F / z0 = F1 at *
      generalize T - T / z1 = T1 at *
      by_cases h7m : (k + 1) % 7 = 0
      · exact ⟨S + L, S + L, _, _, eS, by rw [h7m]; exact eS, by omega, by omega, eF, eT, by omega, by omega, by omega⟩
      · refine ⟨S + L, W, _, _, eS, ?_, by omega, by omega, eF, eT, by omega, by omega, by omega⟩
        rw [show k + 1 - (k + 1) % 7 = k - k % 7 by omega]; exact h2
  intro k hk
  obtain ⟨S, W, F, T, h1, h2, h3, h4, h5, h6, h7, h8, h9⟩ := key k hk
  exact ⟨F, T, h5, h6, h8, h9⟩
theorem form_gt {p : sP} (hs : sOk p.1) (hl : ∀ k, k < 70 → ∃ v, v ≤ 300 ∧ p.2.1 k = nI v) (hf : ∃ v, v ≤ 9999 ∧ p.2.2.2.1 = nI v) (ht : ∃ v, v ≤ 9999 ∧ p.2.2.2.2 = nI v) {e : Nat} (he : e < 70) : (-1000000000 : Int32) < sForm p e := by
  have h70 : 9999 + 9000 * (e + 1) ≤ 639999 := by clear hs hl hf ht; omega
  obtain ⟨F, T, h1, h2, h3, h4⟩ := s_bound hs hl hf ht (e + 1) (by omega)
  have hF9 : F ≤ 639999 := Nat.le_trans h3 h70
  have hT9 : T ≤ 639999 := Nat.le_trans h4 h70
  clear h3 h4 h70
  obtain ⟨z2, -, r2, e2⟩ := sOk_n hs (k := 2) (a := 1) (b := 9) (by omega) (by decide +kernel) (by decide +kernel) (by decide) (by decide)
  obtain ⟨z3, -, r3, e3⟩ := sOk_n hs (k := 3) (a := 1) (b := 9) (by omega) (by decide +kernel) (by decide +kernel) (by decide) (by decide)
  have e : sForm p e = nI (z2 * F) - nI (z3 * T) := by
    simp only [sForm]
    rw [h1, h2, e2, e3, nI_mul, nI_mul]
  have m2 : z2 * F ≤ 5759991 := by have := Nat.mul_le_mul r2 hF9; omega
  have m3 : z3 * T ≤ 5759991 := by have := Nat.mul_le_mul r3 hT9; omega
  rw [e, Int32.lt_iff_toInt_lt, Int32.toInt_sub, nI_toInt (by omega), nI_toInt (by omega)]
  have e9 : (-1000000000 : Int32).toInt = -1000000000 := by decide
  rw [e9]
  have : ((z2 * F : Nat) : Int) - ((z3 * T : Nat) : Int) ≥ -5759991 ∧ ((z2 * F : Nat) : Int) - ((z3 * T : Nat) : Int) ≤ 5759991 := by omega
  rw [Int.bmod_eq_of_le (by omega) (by omega)]
  omega
theorem okB.gt {f : Nat → Int32} {n c g e : Nat} (h : okB f n c) (hg : g < n) (he : e < 70) : (-1000000000 : Int32) < sForm (pQ f g c (-1)) e := by
  obtain ⟨h1, h2, h3, h4, h5, h6, h7, h8, h9⟩ := id h
  refine form_gt h5 (fun k hk => ?_) (h9 g hg).1 (h9 g hg).2.1 he
  obtain ⟨j, hj, ej⟩ := (h9 g hg).2.2 k hk
  obtain ⟨v, hv, e⟩ := h6 j hj
  refine ⟨v, hv, ?_⟩
  show f (f (40 + 70 * g + k)).toNatClampNeg = _
  rw [ej, nI_clamp (by omega)]; exact e
/-- the greatest of the first m that isn't chosen -/
def tmP (F : Nat → Int32) (s : Nat) : Nat → Option Nat
  | 0 => none
  | m + 1 => if s.testBit m = true then tmP F s m else match tmP F s m with
    | none => some m
    | some b => if F b < F m then some m else some b
def tmG (F : Nat → Int32) (o : Option Nat) : Int32 := match o with
  | none => -1000000000
  | some b => F b
def tmV (o : Option Nat) : Int32 := match o with
  | none => -1
  | some b => nI b
theorem tmP_lt (F : Nat → Int32) (s : Nat) : ∀ m b, tmP F s m = some b → b < m ∧ s.testBit b = false := by
  intro m
  induction m with
  | zero => intro b h; cases h
  | succ m ih =>
    intro b h
    simp only [tmP] at h
    by_cases hb : s.testBit m = true
    · rw [if_pos hb] at h
      exact ⟨by have := (ih b h).1; omega, (ih b h).2⟩
    · rw [if_neg hb] at h
      have hb := Bool.not_eq_true _ ▸ hb
      cases hc : tmP F s m with
      | none =>
        rw [hc] at h
        have h : m = b := Option.some.inj h
        subst h; exact ⟨by omega, hb⟩
      | some a =>
        rw [hc] at h
        have h : (if F a < F m then some m else some a) = some b := h
        by_cases hx : F a < F m
        · rw [if_pos hx] at h
          have h : m = b := Option.some.inj h
          subst h; exact ⟨by omega, hb⟩
        · rw [if_neg hx] at h
          have h : a = b := Option.some.inj h
          subst h; exact ⟨by have := (ih a hc).1; omega, (ih a hc).2⟩
theorem tmP_some (F : Nat → Int32) (s : Nat) {i : Nat} (hi : s.testBit i = false) : ∀ m, i < m → ∃ b, tmP F s m = some b := by
  intro m
  induction m with
  | zero => intro h; exact absurd h (Nat.not_lt_zero i)
  | succ m ih =>
    intro h
    simp only [tmP]
    by_cases hb : s.testBit m = true
    · rw [if_pos hb]
      refine ih ?_
      by_cases e : i = m
      · subst e; rw [hi] at hb; cases hb
      · omega
    · rw [if_neg hb]
      cases hc : tmP F s m with
      | none => exact ⟨m, rfl⟩
      | some a =>
        show ∃ b, (if F a < F m then some m else some a) = some b
        by_cases hx : F a < F m
        · exact ⟨m, if_pos hx⟩
        · exact ⟨a, if_neg hx⟩
def cn6 (s : Nat) : Nat := cntB (fun i => s.testBit i) 6
theorem bit_get : ∀ s, s < 64 → ∀ m, m < 6 → (nI s >>> (nI m &&& 31)) &&& nI 1 = bI (s.testBit m) := by decide +kernel
theorem bit_set : ∀ s, s < 64 → ∀ m, m < 6 → nI s ||| (nI 1 <<< (nI m &&& 31)) = nI (s ||| 2 ^ m) := by decide +kernel
theorem bit_lt : ∀ s, s < 64 → ∀ m, m < 6 → s ||| 2 ^ m < 64 := by decide +kernel
theorem bit_cn : ∀ s, s < 64 → ∀ m, m < 6 → s.testBit m = false → cn6 (s ||| 2 ^ m) = cn6 s + 1 := by decide +kernel
theorem bit_ex : ∀ s, s < 64 → ∀ n, n < 7 → cn6 s < n → ∃ i, i < n ∧ s.testBit i = false := by decide +kernel
/-- who is chosen -/
def tmS (F : Nat → Int32) (n : Nat) : Nat → Nat
  | 0 => 0
  | i + 1 => tmS F n i ||| 2 ^ ((tmP F (tmS F n i) n).getD 0)
theorem tmS_ok (F : Nat → Int32) {n : Nat} (hn : n ≤ 6) : ∀ i, i ≤ n → tmS F n i < 64 ∧ cn6 (tmS F n i) = i := by
  intro i
  induction i with
  | zero => intro _; show 0 < 64 ∧ cn6 0 = 0; exact ⟨by decide, by decide +kernel⟩
  | succ i ih =>
    intro hi
    obtain ⟨h1, h2⟩ := ih (by omega)
    obtain ⟨j, hj, e⟩ := bit_ex _ h1 n (by omega) (by omega)
    obtain ⟨b, hb⟩ := tmP_some F _ e n hj
    obtain ⟨hb1, hb2⟩ := tmP_lt F _ n b hb
    simp only [tmS]
    rw [hb]
    show tmS F n i ||| 2 ^ b < 64 ∧ cn6 (tmS F n i ||| 2 ^ b) = i + 1
    exact ⟨bit_lt _ h1 b (by omega), by rw [bit_cn _ h1 b (by omega) hb2, h2]⟩
section QF
variable {G : mG} {d n c : Nat} {σ : mS}

theorem v_greatest {e s : Nat} {τ : mS} (hn : τ 4 0 = nI n) (hn6 : n ≤ 6) (hs : s < 64) (hF : ∀ i, i < n → τ 51 i = (fun i => sForm (pQ (σ 117) i c (-1)) e) i) (hgt : ∀ i, i < n → (-1000000000) < (fun i => sForm (pQ (σ 117) i c (-1)) e) i) : mV G mX4_greatestBeside d [.ref 3, .int (nI s)] τ (some (.int (nI ((tmP (fun i => sForm (pQ (σ 117) i c (-1)) e) s n).getD 0)))) τ := by
  refine mV_of fun Q hQ => ?_
  have hl : ∀ m, m ≤ n → mF G mX4_greatestBeside d 8 [some (.ref 3), some (.int (nI s)), some (.int (nI ((tmP (fun i => sForm (pQ (σ 117) i c (-1)) e) s m).getD 0))), some (.int (tmG (fun i => sForm (pQ (σ 117) i c (-1)) e) (tmP (fun i => sForm (pQ (σ 117) i c (-1)) e) s m))), some (.int (nI m))] [] τ Q := by
    refine loopUp n (fun m hm ih => ?_)
    have eP : tmP (fun i => sForm (pQ (σ 117) i c (-1)) e) s (m + 1) = if s.testBit m = true then (tmP (fun i => sForm (pQ (σ 117) i c (-1)) e) s m) else match (tmP (fun i => sForm (pQ (σ 117) i c (-1)) e) s m) with
      | none => some m
      | some b => if (fun i => sForm (pQ (σ 117) i c (-1)) e) b < (fun i => sForm (pQ (σ 117) i c (-1)) e) m then some m else some b := rfl
    refine F_iload dX4_greatestBeside_8 rfl ?_
    refine F_aload_n dX4_greatestBeside_10 rfl ?_
    refine F_getr dX4_greatestBeside_11 rfl rfl (by first | assumption | rfl) rfl ?_
    refine F_getE (v := nI n) dX4_greatestBeside_14 rfl rfl (by first | assumption | rfl) rfl hn ?_
    refine F_icmp_geN (tgt := 57) dX4_greatestBeside_17 rfl (by omega) (by omega) (fun c17 => ?_) (fun c17 => ?_)
    · refine F_iload_n dX4_greatestBeside_57 rfl ?_
      refine F_iret dX4_greatestBeside_58 rfl ?_
      have e1 : m = n := by omega
      subst e1
      exact hQ
    · refine F_iload_n dX4_greatestBeside_20 rfl ?_
      refine F_iload dX4_greatestBeside_21 rfl ?_
      refine F_ishr dX4_greatestBeside_23 ?_
      refine F_iconst (v := nI 1) dX4_greatestBeside_24 rfl ?_
      refine F_iand dX4_greatestBeside_25 ?_
      refine F_top (y := bI (s.testBit m)) (bit_get s hs m (by omega)) ?_
      refine F_if_neB (tgt := 51) dX4_greatestBeside_26 rfl (fun c26 => ?_) (fun c26 => ?_)
      · refine F_iincN dX4_greatestBeside_51 rfl ?_
        refine F_goto (tgt := 8) dX4_greatestBeside_54 rfl ?_
        have ih := ih (by omega)
        first
          | (rw [if_pos c26] at eP
             rw [eP] at ih
             exact ih)
          | (rw [if_neg (by rw [c26]; decide)] at eP
             cases hc : (tmP (fun i => sForm (pQ (σ 117) i c (-1)) e) s m) with
             | none =>
               rw [hc] at eP c37
               have eP : tmP (fun i => sForm (pQ (σ 117) i c (-1)) e) s (m + 1) = some m := eP
               first
                 | exact absurd c37 (Int32.not_le.mpr (hgt m (by omega)))
                 | (rw [eP] at ih
                    exact ih)
             | some b =>
               rw [hc] at eP c37
               have eP : tmP (fun i => sForm (pQ (σ 117) i c (-1)) e) s (m + 1) = if (fun i => sForm (pQ (σ 117) i c (-1)) e) b < (fun i => sForm (pQ (σ 117) i c (-1)) e) m then some m else some b := eP
               first
                 | (rw [if_neg (show ¬ (fun i => sForm (pQ (σ 117) i c (-1)) e) b < (fun i => sForm (pQ (σ 117) i c (-1)) e) m from Int32.not_lt.mpr c37)] at eP
                    rw [eP] at ih
                    exact ih)
                 | (rw [if_pos (show (fun i => sForm (pQ (σ 117) i c (-1)) e) b < (fun i => sForm (pQ (σ 117) i c (-1)) e) m from Int32.not_le.mp c37)] at eP
                    rw [eP] at ih
                    exact ih))
      · refine F_aload_n dX4_greatestBeside_29 rfl ?_
        refine F_getr dX4_greatestBeside_30 rfl rfl (by first | assumption | rfl) rfl ?_
        refine F_iload dX4_greatestBeside_33 rfl ?_
        refine F_ialdE (v := (fun i => sForm (pQ (σ 117) i c (-1)) e) m) dX4_greatestBeside_35 (by first | assumption | rfl) (by decide) (by omega) (hF m (by omega)) ?_
        refine F_iload_n dX4_greatestBeside_36 rfl ?_
        refine F_icmp_le (tgt := 51) dX4_greatestBeside_37 rfl (fun c37 => ?_) (fun c37 => ?_)
        · refine F_iincN dX4_greatestBeside_51 rfl ?_
          refine F_goto (tgt := 8) dX4_greatestBeside_54 rfl ?_
          have ih := ih (by omega)
          first
            | (rw [if_pos c26] at eP
               rw [eP] at ih
               exact ih)
            | (rw [if_neg (by rw [c26]; decide)] at eP
               cases hc : (tmP (fun i => sForm (pQ (σ 117) i c (-1)) e) s m) with
               | none =>
                 rw [hc] at eP c37
                 have eP : tmP (fun i => sForm (pQ (σ 117) i c (-1)) e) s (m + 1) = some m := eP
                 first
                   | exact absurd c37 (Int32.not_le.mpr (hgt m (by omega)))
                   | (rw [eP] at ih
                      exact ih)
               | some b =>
                 rw [hc] at eP c37
                 have eP : tmP (fun i => sForm (pQ (σ 117) i c (-1)) e) s (m + 1) = if (fun i => sForm (pQ (σ 117) i c (-1)) e) b < (fun i => sForm (pQ (σ 117) i c (-1)) e) m then some m else some b := eP
                 first
                   | (rw [if_neg (show ¬ (fun i => sForm (pQ (σ 117) i c (-1)) e) b < (fun i => sForm (pQ (σ 117) i c (-1)) e) m from Int32.not_lt.mpr c37)] at eP
                      rw [eP] at ih
                      exact ih)
                   | (rw [if_pos (show (fun i => sForm (pQ (σ 117) i c (-1)) e) b < (fun i => sForm (pQ (σ 117) i c (-1)) e) m from Int32.not_le.mp c37)] at eP
                      rw [eP] at ih
                      exact ih))
        · refine F_aload_n dX4_greatestBeside_40 rfl ?_
          refine F_getr dX4_greatestBeside_41 rfl rfl (by first | assumption | rfl) rfl ?_
          refine F_iload dX4_greatestBeside_44 rfl ?_
          refine F_ialdE (v := (fun i => sForm (pQ (σ 117) i c (-1)) e) m) dX4_greatestBeside_46 (by first | assumption | rfl) (by decide) (by omega) (hF m (by omega)) ?_
          refine F_istore_n dX4_greatestBeside_47 (Nat.le_of_ble_eq_true rfl) ?_
          refine F_iload dX4_greatestBeside_48 rfl ?_
          refine F_istore_n dX4_greatestBeside_50 (Nat.le_of_ble_eq_true rfl) ?_
          refine F_iincN dX4_greatestBeside_51 rfl ?_
          refine F_goto (tgt := 8) dX4_greatestBeside_54 rfl ?_
          have ih := ih (by omega)
          first
            | (rw [if_pos c26] at eP
               rw [eP] at ih
               exact ih)
            | (rw [if_neg (by rw [c26]; decide)] at eP
               cases hc : (tmP (fun i => sForm (pQ (σ 117) i c (-1)) e) s m) with
               | none =>
                 rw [hc] at eP c37
                 have eP : tmP (fun i => sForm (pQ (σ 117) i c (-1)) e) s (m + 1) = some m := eP
                 first
                   | exact absurd c37 (Int32.not_le.mpr (hgt m (by omega)))
                   | (rw [eP] at ih
                      exact ih)
               | some b =>
                 rw [hc] at eP c37
                 have eP : tmP (fun i => sForm (pQ (σ 117) i c (-1)) e) s (m + 1) = if (fun i => sForm (pQ (σ 117) i c (-1)) e) b < (fun i => sForm (pQ (σ 117) i c (-1)) e) m then some m else some b := eP
                 first
                   | (rw [if_neg (show ¬ (fun i => sForm (pQ (σ 117) i c (-1)) e) b < (fun i => sForm (pQ (σ 117) i c (-1)) e) m from Int32.not_lt.mpr c37)] at eP
                      rw [eP] at ih
                      exact ih)
                   | (rw [if_pos (show (fun i => sForm (pQ (σ 117) i c (-1)) e) b < (fun i => sForm (pQ (σ 117) i c (-1)) e) m from Int32.not_le.mp c37)] at eP
                      rw [eP] at ih
                      exact ih))
  refine F_iconst (v := nI 0) dX4_greatestBeside_0 rfl ?_
  refine F_istore_n dX4_greatestBeside_1 (Nat.le_of_ble_eq_true rfl) ?_
  refine F_ldc dX4_greatestBeside_2 rfl rfl ?_
  refine F_istore_n dX4_greatestBeside_4 (Nat.le_of_ble_eq_true rfl) ?_
  refine F_iconst (v := nI 0) dX4_greatestBeside_5 rfl ?_
  refine F_istore dX4_greatestBeside_6 (Nat.le_of_ble_eq_true rfl) ?_
  exact hl 0 (by omega)

theorem b_teamA (hq : QR σ n c) {e k : Int32} (h : (dB e && inR k (nI 0) (nI n)) = false) : Ask G mX4_team [.ref 3, .int e, .int k] (-1) σ := by
  have hn := hq.1.2.1
  have h23 := hq.1.1.2.2.1
  have hn6 := hq.1.1.1
  refine ⟨σ, mV_of fun Q hQ => ?_, Fr.rfl hq⟩
  refine F_iload_n dX4_team_0 rfl ?_
  refine F_cS1i (v_bIsDay (d := 10) _) dX4_team_1 rfl rfl rfl (by decide) (Nat.le_of_ble_eq_true rfl) (by omega) ?_
  refine F_if_eqB (tgt := 22) dX4_team_4 rfl (fun c4 => ?_) (fun c4 => ?_)
  · refine F_iconst (v := (-1)) dX4_team_22 rfl ?_
    refine F_iret dX4_team_23 rfl ?_
    exact hQ
  · refine F_iload_n dX4_team_7 rfl ?_
    refine F_if_lt (tgt := 22) dX4_team_8 rfl (fun c8 => ?_) (fun c8 => ?_)
    · refine F_iconst (v := (-1)) dX4_team_22 rfl ?_
      refine F_iret dX4_team_23 rfl ?_
      exact hQ
    · refine F_iload_n dX4_team_11 rfl ?_
      refine F_aload_n dX4_team_12 rfl ?_
      refine F_getr dX4_team_13 rfl rfl (by first | assumption | rfl) rfl ?_
      refine F_getE (v := nI n) dX4_team_16 rfl rfl (by first | assumption | rfl) rfl hn ?_
      refine F_icmp_le (tgt := 24) dX4_team_19 rfl (fun c19 => ?_) (fun c19 => ?_)
      · exfalso
        rw [lt0_iff, Decidable.not_not] at c8
        rw [c4, inR, decide_eq_true c8, decide_eq_true c19] at h
        cases h
      · refine F_iconst (v := (-1)) dX4_team_22 rfl ?_
        refine F_iret dX4_team_23 rfl ?_
        exact hQ

theorem m_teamA (hq : QR σ n c) {e k : Int32} (h : (dB e && inR k (nI 0) (nI n)) = false) : Ask G mX5_team [.ref 116, .int e, .int k] (-1) σ := by
  have hn := hq.1.2.1
  have h23 := hq.1.1.2.2.1
  have hn6 := hq.1.1.1
  have hq1 := (Fr.thrown hq (nI 0)).qr hq
  refine ⟨(up σ 116 0 (nI 0)), mV_of fun Q hQ => ?_, Fr.thrown hq _⟩
  refine F_aload_n dX5_team_0 rfl ?_
  refine F_iconst (v := nI 0) dX5_team_1 rfl ?_
  refine F_put dX5_team_2 rfl rfl (by first | assumption | rfl) rfl rfl rfl rfl ?_
  refine F_iload_n dX5_team_5 rfl ?_
  refine F_cS1i (v_isDay (d := 5) _) dX5_team_6 rfl rfl rfl (by decide) (Nat.le_of_ble_eq_true rfl) (by omega) ?_
  refine F_if_eqB (tgt := 24) dX5_team_9 rfl (fun c9 => ?_) (fun c9 => ?_)
  · refine F_iconst (v := (-1)) dX5_team_24 rfl ?_
    refine F_iret dX5_team_25 rfl ?_
    exact hQ
  · refine F_iload_n dX5_team_12 rfl ?_
    refine F_iconst (v := nI 0) dX5_team_13 rfl ?_
    refine F_aload_n dX5_team_14 rfl ?_
    refine F_cV0i (v_groups (d := 5)) dX5_team_15 rfl rfl (by decide) (by first | assumption | rfl) rfl rfl rfl (by decide) (Nat.le_of_ble_eq_true rfl) (by omega) ?_
    refine F_cS3i (v_isIn (d := 5) _ _ _) dX5_team_18 rfl rfl rfl (by decide) (Nat.le_of_ble_eq_true rfl) (by omega) ?_
    refine F_if_neB (tgt := 26) dX5_team_21 rfl (fun c21 => ?_) (fun c21 => ?_)
    · exfalso
      rw [show (up σ 116 0 (nI 0)) 117 23 = nI n from h23] at c21
      rw [c9, c21] at h
      cases h
    · refine F_iconst (v := (-1)) dX5_team_24 rfl ?_
      refine F_iret dX5_team_25 rfl ?_
      exact hQ

theorem l_bteam1 (hq : QR σ n c) {e k : Nat} (he : e < 70) : ∀ q m τ, m + q = n → Fr σ τ → (∀ i, i < m → τ 51 i = (fun i => sForm (pQ (σ 117) i c (-1)) e) i) → ∃ υ, Fr σ υ ∧ (∀ i, i < n → υ 51 i = (fun i => sForm (pQ (σ 117) i c (-1)) e) i) ∧ ∀ Q : Option Value → mS → Prop, mF G mX4_team 12 55 [some (.ref 3), some (.int (nI e)), some (.int (nI k)), some (.int (nI n)), none] [] υ Q → mF G mX4_team 12 26 [some (.ref 3), some (.int (nI e)), some (.int (nI k)), some (.int (nI m)), none] [] τ Q := by
  have hn6 := hq.1.1.1
  intro q
  induction q with
  | zero =>
    intro m τ hm hf hF
    have e1 : m = n := by omega
    subst e1
    have hn := (hf.qr hq).1.2.1
    refine ⟨τ, hf, hF, fun Q hQ => ?_⟩
    refine F_iload_n dX4_team_26 rfl ?_
    refine F_aload_n dX4_team_27 rfl ?_
    refine F_getr dX4_team_28 rfl rfl (by first | assumption | rfl) rfl ?_
    refine F_getE (v := nI m) dX4_team_31 rfl rfl (by first | assumption | rfl) rfl hn ?_
    refine F_icmp_geN (tgt := 55) dX4_team_34 rfl (by omega) (by omega) (fun c34 => ?_) (fun c34 => ?_)
    · exact hQ
    · exact absurd c34 (by omega)
  | succ q ih =>
    intro m τ hm hf hF
    have hqt := hf.qr hq
    have hn := hqt.1.2.1
    obtain ⟨τ2, hv, hL, hC, far⟩ := b_asTold (G := G) (g := m) hqt (by omega) he
    rw [hf.1 117 (by omega)] at hv
    have hf2 : Fr σ τ2 := hf.trans (q_frB (n := n) (c := c) (Or.inl rfl) hC far)
    have hf3 : Fr σ (up τ2 51 m ((fun i => sForm (pQ (σ 117) i c (-1)) e) m)) := ⟨fun a ha => by rw [up_n _ _ _ (by omega)]; exact hf2.1 a ha, hf2.2.1, hf2.2.2.1, hf2.2.2.2.1, hf2.2.2.2.2⟩
    obtain ⟨υ, h1, h2, h3⟩ := ih (m + 1) (up τ2 51 m ((fun i => sForm (pQ (σ 117) i c (-1)) e) m)) (by omega) hf3 (fun i hi => by
      by_cases ei : i = m
      · subst ei; exact up_s _ _ _ _
      · rw [up_r _ _ _ ei, far 51 (by omega)]; exact hF i (by omega))
    refine ⟨υ, h1, h2, fun Q hQ => ?_⟩
    have h3 := h3 Q hQ
    refine F_iload_n dX4_team_26 rfl ?_
    refine F_aload_n dX4_team_27 rfl ?_
    refine F_getr dX4_team_28 rfl rfl (by first | assumption | rfl) rfl ?_
    refine F_getE (v := nI n) dX4_team_31 rfl rfl (by first | assumption | rfl) rfl hn ?_
    refine F_icmp_geN (tgt := 55) dX4_team_34 rfl (by omega) (by omega) (fun c34 => ?_) (fun c34 => ?_)
    · exact absurd c34 (by omega)
    · refine F_aload_n dX4_team_37 rfl ?_
      refine F_getr dX4_team_38 rfl rfl (by first | assumption | rfl) rfl ?_
      refine F_iload_n dX4_team_41 rfl ?_
      refine F_aload_n dX4_team_42 rfl ?_
      refine F_iload_n dX4_team_43 rfl ?_
      refine F_iload_n dX4_team_44 rfl ?_
      refine F_cV2i (hv) dX4_team_45 rfl rfl (by decide) (by first | assumption | rfl) rfl rfl rfl (by decide) (Nat.le_of_ble_eq_true rfl) (by omega) ?_
      refine F_iast dX4_team_48 (by first | assumption | rfl) (by decide) (by omega) ?_
      refine F_iincN dX4_team_49 rfl ?_
      refine F_goto (tgt := 26) dX4_team_52 rfl ?_
      exact h3

theorem b_teamB (hq : QR σ n c) {e k : Nat} (he : e < 70) (hk : k ≤ n) : Ask G mX4_team [.ref 3, .int (nI e), .int (nI k)] (nI (tmS (fun i => sForm (pQ (σ 117) i c (-1)) e) n k)) σ := by
  have hn := hq.1.2.1
  have h23 := hq.1.1.2.2.1
  have hn6 := hq.1.1.1
  obtain ⟨υ, hf, hF, h3⟩ := l_bteam1 (G := G) (k := k) hq he n 0 σ (by omega) (Fr.rfl hq) (fun i hi => absurd hi (Nat.not_lt_zero i))
  have hn2 := (hf.qr hq).1.2.1
  refine ⟨υ, mV_of fun Q hQ => ?_, hf⟩
  refine F_iload_n dX4_team_0 rfl ?_
  refine F_cS1i (v_bIsDay (d := 10) _) dX4_team_1 rfl rfl rfl (by decide) (Nat.le_of_ble_eq_true rfl) (by omega) ?_
  refine F_if_eqB (tgt := 22) dX4_team_4 rfl (fun c4 => ?_) (fun c4 => ?_)
  · rw [dB_nI he] at c4
    cases c4
  · refine F_iload_n dX4_team_7 rfl ?_
    refine F_if_ltN (tgt := 22) dX4_team_8 rfl (by omega) ?_
    refine F_iload_n dX4_team_11 rfl ?_
    refine F_aload_n dX4_team_12 rfl ?_
    refine F_getr dX4_team_13 rfl rfl (by first | assumption | rfl) rfl ?_
    refine F_getE (v := nI n) dX4_team_16 rfl rfl (by first | assumption | rfl) rfl hn ?_
    refine F_icmp_leN (tgt := 24) dX4_team_19 rfl (by omega) (by omega) (fun c19 => ?_) (fun c19 => ?_)
    · refine F_iconst (v := nI 0) dX4_team_24 rfl ?_
      refine F_istore_n dX4_team_25 (Nat.le_of_ble_eq_true rfl) ?_
      refine h3 Q ?_
      have hl : ∀ i, i ≤ k → mF G mX4_team 12 60 [some (.ref 3), some (.int (nI e)), some (.int (nI k)), some (.int (nI (tmS (fun i => sForm (pQ (σ 117) i c (-1)) e) n i))), some (.int (nI i))] [] υ Q := by
        refine loopUp k (fun i hi ih => ?_)
        have hs := tmS_ok (fun i => sForm (pQ (σ 117) i c (-1)) e) hn6 i (by omega)
        have hlt : (tmP (fun i => sForm (pQ (σ 117) i c (-1)) e) (tmS (fun i => sForm (pQ (σ 117) i c (-1)) e) n i) n).getD 0 < 6 := by
          cases hc : tmP (fun i => sForm (pQ (σ 117) i c (-1)) e) (tmS (fun i => sForm (pQ (σ 117) i c (-1)) e) n i) n with
          | none => decide
          | some b => have := (tmP_lt _ _ _ _ hc).1; show b < 6; omega
        refine F_iload dX4_team_60 rfl ?_
        refine F_iload_n dX4_team_62 rfl ?_
        refine F_icmp_geN (tgt := 82) dX4_team_63 rfl (by omega) (by omega) (fun c63 => ?_) (fun c63 => ?_)
        · refine F_iload_n dX4_team_82 rfl ?_
          refine F_iret dX4_team_83 rfl ?_
          have e1 : i = k := by omega
          subst e1
          exact hQ
        · refine F_iload_n dX4_team_66 rfl ?_
          refine F_iconst (v := nI 1) dX4_team_67 rfl ?_
          refine F_aload_n dX4_team_68 rfl ?_
          refine F_iload_n dX4_team_69 rfl ?_
          refine F_cV1i (v_greatest (σ := σ) (c := c) (e := e) (d := 10) hn2 hn6 hs.1 hF (fun i hi => hq.1.1.gt hi he)) dX4_team_70 rfl rfl (by decide) (by first | assumption | rfl) rfl rfl rfl (by decide) (Nat.le_of_ble_eq_true rfl) (by omega) ?_
          refine F_ishl dX4_team_73 ?_
          refine F_ior dX4_team_74 ?_
          refine F_top (y := nI (tmS (fun i => sForm (pQ (σ 117) i c (-1)) e) n (i + 1))) (bit_set _ hs.1 _ hlt) ?_
          refine F_istore_n dX4_team_75 (Nat.le_of_ble_eq_true rfl) ?_
          refine F_iincN dX4_team_76 rfl ?_
          refine F_goto (tgt := 60) dX4_team_79 rfl ?_
          exact ih (by omega)
      refine F_iconst (v := nI 0) dX4_team_55 rfl ?_
      refine F_istore_n dX4_team_56 (Nat.le_of_ble_eq_true rfl) ?_
      refine F_iconst (v := nI 0) dX4_team_57 rfl ?_
      refine F_istore dX4_team_58 (Nat.le_of_ble_eq_true rfl) ?_
      exact hl 0 (by omega)
    · exact absurd hk c19

theorem l_mteam1 (hq : QR σ n c) {e k s i : Nat} (he : e < 70) (hs : s < 64) : ∀ q m τ, m + q = n → Fr σ τ → ∃ υ, Fr σ υ ∧ ∀ Q : Option Value → mS → Prop, mF G mX5_team 12 94 [some (.ref 116), some (.int (nI e)), some (.int (nI k)), some (.int (nI s)), some (.int (nI i)), some (.int (tmV (tmP (fun i => sForm (pQ (σ 117) i c (-1)) e) s n))), some (.int (nI n))] [] υ Q → mF G mX5_team 12 43 [some (.ref 116), some (.int (nI e)), some (.int (nI k)), some (.int (nI s)), some (.int (nI i)), some (.int (tmV (tmP (fun i => sForm (pQ (σ 117) i c (-1)) e) s m))), some (.int (nI m))] [] τ Q := by
  have hn6 := hq.1.1.1
  intro q
  induction q with
  | zero =>
    intro m τ hm hf
    have e1 : m = n := by omega
    subst e1
    have hn := (hf.qr hq).1.1.2.2.1
    refine ⟨τ, hf, fun Q hQ => ?_⟩
    refine F_iload dX5_team_43 rfl ?_
    refine F_aload_n dX5_team_45 rfl ?_
    refine F_cV0i (v_groups (d := 5)) dX5_team_46 rfl rfl (by decide) (by first | assumption | rfl) rfl rfl rfl (by decide) (Nat.le_of_ble_eq_true rfl) (by omega) ?_
    refine F_top (y := nI m) hn ?_
    refine F_icmp_geN (tgt := 94) dX5_team_49 rfl (by omega) (by omega) (fun c49 => ?_) (fun c49 => ?_)
    · exact hQ
    · exact absurd c49 (by omega)
  | succ q ih =>
    intro m τ hm hf
    have hqt := hf.qr hq
    have hn := hqt.1.1.2.2.1
    have h7 := hf.1 117 (by omega)
    have eP : tmP (fun i => sForm (pQ (σ 117) i c (-1)) e) s (m + 1) = if s.testBit m = true then (tmP (fun i => sForm (pQ (σ 117) i c (-1)) e) s m) else match (tmP (fun i => sForm (pQ (σ 117) i c (-1)) e) s m) with
      | none => some m
      | some b => if (fun i => sForm (pQ (σ 117) i c (-1)) e) b < (fun i => sForm (pQ (σ 117) i c (-1)) e) m then some m else some b := rfl
    by_cases hb : s.testBit m = true
    · obtain ⟨υ, h1, h3⟩ := ih (m + 1) τ (by omega) hf
      refine ⟨υ, h1, fun Q hQ => ?_⟩
      have h3 := h3 Q hQ
      rw [if_pos hb] at eP
      rw [eP] at h3
      refine F_iload dX5_team_43 rfl ?_
      refine F_aload_n dX5_team_45 rfl ?_
      refine F_cV0i (v_groups (d := 5)) dX5_team_46 rfl rfl (by decide) (by first | assumption | rfl) rfl rfl rfl (by decide) (Nat.le_of_ble_eq_true rfl) (by omega) ?_
      refine F_top (y := nI n) hn ?_
      refine F_icmp_geN (tgt := 94) dX5_team_49 rfl (by omega) (by omega) (fun c49 => ?_) (fun c49 => ?_)
      · exact absurd c49 (by omega)
      · refine F_iload_n dX5_team_52 rfl ?_
        refine F_iload dX5_team_53 rfl ?_
        refine F_ishr dX5_team_55 ?_
        refine F_iconst (v := nI 1) dX5_team_56 rfl ?_
        refine F_iand dX5_team_57 ?_
        refine F_top (y := bI (s.testBit m)) (bit_get s hs m (by omega)) ?_
        refine F_if_neB (tgt := 88) dX5_team_58 rfl (fun c58 => ?_) (fun c58 => ?_)
        · refine F_iincN dX5_team_88 rfl ?_
          refine F_goto (tgt := 43) dX5_team_91 rfl ?_
          exact h3
        · rw [hb] at c58
          cases c58
    · rw [if_neg hb] at eP
      have hb := Bool.not_eq_true _ ▸ hb
      cases hc : (tmP (fun i => sForm (pQ (σ 117) i c (-1)) e) s m) with
      | none =>
        rw [hc] at eP
        have eP : tmP (fun i => sForm (pQ (σ 117) i c (-1)) e) s (m + 1) = some m := eP
        obtain ⟨υ, h1, h3⟩ := ih (m + 1) τ (by omega) hf
        refine ⟨υ, h1, fun Q hQ => ?_⟩
        have h3 := h3 Q hQ
        rw [eP] at h3
        show mF G mX5_team 12 43 [some (.ref 116), some (.int (nI e)), some (.int (nI k)), some (.int (nI s)), some (.int (nI i)), some (.int (-1)), some (.int (nI m))] [] τ Q
        refine F_iload dX5_team_43 rfl ?_
        refine F_aload_n dX5_team_45 rfl ?_
        refine F_cV0i (v_groups (d := 5)) dX5_team_46 rfl rfl (by decide) (by first | assumption | rfl) rfl rfl rfl (by decide) (Nat.le_of_ble_eq_true rfl) (by omega) ?_
        refine F_top (y := nI n) hn ?_
        refine F_icmp_geN (tgt := 94) dX5_team_49 rfl (by omega) (by omega) (fun c49 => ?_) (fun c49 => ?_)
        · exact absurd c49 (by omega)
        · refine F_iload_n dX5_team_52 rfl ?_
          refine F_iload dX5_team_53 rfl ?_
          refine F_ishr dX5_team_55 ?_
          refine F_iconst (v := nI 1) dX5_team_56 rfl ?_
          refine F_iand dX5_team_57 ?_
          refine F_top (y := bI (s.testBit m)) (bit_get s hs m (by omega)) ?_
          refine F_if_neB (tgt := 88) dX5_team_58 rfl (fun c58 => ?_) (fun c58 => ?_)
          · rw [hb] at c58
            cases c58
          · refine F_iload dX5_team_61 rfl ?_
            refine F_iconst (v := (-1)) dX5_team_63 rfl ?_
            refine F_icmp_eq (tgt := 84) dX5_team_64 rfl (fun c64 => ?_) (fun c64 => ?_)
            · refine F_iload dX5_team_84 rfl ?_
              refine F_istore dX5_team_86 (Nat.le_of_ble_eq_true rfl) ?_
              refine F_iincN dX5_team_88 rfl ?_
              refine F_goto (tgt := 43) dX5_team_91 rfl ?_
              exact h3
            · exact absurd rfl c64
      | some b =>
        rw [hc] at eP
        have eP : tmP (fun i => sForm (pQ (σ 117) i c (-1)) e) s (m + 1) = if (fun i => sForm (pQ (σ 117) i c (-1)) e) b < (fun i => sForm (pQ (σ 117) i c (-1)) e) m then some m else some b := eP
        have hbm := (tmP_lt _ _ _ _ hc).1
        have nb : ¬ nI b = (-1 : Int32) := fun z => by
          have := congrArg Int32.toInt z
          rw [nI_toInt (by omega)] at this
          have e2 : (-1 : Int32).toInt = -1 := by decide
          omega
        obtain ⟨τ1, hv1, -, h71, hf1⟩ := q_formR (G := G) (d := 5) (g := m) (to := e) hqt (by omega) he
        obtain ⟨τ2, hv2, -, h72, hf2⟩ := q_formR (G := G) (d := 5) (g := b) (to := e) (hf1.qr hqt) (by omega) he
        rw [h71, h7] at hv2
        rw [h7] at hv1
        obtain ⟨υ, h1, h3⟩ := ih (m + 1) τ2 (by omega) (hf.trans (hf1.trans hf2))
        refine ⟨υ, h1, fun Q hQ => ?_⟩
        have h3 := h3 Q hQ
        show mF G mX5_team 12 43 [some (.ref 116), some (.int (nI e)), some (.int (nI k)), some (.int (nI s)), some (.int (nI i)), some (.int (nI b)), some (.int (nI m))] [] τ Q
        refine F_iload dX5_team_43 rfl ?_
        refine F_aload_n dX5_team_45 rfl ?_
        refine F_cV0i (v_groups (d := 5)) dX5_team_46 rfl rfl (by decide) (by first | assumption | rfl) rfl rfl rfl (by decide) (Nat.le_of_ble_eq_true rfl) (by omega) ?_
        refine F_top (y := nI n) hn ?_
        refine F_icmp_geN (tgt := 94) dX5_team_49 rfl (by omega) (by omega) (fun c49 => ?_) (fun c49 => ?_)
        · exact absurd c49 (by omega)
        · refine F_iload_n dX5_team_52 rfl ?_
          refine F_iload dX5_team_53 rfl ?_
          refine F_ishr dX5_team_55 ?_
          refine F_iconst (v := nI 1) dX5_team_56 rfl ?_
          refine F_iand dX5_team_57 ?_
          refine F_top (y := bI (s.testBit m)) (bit_get s hs m (by omega)) ?_
          refine F_if_neB (tgt := 88) dX5_team_58 rfl (fun c58 => ?_) (fun c58 => ?_)
          · rw [hb] at c58
            cases c58
          · refine F_iload dX5_team_61 rfl ?_
            refine F_iconst (v := (-1)) dX5_team_63 rfl ?_
            refine F_icmp_eq (tgt := 84) dX5_team_64 rfl (fun c64 => ?_) (fun c64 => ?_)
            · exact absurd c64 nb
            · refine F_aload_n dX5_team_67 rfl ?_
              refine F_iload dX5_team_68 rfl ?_
              refine F_iload_n dX5_team_70 rfl ?_
              refine F_cV2i (hv1) dX5_team_71 rfl rfl (by decide) (by first | assumption | rfl) rfl rfl rfl (by decide) (Nat.le_of_ble_eq_true rfl) (by omega) ?_
              refine F_aload_n dX5_team_74 rfl ?_
              refine F_iload dX5_team_75 rfl ?_
              refine F_iload_n dX5_team_77 rfl ?_
              refine F_cV2i (hv2) dX5_team_78 rfl rfl (by decide) (by first | assumption | rfl) rfl rfl rfl (by decide) (Nat.le_of_ble_eq_true rfl) (by omega) ?_
              refine F_icmp_le (tgt := 88) dX5_team_81 rfl (fun c81 => ?_) (fun c81 => ?_)
              · refine F_iincN dX5_team_88 rfl ?_
                refine F_goto (tgt := 43) dX5_team_91 rfl ?_
                first
                  | (rw [if_neg (show ¬ (fun i => sForm (pQ (σ 117) i c (-1)) e) b < (fun i => sForm (pQ (σ 117) i c (-1)) e) m from Int32.not_lt.mpr c81)] at eP
                     rw [eP] at h3
                     exact h3)
                  | (rw [if_pos (show (fun i => sForm (pQ (σ 117) i c (-1)) e) b < (fun i => sForm (pQ (σ 117) i c (-1)) e) m from Int32.not_le.mp c81)] at eP
                     rw [eP] at h3
                     exact h3)
              · refine F_iload dX5_team_84 rfl ?_
                refine F_istore dX5_team_86 (Nat.le_of_ble_eq_true rfl) ?_
                refine F_iincN dX5_team_88 rfl ?_
                refine F_goto (tgt := 43) dX5_team_91 rfl ?_
                first
                  | (rw [if_neg (show ¬ (fun i => sForm (pQ (σ 117) i c (-1)) e) b < (fun i => sForm (pQ (σ 117) i c (-1)) e) m from Int32.not_lt.mpr c81)] at eP
                     rw [eP] at h3
                     exact h3)
                  | (rw [if_pos (show (fun i => sForm (pQ (σ 117) i c (-1)) e) b < (fun i => sForm (pQ (σ 117) i c (-1)) e) m from Int32.not_le.mp c81)] at eP
                     rw [eP] at h3
                     exact h3)

theorem l_mteam2 (hq : QR σ n c) {e k : Nat} (he : e < 70) (hk : k ≤ n) : ∀ q i τ l5 l6, i + q = k → Fr σ τ → ∃ υ, Fr σ υ ∧ ∀ Q : Option Value → mS → Prop, Q (some (.int (nI (tmS (fun i => sForm (pQ (σ 117) i c (-1)) e) n k)))) υ → mF G mX5_team 12 31 [some (.ref 116), some (.int (nI e)), some (.int (nI k)), some (.int (nI (tmS (fun i => sForm (pQ (σ 117) i c (-1)) e) n i))), some (.int (nI i)), l5, l6] [] τ Q := by
  have hn6 := hq.1.1.1
  intro q
  induction q with
  | zero =>
    intro i τ l5 l6 hi hf
    have e1 : i = k := by omega
    subst e1
    refine ⟨τ, hf, fun Q hQ => ?_⟩
    refine F_iload dX5_team_31 rfl ?_
    refine F_iload_n dX5_team_33 rfl ?_
    refine F_icmp_geN (tgt := 107) dX5_team_34 rfl (by omega) (by omega) (fun c34 => ?_) (fun c34 => ?_)
    · refine F_iload_n dX5_team_107 rfl ?_
      refine F_iret dX5_team_108 rfl ?_
      exact hQ
    · exact absurd c34 (by omega)
  | succ q ih =>
    intro i τ l5 l6 hi hf
    have hs := tmS_ok (fun i => sForm (pQ (σ 117) i c (-1)) e) hn6 i (by omega)
    obtain ⟨j, hj, ej⟩ := bit_ex _ hs.1 n (by omega) (by omega)
    obtain ⟨b, hb⟩ := tmP_some (fun i => sForm (pQ (σ 117) i c (-1)) e) _ ej n hj
    have hbl := (tmP_lt _ _ _ _ hb).1
    have eS : (tmS (fun i => sForm (pQ (σ 117) i c (-1)) e) n (i + 1)) = (tmS (fun i => sForm (pQ (σ 117) i c (-1)) e) n i) ||| 2 ^ b := by
      simp only [tmS]
      rw [hb]
      rfl
    obtain ⟨τ2, hf2, h2⟩ := l_mteam1 (G := G) hq (k := k) (s := (tmS (fun i => sForm (pQ (σ 117) i c (-1)) e) n i)) (i := i) he hs.1 n 0 τ (by omega) hf
    obtain ⟨υ, hf3, h3⟩ := ih (i + 1) τ2 (some (.int (nI b))) (some (.int (nI n))) (by omega) hf2
    refine ⟨υ, hf3, fun Q hQ => ?_⟩
    have h3 := h3 Q hQ
    have h2 := h2 Q
    rw [hb] at h2
    refine F_iload dX5_team_31 rfl ?_
    refine F_iload_n dX5_team_33 rfl ?_
    refine F_icmp_geN (tgt := 107) dX5_team_34 rfl (by omega) (by omega) (fun c34 => ?_) (fun c34 => ?_)
    · exact absurd c34 (by omega)
    · refine F_iconst (v := (-1)) dX5_team_37 rfl ?_
      refine F_istore dX5_team_38 (Nat.le_of_ble_eq_true rfl) ?_
      refine F_iconst (v := nI 0) dX5_team_40 rfl ?_
      refine F_istore dX5_team_41 (Nat.le_of_ble_eq_true rfl) ?_
      refine h2 ?_
      show mF G mX5_team 12 94 [some (.ref 116), some (.int (nI e)), some (.int (nI k)), some (.int (nI (tmS (fun i => sForm (pQ (σ 117) i c (-1)) e) n i))), some (.int (nI i)), some (.int (nI b)), some (.int (nI n))] [] τ2 Q
      refine F_iload_n dX5_team_94 rfl ?_
      refine F_iconst (v := nI 1) dX5_team_95 rfl ?_
      refine F_iload dX5_team_96 rfl ?_
      refine F_ishl dX5_team_98 ?_
      refine F_ior dX5_team_99 ?_
      refine F_top (y := nI (tmS (fun i => sForm (pQ (σ 117) i c (-1)) e) n (i + 1))) (by rw [eS]; exact bit_set _ hs.1 _ (by omega)) ?_
      refine F_istore_n dX5_team_100 (Nat.le_of_ble_eq_true rfl) ?_
      refine F_iincN dX5_team_101 rfl ?_
      refine F_goto (tgt := 31) dX5_team_104 rfl ?_
      exact h3

theorem m_teamB (hq : QR σ n c) {e k : Nat} (he : e < 70) (hk : k ≤ n) : Ask G mX5_team [.ref 116, .int (nI e), .int (nI k)] (nI (tmS (fun i => sForm (pQ (σ 117) i c (-1)) e) n k)) σ := by
  have hn := hq.1.2.1
  have h23 := hq.1.1.2.2.1
  have hn6 := hq.1.1.1
  have hq1 := (Fr.thrown hq (nI 0)).qr hq
  obtain ⟨υ, hf, h3⟩ := l_mteam2 (G := G) hq he hk k 0 (up σ 116 0 (nI 0)) none none (by omega) (Fr.thrown hq (nI 0))
  refine ⟨υ, mV_of fun Q hQ => ?_, hf⟩
  refine F_aload_n dX5_team_0 rfl ?_
  refine F_iconst (v := nI 0) dX5_team_1 rfl ?_
  refine F_put dX5_team_2 rfl rfl (by first | assumption | rfl) rfl rfl rfl rfl ?_
  refine F_iload_n dX5_team_5 rfl ?_
  refine F_cS1i (v_isDay (d := 5) _) dX5_team_6 rfl rfl rfl (by decide) (Nat.le_of_ble_eq_true rfl) (by omega) ?_
  refine F_if_eqB (tgt := 24) dX5_team_9 rfl (fun c9 => ?_) (fun c9 => ?_)
  · rw [dB_nI he] at c9
    cases c9
  · refine F_iload_n dX5_team_12 rfl ?_
    refine F_iconst (v := nI 0) dX5_team_13 rfl ?_
    refine F_aload_n dX5_team_14 rfl ?_
    refine F_cV0i (v_groups (d := 5)) dX5_team_15 rfl rfl (by decide) (by first | assumption | rfl) rfl rfl rfl (by decide) (Nat.le_of_ble_eq_true rfl) (by omega) ?_
    refine F_cS3i (v_isIn (d := 5) _ _ _) dX5_team_18 rfl rfl rfl (by decide) (Nat.le_of_ble_eq_true rfl) (by omega) ?_
    refine F_if_neB (tgt := 26) dX5_team_21 rfl (fun c21 => ?_) (fun c21 => ?_)
    · refine F_iconst (v := nI 0) dX5_team_26 rfl ?_
      refine F_istore_n dX5_team_27 (Nat.le_of_ble_eq_true rfl) ?_
      refine F_iconst (v := nI 0) dX5_team_28 rfl ?_
      refine F_istore dX5_team_29 (Nat.le_of_ble_eq_true rfl) ?_
      exact h3 Q hQ
    · rw [show (up σ 116 0 (nI 0)) 117 23 = nI n from h23, inR_nI (by omega) (by decide) (by omega), decide_eq_true (by omega), decide_eq_true hk] at c21
      cases c21

theorem op_team (h : Rel σ) (e k : Int32) : Same G mX4_team mX5_team [.int e, .int k] σ := by
  refine Same.of h fun n c hq => ?_
  have hn6 := hq.1.1.1
  by_cases hA : (dB e && inR k (nI 0) (nI n)) = true
  · have hx := Bool.and_eq_true_iff.mp hA
    obtain ⟨i, hi, e1⟩ := dB_n hx.1
    obtain ⟨j, hj, e2⟩ := inR_n (by omega) hx.2
    subst e1; subst e2
    exact ⟨_, b_teamB hq hi hj, fun σ2 h7 hq2 => by rw [← h7]; exact m_teamB hq2 hi hj⟩
  · have hA := Bool.not_eq_true _ ▸ hA
    exact ⟨_, b_teamA hq hA, fun σ2 h7 hq2 => m_teamA hq2 hA⟩
end QF
