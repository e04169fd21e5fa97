/-! ===== the reference: numbers and words ===== -/
theorem dX5_letters_0 : decode cX5_letters 0 = .ok (.iload_n 0, 1) := by decide +kernel
theorem dX5_letters_1 : decode cX5_letters 1 = .ok (.bipush 32, 2) := by decide +kernel
theorem dX5_letters_3 : decode cX5_letters 3 = .ok (.imul, 1) := by decide +kernel
theorem dX5_letters_4 : decode cX5_letters 4 = .ok (.iload_n 1, 1) := by decide +kernel
theorem dX5_letters_5 : decode cX5_letters 5 = .ok (.iadd, 1) := by decide +kernel
theorem dX5_letters_6 : decode cX5_letters 6 = .ok (.bipush 32, 2) := by decide +kernel
theorem dX5_letters_8 : decode cX5_letters 8 = .ok (.imul, 1) := by decide +kernel
theorem dX5_letters_9 : decode cX5_letters 9 = .ok (.iload_n 2, 1) := by decide +kernel
theorem dX5_letters_10 : decode cX5_letters 10 = .ok (.iadd, 1) := by decide +kernel
theorem dX5_letters_11 : decode cX5_letters 11 = .ok (.bipush 32, 2) := by decide +kernel
theorem dX5_letters_13 : decode cX5_letters 13 = .ok (.imul, 1) := by decide +kernel
theorem dX5_letters_14 : decode cX5_letters 14 = .ok (.iload_n 3, 1) := by decide +kernel
theorem dX5_letters_15 : decode cX5_letters 15 = .ok (.iadd, 1) := by decide +kernel
theorem dX5_letters_16 : decode cX5_letters 16 = .ok (.bipush 32, 2) := by decide +kernel
theorem dX5_letters_18 : decode cX5_letters 18 = .ok (.imul, 1) := by decide +kernel
theorem dX5_letters_19 : decode cX5_letters 19 = .ok (.iload 4, 2) := by decide +kernel
theorem dX5_letters_21 : decode cX5_letters 21 = .ok (.iadd, 1) := by decide +kernel
theorem dX5_letters_22 : decode cX5_letters 22 = .ok (.bipush 32, 2) := by decide +kernel
theorem dX5_letters_24 : decode cX5_letters 24 = .ok (.imul, 1) := by decide +kernel
theorem dX5_letters_25 : decode cX5_letters 25 = .ok (.iload 5, 2) := by decide +kernel
theorem dX5_letters_27 : decode cX5_letters 27 = .ok (.iadd, 1) := by decide +kernel
theorem dX5_letters_28 : decode cX5_letters 28 = .ok (.ireturn, 1) := by decide +kernel
theorem dX5_kindBy_0 : decode cX5_kindBy 0 = .ok (.iload_n 0, 1) := by decide +kernel
theorem dX5_kindBy_1 : decode cX5_kindBy 1 = .ok (.iconst 0, 1) := by decide +kernel
theorem dX5_kindBy_2 : decode cX5_kindBy 2 = .ok (.iconst 0, 1) := by decide +kernel
theorem dX5_kindBy_3 : decode cX5_kindBy 3 = .ok (.bipush 18, 2) := by decide +kernel
theorem dX5_kindBy_5 : decode cX5_kindBy 5 = .ok (.iconst 5, 1) := by decide +kernel
theorem dX5_kindBy_6 : decode cX5_kindBy 6 = .ok (.bipush 19, 2) := by decide +kernel
theorem dX5_kindBy_8 : decode cX5_kindBy 8 = .ok (.bipush 20, 2) := by decide +kernel
theorem dX5_kindBy_10 : decode cX5_kindBy 10 = .ok (.invokestatic 145, 3) := by decide +kernel
theorem dX5_kindBy_13 : decode cX5_kindBy 13 = .ok (.if_icmp .ne 5, 3) := by decide +kernel
theorem dX5_kindBy_16 : decode cX5_kindBy 16 = .ok (.iconst 0, 1) := by decide +kernel
theorem dX5_kindBy_17 : decode cX5_kindBy 17 = .ok (.ireturn, 1) := by decide +kernel
theorem dX5_kindBy_18 : decode cX5_kindBy 18 = .ok (.iload_n 0, 1) := by decide +kernel
theorem dX5_kindBy_19 : decode cX5_kindBy 19 = .ok (.iconst 0, 1) := by decide +kernel
theorem dX5_kindBy_20 : decode cX5_kindBy 20 = .ok (.iconst 0, 1) := by decide +kernel
theorem dX5_kindBy_21 : decode cX5_kindBy 21 = .ok (.iconst 5, 1) := by decide +kernel
theorem dX5_kindBy_22 : decode cX5_kindBy 22 = .ok (.iconst 1, 1) := by decide +kernel
theorem dX5_kindBy_23 : decode cX5_kindBy 23 = .ok (.bipush 19, 2) := by decide +kernel
theorem dX5_kindBy_25 : decode cX5_kindBy 25 = .ok (.bipush 25, 2) := by decide +kernel
theorem dX5_kindBy_27 : decode cX5_kindBy 27 = .ok (.invokestatic 145, 3) := by decide +kernel
theorem dX5_kindBy_30 : decode cX5_kindBy 30 = .ok (.if_icmp .ne 5, 3) := by decide +kernel
theorem dX5_kindBy_33 : decode cX5_kindBy 33 = .ok (.iconst 1, 1) := by decide +kernel
theorem dX5_kindBy_34 : decode cX5_kindBy 34 = .ok (.ireturn, 1) := by decide +kernel
theorem dX5_kindBy_35 : decode cX5_kindBy 35 = .ok (.iload_n 0, 1) := by decide +kernel
theorem dX5_kindBy_36 : decode cX5_kindBy 36 = .ok (.bipush 19, 2) := by decide +kernel
theorem dX5_kindBy_38 : decode cX5_kindBy 38 = .ok (.bipush 20, 2) := by decide +kernel
theorem dX5_kindBy_40 : decode cX5_kindBy 40 = .ok (.iconst 5, 1) := by decide +kernel
theorem dX5_kindBy_41 : decode cX5_kindBy 41 = .ok (.iconst 1, 1) := by decide +kernel
theorem dX5_kindBy_42 : decode cX5_kindBy 42 = .ok (.iconst 4, 1) := by decide +kernel
theorem dX5_kindBy_43 : decode cX5_kindBy 43 = .ok (.bipush 25, 2) := by decide +kernel
theorem dX5_kindBy_45 : decode cX5_kindBy 45 = .ok (.invokestatic 145, 3) := by decide +kernel
theorem dX5_kindBy_48 : decode cX5_kindBy 48 = .ok (.if_icmp .ne 5, 3) := by decide +kernel
theorem dX5_kindBy_51 : decode cX5_kindBy 51 = .ok (.iconst 2, 1) := by decide +kernel
theorem dX5_kindBy_52 : decode cX5_kindBy 52 = .ok (.ireturn, 1) := by decide +kernel
theorem dX5_kindBy_53 : decode cX5_kindBy 53 = .ok (.iload_n 0, 1) := by decide +kernel
theorem dX5_kindBy_54 : decode cX5_kindBy 54 = .ok (.iconst 0, 1) := by decide +kernel
theorem dX5_kindBy_55 : decode cX5_kindBy 55 = .ok (.iconst 0, 1) := by decide +kernel
theorem dX5_kindBy_56 : decode cX5_kindBy 56 = .ok (.bipush 8, 2) := by decide +kernel
theorem dX5_kindBy_58 : decode cX5_kindBy 58 = .ok (.iconst 1, 1) := by decide +kernel
theorem dX5_kindBy_59 : decode cX5_kindBy 59 = .ok (.bipush 18, 2) := by decide +kernel
theorem dX5_kindBy_61 : decode cX5_kindBy 61 = .ok (.iconst 4, 1) := by decide +kernel
theorem dX5_kindBy_62 : decode cX5_kindBy 62 = .ok (.invokestatic 145, 3) := by decide +kernel
theorem dX5_kindBy_65 : decode cX5_kindBy 65 = .ok (.if_icmp .ne 5, 3) := by decide +kernel
theorem dX5_kindBy_68 : decode cX5_kindBy 68 = .ok (.iconst 3, 1) := by decide +kernel
theorem dX5_kindBy_69 : decode cX5_kindBy 69 = .ok (.ireturn, 1) := by decide +kernel
theorem dX5_kindBy_70 : decode cX5_kindBy 70 = .ok (.iload_n 0, 1) := by decide +kernel
theorem dX5_kindBy_71 : decode cX5_kindBy 71 = .ok (.iconst 0, 1) := by decide +kernel
theorem dX5_kindBy_72 : decode cX5_kindBy 72 = .ok (.iconst 0, 1) := by decide +kernel
theorem dX5_kindBy_73 : decode cX5_kindBy 73 = .ok (.bipush 12, 2) := by decide +kernel
theorem dX5_kindBy_75 : decode cX5_kindBy 75 = .ok (.bipush 15, 2) := by decide +kernel
theorem dX5_kindBy_77 : decode cX5_kindBy 77 = .ok (.bipush 14, 2) := by decide +kernel
theorem dX5_kindBy_79 : decode cX5_kindBy 79 = .ok (.bipush 7, 2) := by decide +kernel
theorem dX5_kindBy_81 : decode cX5_kindBy 81 = .ok (.invokestatic 145, 3) := by decide +kernel
theorem dX5_kindBy_84 : decode cX5_kindBy 84 = .ok (.if_icmp .ne 5, 3) := by decide +kernel
theorem dX5_kindBy_87 : decode cX5_kindBy 87 = .ok (.iconst 4, 1) := by decide +kernel
theorem dX5_kindBy_88 : decode cX5_kindBy 88 = .ok (.ireturn, 1) := by decide +kernel
theorem dX5_kindBy_89 : decode cX5_kindBy 89 = .ok (.iload_n 0, 1) := by decide +kernel
theorem dX5_kindBy_90 : decode cX5_kindBy 90 = .ok (.iconst 0, 1) := by decide +kernel
theorem dX5_kindBy_91 : decode cX5_kindBy 91 = .ok (.iconst 0, 1) := by decide +kernel
theorem dX5_kindBy_92 : decode cX5_kindBy 92 = .ok (.bipush 18, 2) := by decide +kernel
theorem dX5_kindBy_94 : decode cX5_kindBy 94 = .ok (.iconst 1, 1) := by decide +kernel
theorem dX5_kindBy_95 : decode cX5_kindBy 95 = .ok (.iconst 3, 1) := by decide +kernel
theorem dX5_kindBy_96 : decode cX5_kindBy 96 = .ok (.iconst 5, 1) := by decide +kernel
theorem dX5_kindBy_97 : decode cX5_kindBy 97 = .ok (.invokestatic 145, 3) := by decide +kernel
theorem dX5_kindBy_100 : decode cX5_kindBy 100 = .ok (.if_icmp .ne 7, 3) := by decide +kernel
theorem dX5_kindBy_103 : decode cX5_kindBy 103 = .ok (.iconst 5, 1) := by decide +kernel
theorem dX5_kindBy_104 : decode cX5_kindBy 104 = .ok (.goto 4, 3) := by decide +kernel
theorem dX5_kindBy_107 : decode cX5_kindBy 107 = .ok (.iconst (-1), 1) := by decide +kernel
theorem dX5_kindBy_108 : decode cX5_kindBy 108 = .ok (.ireturn, 1) := by decide +kernel

/-- the reference stands at q, the last that it read begins at p -/
def atS (σ : mS) (q p : Nat) : mS := up (up σ 116 10 (nI p)) 116 9 (nI q)
theorem atS_1 (σ : mS) (q p : Nat) (x : Int32) : up (up (up σ 116 9 x) 116 10 (nI p)) 116 9 (nI q) = atS σ q p := by
  rw [up_comm σ x (nI p) (by decide), up_up]
  rfl
theorem atS_0 (σ : mS) (p : Nat) : up (up σ 116 9 (nI p)) 116 10 (nI p) = atS σ p p := up_comm σ _ _ (by decide)
theorem atS_s (σ : mS) (q q2 p : Nat) : up (atS σ q p) 116 9 (nI q2) = atS σ q2 p := up_up _ _ _ _ _
theorem wv_s (b : Nat → Int32) (p : Nat) {m : Nat} (h : m < 6) : wv b p (m + 1) = 32 * wv b p m + ltr (b (p + m)) := by simp only [wv]; rw [if_pos h]
theorem wv_big (b : Nat → Int32) (p : Nat) {m : Nat} (h : 6 ≤ m) : wv b p (m + 1) = 0 := by simp only [wv]; rw [if_neg (by omega)]
section TN
variable {G : mG} {d : Nat} {σ : mS}

theorem l_number40 {L p q : Nat} {le mo : Int32} {l3 : Option Value} (hL : σ 116 8 = nI L) (h4 : L ≤ 400) {Q : Option Value → mS → Prop} (hk : mF G mX5_number (d + 1) 122 [some (.ref 116), some (.int le), some (.int mo), l3, some (.int (nI (nv (σ 120) p (q - p))))] [] (atS σ q p) Q) : ∀ k e, e + k = L → p ≤ e → q = rn isDg (σ 120) L e → mF G mX5_number (d + 1) 40 [some (.ref 116), some (.int le), some (.int mo), l3, some (.int (nI (nv (σ 120) p (e - p))))] [] (atS σ e p) Q := by
  intro k
  induction k with
  | zero =>
    intro e he hpe hq
    have e1 : e = L := by omega
    subst e1
    rw [rn_end (Nat.le_refl e)] at hq
    subst hq
    refine F_aload_n dX5_number_40 rfl ?_
    refine F_getE (v := nI q) dX5_number_41 rfl rfl (by first | assumption | rfl) rfl rfl ?_
    refine F_aload_n dX5_number_44 rfl ?_
    refine F_getE (v := nI q) dX5_number_45 rfl rfl (by first | assumption | rfl) rfl hL ?_
    refine F_icmp_geN (tgt := 122) dX5_number_48 rfl (by omega) (by omega) (fun c48 => ?_) (fun c48 => ?_)
    · exact hk
    · exact absurd c48 (by omega)
  | succ k ih =>
    intro e he hpe hq
    by_cases hd : isDg (σ 120 e) = true
    · obtain ⟨t, t1, t2, et, ed⟩ := dg_n hd
      have ih := ih (e + 1) (by omega) (by omega) (by rw [hq, rn_t (by omega) hd])
      rw [← atS_s σ e (e + 1) p] at ih
      have eN : e + 1 - p = (e - p) + 1 := by omega
      have e3 : p + (e - p) = e := by omega
      refine F_aload_n dX5_number_40 rfl ?_
      refine F_getE (v := nI e) dX5_number_41 rfl rfl (by first | assumption | rfl) rfl rfl ?_
      refine F_aload_n dX5_number_44 rfl ?_
      refine F_getE (v := nI L) dX5_number_45 rfl rfl (by first | assumption | rfl) rfl hL ?_
      refine F_icmp_geN (tgt := 122) dX5_number_48 rfl (by omega) (by omega) (fun c48 => ?_) (fun c48 => ?_)
      · exact absurd c48 (by omega)
      · refine F_aload_n dX5_number_51 rfl ?_
        refine F_getr dX5_number_52 rfl rfl (by first | assumption | rfl) rfl ?_
        refine F_aload_n dX5_number_55 rfl ?_
        refine F_getE (v := nI e) dX5_number_56 rfl rfl (by first | assumption | rfl) rfl rfl ?_
        refine F_bald dX5_number_59 (by first | assumption | rfl) (by decide) (by omega) ?_
        refine F_bipush (v := nI 48) dX5_number_60 rfl ?_
        refine F_bipush (v := nI 57) dX5_number_62 rfl ?_
        refine F_cS3i (v_isIn (d := d) _ _ _) dX5_number_64 rfl rfl rfl (by decide) (Nat.le_of_ble_eq_true rfl) (by omega) ?_
        refine F_if_eqB (tgt := 122) dX5_number_67 rfl (fun c67 => ?_) (fun c67 => ?_)
        · have c67 : isDg (σ 120 e) = false := c67
          rw [hd] at c67
          cases c67
        · refine F_aload_n dX5_number_70 rfl ?_
          refine F_getE (v := nI e) dX5_number_71 rfl rfl (by first | assumption | rfl) rfl rfl ?_
          refine F_aload_n dX5_number_74 rfl ?_
          refine F_getE (v := nI p) dX5_number_75 rfl rfl (by first | assumption | rfl) rfl rfl ?_
          refine F_isubN dX5_number_78 (by omega) ?_
          refine F_iconst (v := nI 4) dX5_number_79 rfl ?_
          refine F_icmp_geN (tgt := 104) dX5_number_80 rfl (by omega) (by omega) (fun c80 => ?_) (fun c80 => ?_)
          · refine F_sipush (v := nI 10000) dX5_number_104 rfl ?_
            refine F_top (y := nI (nv (σ 120) p (e + 1 - p))) (by
              rw [eN]
              first
                | (rw [nv_s _ _ (show e - p < 4 by omega), e3, ed]; congr 1; omega)
                | rw [nv_big _ _ (show 4 < e - p + 1 by omega)]) ?_
            refine F_istore dX5_number_107 (Nat.le_of_ble_eq_true rfl) ?_
            refine F_aload_n dX5_number_109 rfl ?_
            refine F_dup dX5_number_110 rfl ?_
            refine F_getE (v := nI e) dX5_number_111 rfl rfl (by first | assumption | rfl) rfl rfl ?_
            refine F_iconst (v := nI 1) dX5_number_114 rfl ?_
            refine F_iaddN dX5_number_115 ?_
            refine F_put dX5_number_116 rfl rfl (by first | assumption | rfl) rfl rfl rfl rfl ?_
            refine F_goto (tgt := 40) dX5_number_119 rfl ?_
            exact ih
          · refine F_bipush (v := nI 10) dX5_number_83 rfl ?_
            refine F_iload dX5_number_85 rfl ?_
            refine F_imulN dX5_number_87 ?_
            refine F_aload_n dX5_number_88 rfl ?_
            refine F_getr dX5_number_89 rfl rfl (by first | assumption | rfl) rfl ?_
            refine F_aload_n dX5_number_92 rfl ?_
            refine F_getE (v := nI e) dX5_number_93 rfl rfl (by first | assumption | rfl) rfl rfl ?_
            refine F_baldE (v := nI t) dX5_number_96 (by first | assumption | rfl) (by decide) (by omega) et ?_
            refine F_iaddN dX5_number_97 ?_
            refine F_bipush (v := nI 48) dX5_number_98 rfl ?_
            refine F_isubN dX5_number_100 (by omega) ?_
            refine F_goto (tgt := 107) dX5_number_101 rfl ?_
            refine F_top (y := nI (nv (σ 120) p (e + 1 - p))) (by
              rw [eN]
              first
                | (rw [nv_s _ _ (show e - p < 4 by omega), e3, ed]; congr 1; omega)
                | rw [nv_big _ _ (show 4 < e - p + 1 by omega)]) ?_
            refine F_istore dX5_number_107 (Nat.le_of_ble_eq_true rfl) ?_
            refine F_aload_n dX5_number_109 rfl ?_
            refine F_dup dX5_number_110 rfl ?_
            refine F_getE (v := nI e) dX5_number_111 rfl rfl (by first | assumption | rfl) rfl rfl ?_
            refine F_iconst (v := nI 1) dX5_number_114 rfl ?_
            refine F_iaddN dX5_number_115 ?_
            refine F_put dX5_number_116 rfl rfl (by first | assumption | rfl) rfl rfl rfl rfl ?_
            refine F_goto (tgt := 40) dX5_number_119 rfl ?_
            exact ih
    · have hd := Bool.not_eq_true _ ▸ hd
      rw [rn_f hd] at hq
      subst hq
      refine F_aload_n dX5_number_40 rfl ?_
      refine F_getE (v := nI q) dX5_number_41 rfl rfl (by first | assumption | rfl) rfl rfl ?_
      refine F_aload_n dX5_number_44 rfl ?_
      refine F_getE (v := nI L) dX5_number_45 rfl rfl (by first | assumption | rfl) rfl hL ?_
      refine F_icmp_geN (tgt := 122) dX5_number_48 rfl (by omega) (by omega) (fun c48 => ?_) (fun c48 => ?_)
      · exact absurd c48 (by omega)
      · refine F_aload_n dX5_number_51 rfl ?_
        refine F_getr dX5_number_52 rfl rfl (by first | assumption | rfl) rfl ?_
        refine F_aload_n dX5_number_55 rfl ?_
        refine F_getE (v := nI q) dX5_number_56 rfl rfl (by first | assumption | rfl) rfl rfl ?_
        refine F_bald dX5_number_59 (by first | assumption | rfl) (by decide) (by omega) ?_
        refine F_bipush (v := nI 48) dX5_number_60 rfl ?_
        refine F_bipush (v := nI 57) dX5_number_62 rfl ?_
        refine F_cS3i (v_isIn (d := d) _ _ _) dX5_number_64 rfl rfl rfl (by decide) (Nat.le_of_ble_eq_true rfl) (by omega) ?_
        refine F_if_eqB (tgt := 122) dX5_number_67 rfl (fun c67 => ?_) (fun c67 => ?_)
        · exact hk
        · have c67 : isDg (σ 120 q) = true := c67
          rw [hd] at c67
          cases c67

theorem v_numberX (le mo : Int32) (h : ¬ σ 116 7 = 0) : mV G mX5_number (d + 2) [.ref 116, .int le, .int mo] σ (some (.int le)) σ := by
  refine mV_of fun Q hQ => ?_
  refine F_aload_n dX5_number_0 rfl ?_
  refine F_geti dX5_number_1 rfl rfl (by first | assumption | rfl) rfl ?_
  refine F_if_eq (tgt := 9) dX5_number_4 rfl (fun c4 => ?_) (fun c4 => ?_)
  · exact absurd c4 h
  · refine F_iload_n dX5_number_7 rfl ?_
    refine F_iret dX5_number_8 rfl ?_
    exact hQ

theorem v_numberA {L a : Nat} (hL : σ 116 8 = nI L) (h4 : L ≤ 400) (ha : a ≤ L) (hat : σ 116 9 = nI a) (hb : ∀ i, i < L → isByte (σ 120 i)) (h0 : σ 116 7 = nI 0) (le mo : Int32) {p : Nat} (hp : p = (rn isBl (σ 120) L a)) (hd : (decide (p < L) && isDg (σ 120 p)) = false) : mV G mX5_number (d + 2) [.ref 116, .int le, .int mo] σ (some (.int le)) (up (atS σ p p) 116 7 (nI (1 + 8 * p))) := by
  refine mV_of fun Q hQ => ?_
  have hN := v_isNumber (G := G) (d := d) hL h4 ha hat hb
  rw [← hp, hd] at hN
  refine F_aload_n dX5_number_0 rfl ?_
  refine F_getE (v := nI 0) dX5_number_1 rfl rfl (by first | assumption | rfl) rfl h0 ?_
  refine F_if_eqN (tgt := 9) dX5_number_4 rfl (by omega) (fun c4 => ?_) (fun c4 => ?_)
  · refine F_aload_n dX5_number_9 rfl ?_
    refine F_cV0i (hN) dX5_number_10 rfl rfl (by decide) (by first | assumption | rfl) rfl rfl rfl (by decide) (Nat.le_of_ble_eq_true rfl) (by omega) ?_
    refine F_istore_n dX5_number_13 (Nat.le_of_ble_eq_true rfl) ?_
    refine F_aload_n dX5_number_14 rfl ?_
    refine F_aload_n dX5_number_15 rfl ?_
    refine F_getE (v := nI p) dX5_number_16 rfl rfl (by first | assumption | rfl) rfl rfl ?_
    refine F_put dX5_number_19 rfl rfl (by first | assumption | rfl) rfl rfl rfl rfl ?_
    refine F_iload_n dX5_number_22 rfl ?_
    refine F_if_neB (tgt := 37) dX5_number_23 rfl (fun c23 => ?_) (fun c23 => ?_)
    · cases c23
    · refine F_aload_n dX5_number_26 rfl ?_
      refine F_iconst (v := nI 1) dX5_number_27 rfl ?_
      refine F_aload_n dX5_number_28 rfl ?_
      refine F_getE (v := nI p) dX5_number_29 rfl rfl (by first | assumption | rfl) rfl rfl ?_
      refine F_cV2v (v_failsB (d := d) 1 p h0) dX5_number_32 rfl rfl (by decide) (by first | assumption | rfl) rfl rfl rfl (by decide) (Nat.le_of_ble_eq_true rfl) (by omega) ?_
      refine F_iload_n dX5_number_35 rfl ?_
      refine F_iret dX5_number_36 rfl ?_
      refine Qn hQ ?_
      rw [← atS_0]
  · exact absurd rfl c4

theorem l_number122 {L a : Nat} (hL : σ 116 8 = nI L) (h4 : L ≤ 400) (ha : a ≤ L) (hat : σ 116 9 = nI a) (hb : ∀ i, i < L → isByte (σ 120 i)) (h0 : σ 116 7 = nI 0) (le mo : Int32) {p q v : Nat} {τ : mS} (hq : q ≤ L) (hr : inR (nI v) le mo = true ∧ τ = atS σ q p ∨ inR (nI v) le mo = false ∧ τ = up (atS σ q p) 116 7 (nI (2 + 8 * p))) {l3 : Option Value} {Q : Option Value → mS → Prop} (hQ : Q (some (.int (nI v))) τ) : mF G mX5_number (d + 1) 122 [some (.ref 116), some (.int le), some (.int mo), l3, some (.int (nI v))] [] (atS σ q p) Q := by
  refine F_iload dX5_number_122 rfl ?_
  refine F_iload_n dX5_number_124 rfl ?_
  refine F_iload_n dX5_number_125 rfl ?_
  refine F_cS3i (v_isIn (d := d) _ _ _) dX5_number_126 rfl rfl rfl (by decide) (Nat.le_of_ble_eq_true rfl) (by omega) ?_
  refine F_if_neB (tgt := 141) dX5_number_129 rfl (fun c129 => ?_) (fun c129 => ?_)
  · refine F_iload dX5_number_141 rfl ?_
    refine F_iret dX5_number_143 rfl ?_
    rcases hr with hr | hr
    · first
        | (rw [hr.2] at hQ; exact hQ)
        | (rw [hr.1] at c129; cases c129)
    · first
        | (rw [hr.1] at c129; cases c129; done)
        | (rw [hr.2] at hQ; exact hQ)
  · refine F_aload_n dX5_number_132 rfl ?_
    refine F_iconst (v := nI 2) dX5_number_133 rfl ?_
    refine F_aload_n dX5_number_134 rfl ?_
    refine F_getE (v := nI p) dX5_number_135 rfl rfl (by first | assumption | rfl) rfl rfl ?_
    refine F_cV2v (v_failsB (d := d) 2 p h0) dX5_number_138 rfl rfl (by decide) (by first | assumption | rfl) rfl rfl rfl (by decide) (Nat.le_of_ble_eq_true rfl) (by omega) ?_
    refine F_iload dX5_number_141 rfl ?_
    refine F_iret dX5_number_143 rfl ?_
    rcases hr with hr | hr
    · first
        | (rw [hr.2] at hQ; exact hQ)
        | (rw [hr.1] at c129; cases c129)
    · first
        | (rw [hr.1] at c129; cases c129; done)
        | (rw [hr.2] at hQ; exact hQ)

theorem v_numberB {L a : Nat} (hL : σ 116 8 = nI L) (h4 : L ≤ 400) (ha : a ≤ L) (hat : σ 116 9 = nI a) (hb : ∀ i, i < L → isByte (σ 120 i)) (h0 : σ 116 7 = nI 0) (le mo : Int32) {p q v : Nat} {τ : mS} (hp : p = (rn isBl (σ 120) L a)) (hpL : p < L) (hd : isDg (σ 120 p) = true) (hq : q = rn isDg (σ 120) L p) (hv : v = nv (σ 120) p (q - p)) (hr : inR (nI v) le mo = true ∧ τ = atS σ q p ∨ inR (nI v) le mo = false ∧ τ = up (atS σ q p) 116 7 (nI (2 + 8 * p))) : mV G mX5_number (d + 2) [.ref 116, .int le, .int mo] σ (some (.int (nI v))) τ := by
  refine mV_of fun Q hQ => ?_
  have hN := v_isNumber (G := G) (d := d) hL h4 ha hat hb
  rw [← hp, hd, decide_eq_true hpL] at hN
  have h122 := fun l3 => l_number122 (G := G) (d := d + 1) hL h4 ha hat hb h0 le mo (p := p) (q := q) (v := v) (l3 := l3) (by rw [hq]; exact rn_le (by omega)) hr hQ
  rw [hv] at h122
  have h40 := fun l3 => l_number40 (G := G) (d := d + 1) hL h4 (h122 l3) (L - p) p (by omega) (Nat.le_refl p) hq
  rw [Nat.sub_self] at h40
  refine F_aload_n dX5_number_0 rfl ?_
  refine F_getE (v := nI 0) dX5_number_1 rfl rfl (by first | assumption | rfl) rfl h0 ?_
  refine F_if_eqN (tgt := 9) dX5_number_4 rfl (by omega) (fun c4 => ?_) (fun c4 => ?_)
  · refine F_aload_n dX5_number_9 rfl ?_
    refine F_cV0i (hN) dX5_number_10 rfl rfl (by decide) (by first | assumption | rfl) rfl rfl rfl (by decide) (Nat.le_of_ble_eq_true rfl) (by omega) ?_
    refine F_istore_n dX5_number_13 (Nat.le_of_ble_eq_true rfl) ?_
    refine F_aload_n dX5_number_14 rfl ?_
    refine F_aload_n dX5_number_15 rfl ?_
    refine F_getE (v := nI p) dX5_number_16 rfl rfl (by first | assumption | rfl) rfl rfl ?_
    refine F_put dX5_number_19 rfl rfl (by first | assumption | rfl) rfl rfl rfl rfl ?_
    refine F_iload_n dX5_number_22 rfl ?_
    refine F_if_neB (tgt := 37) dX5_number_23 rfl (fun c23 => ?_) (fun c23 => ?_)
    · refine F_iconst (v := nI 0) dX5_number_37 rfl ?_
      refine F_istore dX5_number_38 (Nat.le_of_ble_eq_true rfl) ?_
      refine F_sg (atS_0 σ p) ?_
      exact h40 _
    · cases c23
  · exact absurd rfl c4

theorem l_word15 {L p q : Nat} (hL : σ 116 8 = nI L) (h4 : L ≤ 400) {Q : Option Value → mS → Prop} (hk : Q (some (.int (nI (wv (σ 120) p (q - p))))) (atS σ q p)) : ∀ k e, e + k = L → p ≤ e → q = rn isLt (σ 120) L e → mF G mX5_word (d + 1) 15 [some (.ref 116), some (.int (nI (wv (σ 120) p (e - p))))] [] (atS σ e p) Q := by
  intro k
  induction k with
  | zero =>
    intro e he hpe hq
    have e1 : e = L := by omega
    subst e1
    rw [rn_end (Nat.le_refl e)] at hq
    subst hq
    refine F_aload_n dX5_word_15 rfl ?_
    refine F_getE (v := nI q) dX5_word_16 rfl rfl rfl rfl rfl ?_
    refine F_aload_n dX5_word_19 rfl ?_
    refine F_getE (v := nI q) dX5_word_20 rfl rfl rfl rfl hL ?_
    refine F_icmp_geN (tgt := 94) dX5_word_23 rfl (by omega) (by omega) (fun c23 => ?_) (fun c23 => ?_)
    · refine F_iload_n dX5_word_94 rfl ?_
      refine F_iret dX5_word_95 rfl ?_
      exact hk
    · exact absurd c23 (by omega)
  | succ k ih =>
    intro e he hpe hq
    by_cases hd : isLt (σ 120 e) = true
    · obtain ⟨t, t1, t2, et, ed⟩ := lt_n hd
      have ih := ih (e + 1) (by omega) (by omega) (by rw [hq, rn_t (by omega) hd])
      rw [← atS_s σ e (e + 1) p] at ih
      have eN : e + 1 - p = (e - p) + 1 := by omega
      have e3 : p + (e - p) = e := by omega
      refine F_aload_n dX5_word_15 rfl ?_
      refine F_getE (v := nI e) dX5_word_16 rfl rfl rfl rfl rfl ?_
      refine F_aload_n dX5_word_19 rfl ?_
      refine F_getE (v := nI L) dX5_word_20 rfl rfl rfl rfl hL ?_
      refine F_icmp_geN (tgt := 94) dX5_word_23 rfl (by omega) (by omega) (fun c23 => ?_) (fun c23 => ?_)
      · exact absurd c23 (by omega)
      · refine F_aload_n dX5_word_26 rfl ?_
        refine F_getr dX5_word_27 rfl rfl rfl rfl ?_
        refine F_aload_n dX5_word_30 rfl ?_
        refine F_getE (v := nI e) dX5_word_31 rfl rfl rfl rfl rfl ?_
        refine F_bald dX5_word_34 rfl (by decide) (by omega) ?_
        refine F_bipush (v := nI 97) dX5_word_35 rfl ?_
        refine F_bipush (v := nI 122) dX5_word_37 rfl ?_
        refine F_cS3i (v_isIn (d := d) _ _ _) dX5_word_39 rfl rfl rfl (by decide) (Nat.le_of_ble_eq_true rfl) (by omega) ?_
        refine F_if_eqB (tgt := 94) dX5_word_42 rfl (fun c42 => ?_) (fun c42 => ?_)
        · have c42 : isLt (σ 120 e) = false := c42
          rw [hd] at c42
          cases c42
        · refine F_aload_n dX5_word_45 rfl ?_
          refine F_getE (v := nI e) dX5_word_46 rfl rfl rfl rfl rfl ?_
          refine F_aload_n dX5_word_49 rfl ?_
          refine F_getE (v := nI p) dX5_word_50 rfl rfl rfl rfl rfl ?_
          refine F_isubN dX5_word_53 (by omega) ?_
          refine F_bipush (v := nI 6) dX5_word_54 rfl ?_
          refine F_icmp_geN (tgt := 79) dX5_word_56 rfl (by omega) (by omega) (fun c56 => ?_) (fun c56 => ?_)
          · refine F_iconst (v := nI 0) dX5_word_79 rfl ?_
            refine F_top (y := nI (wv (σ 120) p (e + 1 - p))) (by
              rw [eN]
              first
                | (rw [wv_s _ _ (show e - p < 6 by omega), e3, ed]; congr 1; omega)
                | rw [wv_big _ _ (show 6 ≤ e - p by omega)]) ?_
            refine F_istore_n dX5_word_80 (Nat.le_of_ble_eq_true rfl) ?_
            refine F_aload_n dX5_word_81 rfl ?_
            refine F_dup dX5_word_82 rfl ?_
            refine F_getE (v := nI e) dX5_word_83 rfl rfl rfl rfl rfl ?_
            refine F_iconst (v := nI 1) dX5_word_86 rfl ?_
            refine F_iaddN dX5_word_87 ?_
            refine F_put dX5_word_88 rfl rfl rfl rfl rfl rfl rfl ?_
            refine F_goto (tgt := 15) dX5_word_91 rfl ?_
            exact ih
          · refine F_bipush (v := nI 32) dX5_word_59 rfl ?_
            refine F_iload_n dX5_word_61 rfl ?_
            refine F_imulN dX5_word_62 ?_
            refine F_aload_n dX5_word_63 rfl ?_
            refine F_getr dX5_word_64 rfl rfl rfl rfl ?_
            refine F_aload_n dX5_word_67 rfl ?_
            refine F_getE (v := nI e) dX5_word_68 rfl rfl rfl rfl rfl ?_
            refine F_baldE (v := nI t) dX5_word_71 rfl (by decide) (by omega) et ?_
            refine F_iaddN dX5_word_72 ?_
            refine F_bipush (v := nI 96) dX5_word_73 rfl ?_
            refine F_isubN dX5_word_75 (by omega) ?_
            refine F_goto (tgt := 80) dX5_word_76 rfl ?_
            refine F_top (y := nI (wv (σ 120) p (e + 1 - p))) (by
              rw [eN]
              first
                | (rw [wv_s _ _ (show e - p < 6 by omega), e3, ed]; congr 1; omega)
                | rw [wv_big _ _ (show 6 ≤ e - p by omega)]) ?_
            refine F_istore_n dX5_word_80 (Nat.le_of_ble_eq_true rfl) ?_
            refine F_aload_n dX5_word_81 rfl ?_
            refine F_dup dX5_word_82 rfl ?_
            refine F_getE (v := nI e) dX5_word_83 rfl rfl rfl rfl rfl ?_
            refine F_iconst (v := nI 1) dX5_word_86 rfl ?_
            refine F_iaddN dX5_word_87 ?_
            refine F_put dX5_word_88 rfl rfl rfl rfl rfl rfl rfl ?_
            refine F_goto (tgt := 15) dX5_word_91 rfl ?_
            exact ih
    · have hd := Bool.not_eq_true _ ▸ hd
      rw [rn_f hd] at hq
      subst hq
      refine F_aload_n dX5_word_15 rfl ?_
      refine F_getE (v := nI q) dX5_word_16 rfl rfl rfl rfl rfl ?_
      refine F_aload_n dX5_word_19 rfl ?_
      refine F_getE (v := nI L) dX5_word_20 rfl rfl rfl rfl hL ?_
      refine F_icmp_geN (tgt := 94) dX5_word_23 rfl (by omega) (by omega) (fun c23 => ?_) (fun c23 => ?_)
      · exact absurd c23 (by omega)
      · refine F_aload_n dX5_word_26 rfl ?_
        refine F_getr dX5_word_27 rfl rfl rfl rfl ?_
        refine F_aload_n dX5_word_30 rfl ?_
        refine F_getE (v := nI q) dX5_word_31 rfl rfl rfl rfl rfl ?_
        refine F_bald dX5_word_34 rfl (by decide) (by omega) ?_
        refine F_bipush (v := nI 97) dX5_word_35 rfl ?_
        refine F_bipush (v := nI 122) dX5_word_37 rfl ?_
        refine F_cS3i (v_isIn (d := d) _ _ _) dX5_word_39 rfl rfl rfl (by decide) (Nat.le_of_ble_eq_true rfl) (by omega) ?_
        refine F_if_eqB (tgt := 94) dX5_word_42 rfl (fun c42 => ?_) (fun c42 => ?_)
        · refine F_iload_n dX5_word_94 rfl ?_
          refine F_iret dX5_word_95 rfl ?_
          exact hk
        · have c42 : isLt (σ 120 q) = true := c42
          rw [hd] at c42
          cases c42

theorem v_word {L a p q : Nat} (hL : σ 116 8 = nI L) (h4 : L ≤ 400) (ha : a ≤ L) (hat : σ 116 9 = nI a) (hp : p = (rn isBl (σ 120) L a)) (hq : q = rn isLt (σ 120) L p) : mV G mX5_word (d + 1) [.ref 116] σ (some (.int (nI (wv (σ 120) p (q - p))))) (atS σ q p) := by
  refine mV_of fun Q hQ => ?_
  have hH := v_here (G := G) (d := d) hL h4 ha hat
  rw [← hp] at hH
  have hpL : p ≤ L := by rw [hp]; exact rn_le ha
  have h15 := l_word15 (G := G) (d := d) hL h4 hQ (L - p) p (by omega) (Nat.le_refl p) hq
  rw [Nat.sub_self] at h15
  refine F_aload_n dX5_word_0 rfl ?_
  refine F_cV0i (hH) dX5_word_1 rfl rfl (by decide) rfl rfl rfl rfl (by decide) (Nat.le_of_ble_eq_true rfl) (by omega) ?_
  refine F_pop dX5_word_4 rfl ?_
  refine F_aload_n dX5_word_5 rfl ?_
  refine F_aload_n dX5_word_6 rfl ?_
  refine F_getE (v := nI p) dX5_word_7 rfl rfl rfl rfl rfl ?_
  refine F_put dX5_word_10 rfl rfl rfl rfl rfl rfl rfl ?_
  refine F_iconst (v := nI 0) dX5_word_13 rfl ?_
  refine F_istore_n dX5_word_14 (Nat.le_of_ble_eq_true rfl) ?_
  refine F_sg (atS_0 σ p) ?_
  exact h15

/-- the codes of the twelve words -/
def wcs : List Nat := [18 * 32768 + 5 * 1024 + 19 * 32 + 20, 5 * 32768 + 1024 + 19 * 32 + 25, 19 * 33554432 + 20 * 1048576 + 5 * 32768 + 1024 + 4 * 32 + 25, 8 * 32768 + 1024 + 18 * 32 + 4, 12 * 32768 + 15 * 1024 + 14 * 32 + 7, 18 * 32768 + 1024 + 3 * 32 + 5, 7 * 1048576 + 18 * 32768 + 15 * 1024 + 21 * 32 + 16, 12 * 32768 + 15 * 1024 + 32 + 4, 3 * 32768 + 1024 + 13 * 32 + 16, 19 * 1024 + 5 * 32 + 20, 16 * 32768 + 12 * 1024 + 32 + 14, 1048576 + 7 * 32768 + 1024 + 9 * 32 + 14]
/-- the token of a word -/
def wtk (v : Nat) : Nat := if wcs.idxOf v < 12 then wcs.idxOf v else 17
theorem v_letters (a b c e f g : Nat) : mV G mX5_letters d [.int (nI a), .int (nI b), .int (nI c), .int (nI e), .int (nI f), .int (nI g)] σ (some (.int (nI (((((a * 32 + b) * 32 + c) * 32 + e) * 32 + f) * 32 + g)))) σ := by
  refine mV_of fun Q hQ => ?_
  refine F_iload_n dX5_letters_0 rfl ?_
  refine F_bipush (v := nI 32) dX5_letters_1 rfl ?_
  refine F_imulN dX5_letters_3 ?_
  refine F_iload_n dX5_letters_4 rfl ?_
  refine F_iaddN dX5_letters_5 ?_
  refine F_bipush (v := nI 32) dX5_letters_6 rfl ?_
  refine F_imulN dX5_letters_8 ?_
  refine F_iload_n dX5_letters_9 rfl ?_
  refine F_iaddN dX5_letters_10 ?_
  refine F_bipush (v := nI 32) dX5_letters_11 rfl ?_
  refine F_imulN dX5_letters_13 ?_
  refine F_iload_n dX5_letters_14 rfl ?_
  refine F_iaddN dX5_letters_15 ?_
  refine F_bipush (v := nI 32) dX5_letters_16 rfl ?_
  refine F_imulN dX5_letters_18 ?_
  refine F_iload dX5_letters_19 rfl ?_
  refine F_iaddN dX5_letters_21 ?_
  refine F_bipush (v := nI 32) dX5_letters_22 rfl ?_
  refine F_imulN dX5_letters_24 ?_
  refine F_iload dX5_letters_25 rfl ?_
  refine F_iaddN dX5_letters_27 ?_
  refine F_iret dX5_letters_28 rfl ?_
  exact hQ

end TN
