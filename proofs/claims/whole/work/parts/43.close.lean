/-! ===== planning on both sides ===== -/
theorem dX2_closeAgain_0 : decode cX2_closeAgain 0 = .ok (.aload_n 0, 1) := by decide +kernel
theorem dX2_closeAgain_1 : decode cX2_closeAgain 1 = .ok (.getfield 111, 3) := by decide +kernel
theorem dX2_closeAgain_4 : decode cX2_closeAgain 4 = .ok (.ifCond .le 21, 3) := by decide +kernel
theorem dX2_closeAgain_7 : decode cX2_closeAgain 7 = .ok (.aload_n 0, 1) := by decide +kernel
theorem dX2_closeAgain_8 : decode cX2_closeAgain 8 = .ok (.getfield 108, 3) := by decide +kernel
theorem dX2_closeAgain_11 : decode cX2_closeAgain 11 = .ok (.aload_n 0, 1) := by decide +kernel
theorem dX2_closeAgain_12 : decode cX2_closeAgain 12 = .ok (.getfield 25, 3) := by decide +kernel
theorem dX2_closeAgain_15 : decode cX2_closeAgain 15 = .ok (.aload_n 0, 1) := by decide +kernel
theorem dX2_closeAgain_16 : decode cX2_closeAgain 16 = .ok (.getfield 111, 3) := by decide +kernel
theorem dX2_closeAgain_19 : decode cX2_closeAgain 19 = .ok (.iconst 1, 1) := by decide +kernel
theorem dX2_closeAgain_20 : decode cX2_closeAgain 20 = .ok (.isub, 1) := by decide +kernel
theorem dX2_closeAgain_21 : decode cX2_closeAgain 21 = .ok (.iaload, 1) := by decide +kernel
theorem dX2_closeAgain_22 : decode cX2_closeAgain 22 = .ok (.if_icmp .ne 9, 3) := by decide +kernel
theorem dX2_closeAgain_25 : decode cX2_closeAgain 25 = .ok (.aload_n 0, 1) := by decide +kernel
theorem dX2_closeAgain_26 : decode cX2_closeAgain 26 = .ok (.iconst 1, 1) := by decide +kernel
theorem dX2_closeAgain_27 : decode cX2_closeAgain 27 = .ok (.invokevirtual 70, 3) := by decide +kernel
theorem dX2_closeAgain_30 : decode cX2_closeAgain 30 = .ok (.ireturn, 1) := by decide +kernel
theorem dX2_closeAgain_31 : decode cX2_closeAgain 31 = .ok (.aload_n 0, 1) := by decide +kernel
theorem dX2_closeAgain_32 : decode cX2_closeAgain 32 = .ok (.getfield 25, 3) := by decide +kernel
theorem dX2_closeAgain_35 : decode cX2_closeAgain 35 = .ok (.aload_n 0, 1) := by decide +kernel
theorem dX2_closeAgain_36 : decode cX2_closeAgain 36 = .ok (.getfield 111, 3) := by decide +kernel
theorem dX2_closeAgain_39 : decode cX2_closeAgain 39 = .ok (.iconst 1, 1) := by decide +kernel
theorem dX2_closeAgain_40 : decode cX2_closeAgain 40 = .ok (.isub, 1) := by decide +kernel
theorem dX2_closeAgain_41 : decode cX2_closeAgain 41 = .ok (.iaload, 1) := by decide +kernel
theorem dX2_closeAgain_42 : decode cX2_closeAgain 42 = .ok (.istore_n 1, 1) := by decide +kernel
theorem dX2_closeAgain_43 : decode cX2_closeAgain 43 = .ok (.aload_n 0, 1) := by decide +kernel
theorem dX2_closeAgain_44 : decode cX2_closeAgain 44 = .ok (.getfield 108, 3) := by decide +kernel
theorem dX2_closeAgain_47 : decode cX2_closeAgain 47 = .ok (.iload_n 1, 1) := by decide +kernel
theorem dX2_closeAgain_48 : decode cX2_closeAgain 48 = .ok (.isub, 1) := by decide +kernel
theorem dX2_closeAgain_49 : decode cX2_closeAgain 49 = .ok (.istore_n 2, 1) := by decide +kernel
theorem dX2_closeAgain_50 : decode cX2_closeAgain 50 = .ok (.iload_n 1, 1) := by decide +kernel
theorem dX2_closeAgain_51 : decode cX2_closeAgain 51 = .ok (.iload_n 2, 1) := by decide +kernel
theorem dX2_closeAgain_52 : decode cX2_closeAgain 52 = .ok (.aload_n 0, 1) := by decide +kernel
theorem dX2_closeAgain_53 : decode cX2_closeAgain 53 = .ok (.getfield 29, 3) := by decide +kernel
theorem dX2_closeAgain_56 : decode cX2_closeAgain 56 = .ok (.aload_n 0, 1) := by decide +kernel
theorem dX2_closeAgain_57 : decode cX2_closeAgain 57 = .ok (.getfield 111, 3) := by decide +kernel
theorem dX2_closeAgain_60 : decode cX2_closeAgain 60 = .ok (.iconst 1, 1) := by decide +kernel
theorem dX2_closeAgain_61 : decode cX2_closeAgain 61 = .ok (.isub, 1) := by decide +kernel
theorem dX2_closeAgain_62 : decode cX2_closeAgain 62 = .ok (.iaload, 1) := by decide +kernel
theorem dX2_closeAgain_63 : decode cX2_closeAgain 63 = .ok (.imul, 1) := by decide +kernel
theorem dX2_closeAgain_64 : decode cX2_closeAgain 64 = .ok (.iadd, 1) := by decide +kernel
theorem dX2_closeAgain_65 : decode cX2_closeAgain 65 = .ok (.istore_n 3, 1) := by decide +kernel
theorem dX2_closeAgain_66 : decode cX2_closeAgain 66 = .ok (.iload_n 3, 1) := by decide +kernel
theorem dX2_closeAgain_67 : decode cX2_closeAgain 67 = .ok (.bipush 70, 2) := by decide +kernel
theorem dX2_closeAgain_69 : decode cX2_closeAgain 69 = .ok (.if_icmp .le 9, 3) := by decide +kernel
theorem dX2_closeAgain_72 : decode cX2_closeAgain 72 = .ok (.aload_n 0, 1) := by decide +kernel
theorem dX2_closeAgain_73 : decode cX2_closeAgain 73 = .ok (.iconst 4, 1) := by decide +kernel
theorem dX2_closeAgain_74 : decode cX2_closeAgain 74 = .ok (.invokevirtual 70, 3) := by decide +kernel
theorem dX2_closeAgain_77 : decode cX2_closeAgain 77 = .ok (.ireturn, 1) := by decide +kernel
theorem dX2_closeAgain_78 : decode cX2_closeAgain 78 = .ok (.aload_n 0, 1) := by decide +kernel
theorem dX2_closeAgain_79 : decode cX2_closeAgain 79 = .ok (.getfield 21, 3) := by decide +kernel
theorem dX2_closeAgain_82 : decode cX2_closeAgain 82 = .ok (.aload_n 0, 1) := by decide +kernel
theorem dX2_closeAgain_83 : decode cX2_closeAgain 83 = .ok (.getfield 105, 3) := by decide +kernel
theorem dX2_closeAgain_86 : decode cX2_closeAgain 86 = .ok (.iload_n 1, 1) := by decide +kernel
theorem dX2_closeAgain_87 : decode cX2_closeAgain 87 = .ok (.iload_n 2, 1) := by decide +kernel
theorem dX2_closeAgain_88 : decode cX2_closeAgain 88 = .ok (.iload_n 3, 1) := by decide +kernel
theorem dX2_closeAgain_89 : decode cX2_closeAgain 89 = .ok (.invokevirtual 123, 3) := by decide +kernel
theorem dX2_closeAgain_92 : decode cX2_closeAgain 92 = .ok (.aload_n 0, 1) := by decide +kernel
theorem dX2_closeAgain_93 : decode cX2_closeAgain 93 = .ok (.iload_n 3, 1) := by decide +kernel
theorem dX2_closeAgain_94 : decode cX2_closeAgain 94 = .ok (.putfield 108, 3) := by decide +kernel
theorem dX2_closeAgain_97 : decode cX2_closeAgain 97 = .ok (.aload_n 0, 1) := by decide +kernel
theorem dX2_closeAgain_98 : decode cX2_closeAgain 98 = .ok (.dup, 1) := by decide +kernel
theorem dX2_closeAgain_99 : decode cX2_closeAgain 99 = .ok (.getfield 111, 3) := by decide +kernel
theorem dX2_closeAgain_102 : decode cX2_closeAgain 102 = .ok (.iconst 1, 1) := by decide +kernel
theorem dX2_closeAgain_103 : decode cX2_closeAgain 103 = .ok (.isub, 1) := by decide +kernel
theorem dX2_closeAgain_104 : decode cX2_closeAgain 104 = .ok (.putfield 111, 3) := by decide +kernel
theorem dX2_closeAgain_107 : decode cX2_closeAgain 107 = .ok (.aload_n 0, 1) := by decide +kernel
theorem dX2_closeAgain_108 : decode cX2_closeAgain 108 = .ok (.invokevirtual 76, 3) := by decide +kernel
theorem dX2_closeAgain_111 : decode cX2_closeAgain 111 = .ok (.iconst 1, 1) := by decide +kernel
theorem dX2_closeAgain_112 : decode cX2_closeAgain 112 = .ok (.ireturn, 1) := by decide +kernel

def PB (σB : mS) (b : Nat → Int32) (L s i : Nat) (f0 : Nat → Int32) (g d0 day o : Nat) (K : Nat → Int32) (ad tm : Nat → Nat) (n c : Nat) : Prop := LB σB b L s i (plR f0 g K) n c ∧ okR K ∧ σB 13 4 = nI g ∧ σB 13 5 = nI day ∧ σB 13 6 = nI o ∧ g < n ∧ d0 ≤ day ∧ day ≤ 70 ∧ o ≤ 4 ∧ (∀ k, k < o → σB 27 k = nI (ad k) ∧ σB 28 k = nI (tm k) ∧ d0 ≤ ad k ∧ ad k ≤ day ∧ 1 ≤ tm k ∧ tm k ≤ 70) ∧ ∀ k, k < 70 → k < d0 ∨ day ≤ k → K k = f0 (40 + 70 * g + k)
def PM (σM : mS) (b : Nat → Int32) (L p : Nat) (f0 : Nat → Int32) (d0 day o : Nat) (K : Nat → Int32) (ad tm : Nat → Nat) : Prop := LM σM b L p f0 ∧ σM 116 14 = nI (day - d0) ∧ σM 116 15 = nI o ∧ σM 116 16 = nI (70 - d0) ∧ (∀ k, k < o → σM 122 k = nI (ad k - d0) ∧ σM 123 k = nI (tm k)) ∧ ∀ k, k < day - d0 → σM 121 k = K (d0 + k)
/-- both sides read an item -/
def ISim (G : mG) (I J : mI) (b : Nat → Int32) (L s i : Nat) (f0 : Nat → Int32) (g d0 day o : Nat) (K : Nat → Int32) (ad tm : Nat → Nat) (n c : Nat) (σB : mS) : Prop := ∃ (bo : Bool) (σC : mS), mV G I 8 [.ref 13] σB (some (.int (bI bo))) σC ∧ BFr σB σC ∧ ((bo = true ∧ ∃ i2 day2 o2 K2 ad2 tm2, i < i2 ∧ PB σC b L s i2 f0 g d0 day2 o2 K2 ad2 tm2 n c ∧ ∀ σM, PM σM b L (tps b L i) f0 d0 day o K ad tm → σM 116 9 = nI (tps b L i) → ∃ σN, mV G J 9 [.ref 116] σM none σN ∧ PM σN b L (tps b L i2) f0 d0 day2 o2 K2 ad2 tm2 ∧ MFr σM σN) ∨ (bo = false ∧ ∃ F, 0 < F ∧ F < 4096 ∧ σC 13 3 = nI F ∧ ∀ σM, PM σM b L (tps b L i) f0 d0 day o K ad tm → σM 116 9 = nI (tps b L i) → ∃ σN, mV G J 9 [.ref 116] σM none σN ∧ σN 116 7 = nI F ∧ MFr σM σN))
theorem MFr.op (σ : mS) (v : Int32) : MFr σ (up σ 116 15 v) := ⟨fun z z1 z2 z3 => up_n _ _ _ z1, fun k a b c e f g => up_r _ _ _ f⟩
theorem MFr.many (σ : mS) (v : Int32) : MFr σ (up σ 116 14 v) := ⟨fun z z1 z2 z3 => up_n _ _ _ z1, fun k a b c e f g => up_r _ _ _ e⟩
theorem MFr.row (σ : mS) (v : Nat → Int32) : MFr σ (upR σ 121 v) := ⟨fun z z1 z2 z3 => upR_n _ _ (by omega), fun k a b c e f g => by rw [upR_n _ _ (by decide)]⟩
theorem ten_sg {b : Nat → Int32} {L p : Nat} (h : 13 ≤ tkn b L p) (h2 : tkn b L p ≤ 15) : p < L ∧ ten b L p = p + 1 := by
  unfold tkn at h h2
  by_cases hp : p < L
  · rw [if_pos hp] at h h2
    refine ⟨hp, ?_⟩
    unfold ten
    by_cases hl : isLt (b p) = true
    · rw [if_pos hl] at h h2
      rcases wtok_ne (wv b p (rn isLt b L p - p)) with h3 | h3 <;> omega
    · rw [if_neg hl] at h h2 ⊢
      by_cases hd : isDg (b p) = true
      · rw [if_pos hd] at h; omega
      · rw [if_neg hd]
  · rw [if_neg hp] at h2; omega
section PLN
variable {G : mG} {b : Nat → Int32} {L s i n c : Nat} {f0 : Nat → Int32} {g d0 day o : Nat} {K : Nat → Int32} {ad tm : Nat → Nat} {σB : mS}

theorem i_close1 (h4 : L ≤ 400) (hP : PB σB b L s i f0 g d0 day (o + 1) K ad tm n c) (ht : tkn b L (tps b L i) = 14) (hbad : day = ad o ∨ 70 < ad o + (day - ad o) * tm o) : ISim G mX2_closeAgain mX5_closes b L s i f0 g d0 day (o + 1) K ad tm n c σB := by
  obtain ⟨hB, hK, p4, p5, p6, p7, p8, p9, p10, p11, p12⟩ := id hP
  obtain ⟨h1, h2, h3, h5, h6⟩ := id hB
  obtain ⟨q1, q2, q3, q4, q5, q6⟩ := p11 o (by omega)
  have hp4 : tps b L i ≤ 400 := Nat.le_trans (tps_le b L i) h4
  have hmul : (day - ad o) * tm o ≤ 70 * 70 := Nat.mul_le_mul (by omega) (by omega)
  by_cases hz : day = ad o
  · refine ⟨false, up σB 13 3 (nI (1 + 8 * tps b L i)), mV_of fun Q hQ => ?_, BFr.t _ _ _, Or.inr ⟨rfl, 1 + 8 * tps b L i, by omega, by omega, rfl, fun σM hM hat => ?_⟩⟩
    · refine F_aload_n dX2_closeAgain_0 rfl ?_
      refine F_getE (v := nI (o + 1)) dX2_closeAgain_1 rfl rfl rfl rfl p6 ?_
      refine F_if_leN (tgt := 25) dX2_closeAgain_4 rfl (by omega) (fun c4 => ?_) (fun c4 => ?_)
      · exact absurd c4 (by omega)
      · refine F_aload_n dX2_closeAgain_7 rfl ?_
        refine F_getE (v := nI day) dX2_closeAgain_8 rfl rfl rfl rfl p5 ?_
        refine F_aload_n dX2_closeAgain_11 rfl ?_
        refine F_getr dX2_closeAgain_12 rfl rfl rfl rfl ?_
        refine F_aload_n dX2_closeAgain_15 rfl ?_
        refine F_getE (v := nI (o + 1)) dX2_closeAgain_16 rfl rfl rfl rfl p6 ?_
        refine F_iconst (v := nI 1) dX2_closeAgain_19 rfl ?_
        refine F_isubN dX2_closeAgain_20 (by omega) ?_
        refine F_ialdE (v := nI (ad o)) dX2_closeAgain_21 rfl (by decide) (by omega) q1 ?_
        refine F_icmp_neN (tgt := 31) dX2_closeAgain_22 rfl (by omega) (by omega) (fun c22 => ?_) (fun c22 => ?_)
        · exact absurd hz c22
        · refine F_aload_n dX2_closeAgain_25 rfl ?_
          refine F_iconst (v := nI 1) dX2_closeAgain_26 rfl ?_
          refine F_cV1i (v_fail (d := 5) h1 h2 h3 1) dX2_closeAgain_27 rfl rfl (by decide) rfl rfl rfl rfl (by decide) (Nat.le_of_ble_eq_true rfl) (by omega) ?_
          refine F_zret dX2_closeAgain_30 rfl (by first | exact Or.inl rfl | exact Or.inr rfl | exact bI_01 _) ?_
          exact hQ
    · obtain ⟨⟨l1, l2, l3, l4, l5⟩, m1, m2, m3, m4, m5⟩ := hM
      exact ⟨_, v_closesA (G := G) (d := 8) m2 (by omega) (m4 o (by omega)).1 m1 (by omega) (by omega) (m4 o (by omega)).2 q5 q6 m3 (by omega) hat hp4 l3 (by omega), rfl, (MFr.op _ _).trans (MFr.fault _ _)⟩
  · have hbig := hbad.resolve_left hz
    refine ⟨false, up σB 13 3 (nI (4 + 8 * tps b L i)), mV_of fun Q hQ => ?_, BFr.t _ _ _, Or.inr ⟨rfl, 4 + 8 * tps b L i, by omega, by omega, rfl, fun σM hM hat => ?_⟩⟩
    · refine F_aload_n dX2_closeAgain_0 rfl ?_
      refine F_getE (v := nI (o + 1)) dX2_closeAgain_1 rfl rfl rfl rfl p6 ?_
      refine F_if_leN (tgt := 25) dX2_closeAgain_4 rfl (by omega) (fun c4 => ?_) (fun c4 => ?_)
      · exact absurd c4 (by omega)
      · refine F_aload_n dX2_closeAgain_7 rfl ?_
        refine F_getE (v := nI day) dX2_closeAgain_8 rfl rfl rfl rfl p5 ?_
        refine F_aload_n dX2_closeAgain_11 rfl ?_
        refine F_getr dX2_closeAgain_12 rfl rfl rfl rfl ?_
        refine F_aload_n dX2_closeAgain_15 rfl ?_
        refine F_getE (v := nI (o + 1)) dX2_closeAgain_16 rfl rfl rfl rfl p6 ?_
        refine F_iconst (v := nI 1) dX2_closeAgain_19 rfl ?_
        refine F_isubN dX2_closeAgain_20 (by omega) ?_
        refine F_ialdE (v := nI (ad o)) dX2_closeAgain_21 rfl (by decide) (by omega) q1 ?_
        refine F_icmp_neN (tgt := 31) dX2_closeAgain_22 rfl (by omega) (by omega) (fun c22 => ?_) (fun c22 => ?_)
        · refine F_aload_n dX2_closeAgain_31 rfl ?_
          refine F_getr dX2_closeAgain_32 rfl rfl rfl rfl ?_
          refine F_aload_n dX2_closeAgain_35 rfl ?_
          refine F_getE (v := nI (o + 1)) dX2_closeAgain_36 rfl rfl rfl rfl p6 ?_
          refine F_iconst (v := nI 1) dX2_closeAgain_39 rfl ?_
          refine F_isubN dX2_closeAgain_40 (by omega) ?_
          refine F_ialdE (v := nI (ad o)) dX2_closeAgain_41 rfl (by decide) (by omega) q1 ?_
          refine F_istore_n dX2_closeAgain_42 (Nat.le_of_ble_eq_true rfl) ?_
          refine F_aload_n dX2_closeAgain_43 rfl ?_
          refine F_getE (v := nI day) dX2_closeAgain_44 rfl rfl rfl rfl p5 ?_
          refine F_iload_n dX2_closeAgain_47 rfl ?_
          refine F_isubN dX2_closeAgain_48 (by omega) ?_
          refine F_istore_n dX2_closeAgain_49 (Nat.le_of_ble_eq_true rfl) ?_
          refine F_iload_n dX2_closeAgain_50 rfl ?_
          refine F_iload_n dX2_closeAgain_51 rfl ?_
          refine F_aload_n dX2_closeAgain_52 rfl ?_
          refine F_getr dX2_closeAgain_53 rfl rfl rfl rfl ?_
          refine F_aload_n dX2_closeAgain_56 rfl ?_
          refine F_getE (v := nI (o + 1)) dX2_closeAgain_57 rfl rfl rfl rfl p6 ?_
          refine F_iconst (v := nI 1) dX2_closeAgain_60 rfl ?_
          refine F_isubN dX2_closeAgain_61 (by omega) ?_
          refine F_ialdE (v := nI (tm o)) dX2_closeAgain_62 rfl (by decide) (by omega) q2 ?_
          refine F_imulN dX2_closeAgain_63 ?_
          refine F_iaddN dX2_closeAgain_64 ?_
          refine F_istore_n dX2_closeAgain_65 (Nat.le_of_ble_eq_true rfl) ?_
          refine F_iload_n dX2_closeAgain_66 rfl ?_
          refine F_bipush (v := nI 70) dX2_closeAgain_67 rfl ?_
          refine F_icmp_leN (tgt := 78) dX2_closeAgain_69 rfl (by omega) (by omega) (fun c69 => ?_) (fun c69 => ?_)
          · exact absurd c69 (by omega)
          · refine F_aload_n dX2_closeAgain_72 rfl ?_
            refine F_iconst (v := nI 4) dX2_closeAgain_73 rfl ?_
            refine F_cV1i (v_fail (d := 5) h1 h2 h3 4) dX2_closeAgain_74 rfl rfl (by decide) rfl rfl rfl rfl (by decide) (Nat.le_of_ble_eq_true rfl) (by omega) ?_
            refine F_zret dX2_closeAgain_77 rfl (by first | exact Or.inl rfl | exact Or.inr rfl | exact bI_01 _) ?_
            exact hQ
        · exact absurd (Decidable.not_not.mp c22) hz
    · obtain ⟨⟨l1, l2, l3, l4, l5⟩, m1, m2, m3, m4, m5⟩ := hM
      have em : day - d0 - (ad o - d0) = day - ad o := by omega
      have et : (day - ad o) * tm o = (day - ad o) * (tm o - 1) + (day - ad o) := by
        rw [← Nat.mul_succ, show Nat.succ (tm o - 1) = tm o by omega]
      exact ⟨_, v_closesB (G := G) (d := 8) m2 (by omega) (m4 o (by omega)).1 m1 (by omega) (by omega) (m4 o (by omega)).2 q5 q6 m3 (by omega) hat hp4 l3 (by omega) (by rw [em]; omega), rfl, (MFr.op _ _).trans (MFr.fault _ _)⟩

theorem i_close2 (h4 : L ≤ 400) (hP : PB σB b L s i f0 g d0 day (o + 1) K ad tm n c) (ht : tkn b L (tps b L i) = 14) (hne : ad o < day) (hle : (ad o + (day - ad o) * tm o) ≤ 70) : ISim G mX2_closeAgain mX5_closes b L s i f0 g d0 day (o + 1) K ad tm n c σB := by
  obtain ⟨hB, hK, p4, p5, p6, p7, p8, p9, p10, p11, p12⟩ := id hP
  obtain ⟨h1, h2, h3, h5, h6⟩ := id hB
  obtain ⟨q1, q2, q3, q4, q5, q6⟩ := p11 o (by omega)
  have hlt := h1.lt h3 (by rw [ht]; decide)
  have hsg := ten_sg (b := b) (L := L) (p := tps b L i) (by omega) (by omega)
  have hp4 : tps b L i ≤ 400 := Nat.le_trans (tps_le b L i) h4
  have hn6 := h6.1.1
  have et : (day - ad o) * tm o = (day - ad o) * (tm o - 1) + (day - ad o) := by
    rw [← Nat.mul_succ, show Nat.succ (tm o - 1) = tm o by omega]
  have hr := fun x (hx : x < 70) => (h6.2.2.2.2.2.2.1 g p7).2.2 x hx
  have hc1 : TC (up (up (upR σB 22 (rpK (σB 22) (g * 70 + ad o) (day - ad o) ((ad o + (day - ad o) * tm o) - ad o))) 13 5 (nI (ad o + (day - ad o) * tm o))) 13 6 (nI o)) b L s := h1.rows (fun z z1 z2 => by rw [up_n _ _ _ (by omega), up_n _ _ _ (by omega), upR_n _ _ (by omega)])
  have hrk := v_repeatKinds (G := G) (d := 5) (σ := σB) (b := 19) isTold_19 (g := g) (a := ad o) (len := day - ad o) (e := (ad o + (day - ad o) * tm o)) (by omega) (by omega) (by omega) hle
  refine ⟨true, (up (up (up (upR σB 22 (rpK (σB 22) (g * 70 + ad o) (day - ad o) ((ad o + (day - ad o) * tm o) - ad o))) 13 5 (nI (ad o + (day - ad o) * tm o))) 13 6 (nI o)) 13 2 (nI (i + 1))), mV_of fun Q hQ => ?_, fun z z1 z2 => ?_, Or.inl ⟨rfl, i + 1, (ad o + (day - ad o) * tm o), o, rpK K (ad o) (day - ad o) ((day - ad o) * tm o), ad, tm, by omega, ⟨⟨?_, rfl, by omega, h5, ?_⟩, hK.rp (by omega) (by omega), p4, rfl, rfl, p7, by omega, hle, by omega, fun k hk => ?_, fun k hk hk2 => ?_⟩, fun σM hM hat => ?_⟩⟩
  · refine F_aload_n dX2_closeAgain_0 rfl ?_
    refine F_getE (v := nI (o + 1)) dX2_closeAgain_1 rfl rfl rfl rfl p6 ?_
    refine F_if_leN (tgt := 25) dX2_closeAgain_4 rfl (by omega) (fun c4 => ?_) (fun c4 => ?_)
    · exact absurd c4 (by omega)
    · refine F_aload_n dX2_closeAgain_7 rfl ?_
      refine F_getE (v := nI day) dX2_closeAgain_8 rfl rfl rfl rfl p5 ?_
      refine F_aload_n dX2_closeAgain_11 rfl ?_
      refine F_getr dX2_closeAgain_12 rfl rfl rfl rfl ?_
      refine F_aload_n dX2_closeAgain_15 rfl ?_
      refine F_getE (v := nI (o + 1)) dX2_closeAgain_16 rfl rfl rfl rfl p6 ?_
      refine F_iconst (v := nI 1) dX2_closeAgain_19 rfl ?_
      refine F_isubN dX2_closeAgain_20 (by omega) ?_
      refine F_ialdE (v := nI (ad o)) dX2_closeAgain_21 rfl (by decide) (by omega) q1 ?_
      refine F_icmp_neN (tgt := 31) dX2_closeAgain_22 rfl (by omega) (by omega) (fun c22 => ?_) (fun c22 => ?_)
      · refine F_aload_n dX2_closeAgain_31 rfl ?_
        refine F_getr dX2_closeAgain_32 rfl rfl rfl rfl ?_
        refine F_aload_n dX2_closeAgain_35 rfl ?_
        refine F_getE (v := nI (o + 1)) dX2_closeAgain_36 rfl rfl rfl rfl p6 ?_
        refine F_iconst (v := nI 1) dX2_closeAgain_39 rfl ?_
        refine F_isubN dX2_closeAgain_40 (by omega) ?_
        refine F_ialdE (v := nI (ad o)) dX2_closeAgain_41 rfl (by decide) (by omega) q1 ?_
        refine F_istore_n dX2_closeAgain_42 (Nat.le_of_ble_eq_true rfl) ?_
        refine F_aload_n dX2_closeAgain_43 rfl ?_
        refine F_getE (v := nI day) dX2_closeAgain_44 rfl rfl rfl rfl p5 ?_
        refine F_iload_n dX2_closeAgain_47 rfl ?_
        refine F_isubN dX2_closeAgain_48 (by omega) ?_
        refine F_istore_n dX2_closeAgain_49 (Nat.le_of_ble_eq_true rfl) ?_
        refine F_iload_n dX2_closeAgain_50 rfl ?_
        refine F_iload_n dX2_closeAgain_51 rfl ?_
        refine F_aload_n dX2_closeAgain_52 rfl ?_
        refine F_getr dX2_closeAgain_53 rfl rfl rfl rfl ?_
        refine F_aload_n dX2_closeAgain_56 rfl ?_
        refine F_getE (v := nI (o + 1)) dX2_closeAgain_57 rfl rfl rfl rfl p6 ?_
        refine F_iconst (v := nI 1) dX2_closeAgain_60 rfl ?_
        refine F_isubN dX2_closeAgain_61 (by omega) ?_
        refine F_ialdE (v := nI (tm o)) dX2_closeAgain_62 rfl (by decide) (by omega) q2 ?_
        refine F_imulN dX2_closeAgain_63 ?_
        refine F_iaddN dX2_closeAgain_64 ?_
        refine F_istore_n dX2_closeAgain_65 (Nat.le_of_ble_eq_true rfl) ?_
        refine F_iload_n dX2_closeAgain_66 rfl ?_
        refine F_bipush (v := nI 70) dX2_closeAgain_67 rfl ?_
        refine F_icmp_leN (tgt := 78) dX2_closeAgain_69 rfl (by omega) (by omega) (fun c69 => ?_) (fun c69 => ?_)
        · refine F_aload_n dX2_closeAgain_78 rfl ?_
          refine F_getr dX2_closeAgain_79 rfl rfl rfl rfl ?_
          refine F_aload_n dX2_closeAgain_82 rfl ?_
          refine F_getE (v := nI g) dX2_closeAgain_83 rfl rfl rfl rfl p4 ?_
          refine F_iload_n dX2_closeAgain_86 rfl ?_
          refine F_iload_n dX2_closeAgain_87 rfl ?_
          refine F_iload_n dX2_closeAgain_88 rfl ?_
          refine F_cV4v (hrk) dX2_closeAgain_89 rfl rfl (by decide) rfl rfl rfl rfl (by decide) (Nat.le_of_ble_eq_true rfl) (by omega) ?_
          refine F_aload_n dX2_closeAgain_92 rfl ?_
          refine F_iload_n dX2_closeAgain_93 rfl ?_
          refine F_put dX2_closeAgain_94 rfl rfl rfl rfl rfl rfl rfl ?_
          refine F_aload_n dX2_closeAgain_97 rfl ?_
          refine F_dup dX2_closeAgain_98 rfl ?_
          refine F_getE (v := nI (o + 1)) dX2_closeAgain_99 rfl rfl rfl rfl p6 ?_
          refine F_iconst (v := nI 1) dX2_closeAgain_102 rfl ?_
          refine F_isubN dX2_closeAgain_103 (by omega) ?_
          refine F_put dX2_closeAgain_104 rfl rfl rfl rfl rfl rfl rfl ?_
          refine F_aload_n dX2_closeAgain_107 rfl ?_
          refine F_cV0v (v_step (d := 5) hc1 h2 h3 hlt) dX2_closeAgain_108 rfl rfl (by decide) rfl rfl rfl rfl (by decide) (Nat.le_of_ble_eq_true rfl) (by omega) ?_
          refine F_iconst (v := nI 1) dX2_closeAgain_111 rfl ?_
          refine F_zret dX2_closeAgain_112 rfl (by first | exact Or.inl rfl | exact Or.inr rfl | exact bI_01 _) ?_
          exact hQ
        · exact absurd hle c69
      · exact absurd (Decidable.not_not.mp c22) (by omega)
  · rw [up_n _ _ _ z1, up_n _ _ _ z1, up_n _ _ _ z1, upR_n _ _ (by omega)]
  · exact h1.rows (fun z z1 z2 => by rw [up_n _ _ _ (by omega), up_n _ _ _ (by omega), up_n _ _ _ (by omega), upR_n _ _ (by omega)])
  · have hT := TRf.pl h6 p7 (hK.rp (a := ad o) (len := day - ad o) (tot := (day - ad o) * tm o) (by omega) (by omega)) (q := rpK (σB 22) (g * 70 + ad o) (day - ad o) ((ad o + (day - ad o) * tm o) - ad o)) (fun x hx => ?_) (fun x hx => ?_)
    · rw [plR_plR] at hT
      exact hT
    · simp only [rpK]
      by_cases hin : ad o ≤ x ∧ x < ad o + (day - ad o) * tm o
      · have hm := Nat.mod_lt (x - ad o) (show 0 < day - ad o by omega)
        rw [if_pos (by omega), if_pos hin, show g * 70 + x - (g * 70 + ad o) = x - ad o by omega, Nat.add_assoc]
        have := hr (ad o + (x - ad o) % (day - ad o)) (by omega)
        rw [plR_in _ _ _ (by omega)] at this
        exact this
      · rw [if_neg (by omega), if_neg hin]
        have := hr x hx
        rw [plR_in _ _ _ hx] at this
        exact this
    · simp only [rpK]
      rw [if_neg (by omega)]
  · obtain ⟨y1, y2, y3, y4, y5, y6⟩ := p11 k (by omega)
    exact ⟨y1, y2, y3, by omega, y5, y6⟩
  · simp only [rpK]
    rw [if_neg (by omega)]
    exact p12 k hk (by omega)
  · obtain ⟨⟨l1, l2, l3, l4, l5⟩, m1, m2, m3, m4, m5⟩ := hM
    have em : day - d0 - (ad o - d0) = day - ad o := by omega
    have hv := v_closesC (G := G) (d := 8) m2 (by omega) (m4 o (by omega)).1 m1 (by omega) (by omega) (m4 o (by omega)).2 q5 q6 m3 (by omega) hat hp4 l3 (by omega) (by rw [em]; omega)
    refine ⟨_, hv, ⟨⟨l1, ⟨tps b L i + 1, by omega, rfl, ?_⟩, l3, l4, l5⟩, ?_, rfl, m3, fun k hk => m4 k (by omega), fun k hk => ?_⟩, (((MFr.op _ _).trans (MFr.row _ _)).trans (MFr.many _ _)).trans (MFr.atq _ _)⟩
    · rw [h1.next hlt]
      unfold nxt
      rw [hsg.2]
    · show nI _ = nI _
      rw [em]
      congr 1
      omega
    · show rpK (σM 121) (ad o - d0) (day - d0 - (ad o - d0)) (day - d0 - (ad o - d0) + (day - d0 - (ad o - d0)) * (tm o - 1)) k = rpK K (ad o) (day - ad o) ((day - ad o) * tm o) (d0 + k)
      rw [em]
      simp only [rpK]
      by_cases hin : ad o - d0 ≤ k
      · have hm := Nat.mod_lt (k - (ad o - d0)) (show 0 < day - ad o by omega)
        rw [if_pos (by omega), if_pos (by omega), m5 _ (by omega), show d0 + k - ad o = k - (ad o - d0) by omega]
        congr 1
        omega
      · rw [if_neg (by omega), if_neg (by omega)]
        exact m5 k (by omega)

end PLN
