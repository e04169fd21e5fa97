/-! ===== a text on both sides ===== -/
theorem dX2_readText_0 : decode cX2_readText 0 = .ok (.aload_n 0, 1) := by decide +kernel
theorem dX2_readText_1 : decode cX2_readText 1 = .ok (.getfield 21, 3) := by decide +kernel
theorem dX2_readText_4 : decode cX2_readText 4 = .ok (.aload_n 1, 1) := by decide +kernel
theorem dX2_readText_5 : decode cX2_readText 5 = .ok (.invokevirtual 32, 3) := by decide +kernel
theorem dX2_readText_8 : decode cX2_readText 8 = .ok (.aload_n 0, 1) := by decide +kernel
theorem dX2_readText_9 : decode cX2_readText 9 = .ok (.iconst 0, 1) := by decide +kernel
theorem dX2_readText_10 : decode cX2_readText 10 = .ok (.putfield 36, 3) := by decide +kernel
theorem dX2_readText_13 : decode cX2_readText 13 = .ok (.aload_n 0, 1) := by decide +kernel
theorem dX2_readText_14 : decode cX2_readText 14 = .ok (.iconst 0, 1) := by decide +kernel
theorem dX2_readText_15 : decode cX2_readText 15 = .ok (.putfield 40, 3) := by decide +kernel
theorem dX2_readText_18 : decode cX2_readText 18 = .ok (.iconst 0, 1) := by decide +kernel
theorem dX2_readText_19 : decode cX2_readText 19 = .ok (.istore_n 2, 1) := by decide +kernel
theorem dX2_readText_20 : decode cX2_readText 20 = .ok (.iload_n 2, 1) := by decide +kernel
theorem dX2_readText_21 : decode cX2_readText 21 = .ok (.sipush 400, 3) := by decide +kernel
theorem dX2_readText_24 : decode cX2_readText 24 = .ok (.if_icmp .gt 36, 3) := by decide +kernel
theorem dX2_readText_27 : decode cX2_readText 27 = .ok (.aload_n 0, 1) := by decide +kernel
theorem dX2_readText_28 : decode cX2_readText 28 = .ok (.invokevirtual 43, 3) := by decide +kernel
theorem dX2_readText_31 : decode cX2_readText 31 = .ok (.bipush 16, 2) := by decide +kernel
theorem dX2_readText_33 : decode cX2_readText 33 = .ok (.if_icmp .eq 27, 3) := by decide +kernel
theorem dX2_readText_36 : decode cX2_readText 36 = .ok (.aload_n 0, 1) := by decide +kernel
theorem dX2_readText_37 : decode cX2_readText 37 = .ok (.invokevirtual 47, 3) := by decide +kernel
theorem dX2_readText_40 : decode cX2_readText 40 = .ok (.ifCond .eq 12, 3) := by decide +kernel
theorem dX2_readText_43 : decode cX2_readText 43 = .ok (.aload_n 0, 1) := by decide +kernel
theorem dX2_readText_44 : decode cX2_readText 44 = .ok (.bipush 15, 2) := by decide +kernel
theorem dX2_readText_46 : decode cX2_readText 46 = .ok (.invokevirtual 51, 3) := by decide +kernel
theorem dX2_readText_49 : decode cX2_readText 49 = .ok (.ifCond .ne 5, 3) := by decide +kernel
theorem dX2_readText_52 : decode cX2_readText 52 = .ok (.iconst (-1), 1) := by decide +kernel
theorem dX2_readText_53 : decode cX2_readText 53 = .ok (.ireturn, 1) := by decide +kernel
theorem dX2_readText_54 : decode cX2_readText 54 = .ok (.iinc 2 1, 3) := by decide +kernel
theorem dX2_readText_57 : decode cX2_readText 57 = .ok (.goto (-37), 3) := by decide +kernel
theorem dX2_readText_60 : decode cX2_readText 60 = .ok (.iload_n 2, 1) := by decide +kernel
theorem dX2_readText_61 : decode cX2_readText 61 = .ok (.ireturn, 1) := by decide +kernel
theorem dX5_tell_0 : decode cX5_tell 0 = .ok (.aload_n 0, 1) := by decide +kernel
theorem dX5_tell_1 : decode cX5_tell 1 = .ok (.iconst 0, 1) := by decide +kernel
theorem dX5_tell_2 : decode cX5_tell 2 = .ok (.putfield 61, 3) := by decide +kernel
theorem dX5_tell_5 : decode cX5_tell 5 = .ok (.aload_n 0, 1) := by decide +kernel
theorem dX5_tell_6 : decode cX5_tell 6 = .ok (.aload_n 0, 1) := by decide +kernel
theorem dX5_tell_7 : decode cX5_tell 7 = .ok (.getfield 117, 3) := by decide +kernel
theorem dX5_tell_10 : decode cX5_tell 10 = .ok (.putfield 126, 3) := by decide +kernel
theorem dX5_tell_13 : decode cX5_tell 13 = .ok (.aload_n 0, 1) := by decide +kernel
theorem dX5_tell_14 : decode cX5_tell 14 = .ok (.iconst 0, 1) := by decide +kernel
theorem dX5_tell_15 : decode cX5_tell 15 = .ok (.putfield 117, 3) := by decide +kernel
theorem dX5_tell_18 : decode cX5_tell 18 = .ok (.aload_n 0, 1) := by decide +kernel
theorem dX5_tell_19 : decode cX5_tell 19 = .ok (.iconst 0, 1) := by decide +kernel
theorem dX5_tell_20 : decode cX5_tell 20 = .ok (.putfield 129, 3) := by decide +kernel
theorem dX5_tell_23 : decode cX5_tell 23 = .ok (.aload_n 0, 1) := by decide +kernel
theorem dX5_tell_24 : decode cX5_tell 24 = .ok (.iconst 0, 1) := by decide +kernel
theorem dX5_tell_25 : decode cX5_tell 25 = .ok (.putfield 123, 3) := by decide +kernel
theorem dX5_tell_28 : decode cX5_tell 28 = .ok (.iconst 0, 1) := by decide +kernel
theorem dX5_tell_29 : decode cX5_tell 29 = .ok (.istore_n 1, 1) := by decide +kernel
theorem dX5_tell_30 : decode cX5_tell 30 = .ok (.iload_n 1, 1) := by decide +kernel
theorem dX5_tell_31 : decode cX5_tell 31 = .ok (.sipush 460, 3) := by decide +kernel
theorem dX5_tell_34 : decode cX5_tell 34 = .ok (.if_icmp .ge 21, 3) := by decide +kernel
theorem dX5_tell_37 : decode cX5_tell 37 = .ok (.aload_n 0, 1) := by decide +kernel
theorem dX5_tell_38 : decode cX5_tell 38 = .ok (.getfield 16, 3) := by decide +kernel
theorem dX5_tell_41 : decode cX5_tell 41 = .ok (.iload_n 1, 1) := by decide +kernel
theorem dX5_tell_42 : decode cX5_tell 42 = .ok (.aload_n 0, 1) := by decide +kernel
theorem dX5_tell_43 : decode cX5_tell 43 = .ok (.getfield 7, 3) := by decide +kernel
theorem dX5_tell_46 : decode cX5_tell 46 = .ok (.iload_n 1, 1) := by decide +kernel
theorem dX5_tell_47 : decode cX5_tell 47 = .ok (.iaload, 1) := by decide +kernel
theorem dX5_tell_48 : decode cX5_tell 48 = .ok (.iastore, 1) := by decide +kernel
theorem dX5_tell_49 : decode cX5_tell 49 = .ok (.iinc 1 1, 3) := by decide +kernel
theorem dX5_tell_52 : decode cX5_tell 52 = .ok (.goto (-22), 3) := by decide +kernel
theorem dX5_tell_55 : decode cX5_tell 55 = .ok (.iconst 0, 1) := by decide +kernel
theorem dX5_tell_56 : decode cX5_tell 56 = .ok (.istore_n 1, 1) := by decide +kernel
theorem dX5_tell_57 : decode cX5_tell 57 = .ok (.aload_n 0, 1) := by decide +kernel
theorem dX5_tell_58 : decode cX5_tell 58 = .ok (.getfield 129, 3) := by decide +kernel
theorem dX5_tell_61 : decode cX5_tell 61 = .ok (.ifCond .ne 56, 3) := by decide +kernel
theorem dX5_tell_64 : decode cX5_tell 64 = .ok (.aload_n 0, 1) := by decide +kernel
theorem dX5_tell_65 : decode cX5_tell 65 = .ok (.invokevirtual 132, 3) := by decide +kernel
theorem dX5_tell_68 : decode cX5_tell 68 = .ok (.iconst (-1), 1) := by decide +kernel
theorem dX5_tell_69 : decode cX5_tell 69 = .ok (.if_icmp .eq 48, 3) := by decide +kernel
theorem dX5_tell_72 : decode cX5_tell 72 = .ok (.aload_n 0, 1) := by decide +kernel
theorem dX5_tell_73 : decode cX5_tell 73 = .ok (.invokevirtual 179, 3) := by decide +kernel
theorem dX5_tell_76 : decode cX5_tell 76 = .ok (.aload_n 0, 1) := by decide +kernel
theorem dX5_tell_77 : decode cX5_tell 77 = .ok (.getfield 129, 3) := by decide +kernel
theorem dX5_tell_80 : decode cX5_tell 80 = .ok (.ifCond .ne 21, 3) := by decide +kernel
theorem dX5_tell_83 : decode cX5_tell 83 = .ok (.aload_n 0, 1) := by decide +kernel
theorem dX5_tell_84 : decode cX5_tell 84 = .ok (.invokevirtual 132, 3) := by decide +kernel
theorem dX5_tell_87 : decode cX5_tell 87 = .ok (.bipush 59, 2) := by decide +kernel
theorem dX5_tell_89 : decode cX5_tell 89 = .ok (.if_icmp .eq 12, 3) := by decide +kernel
theorem dX5_tell_92 : decode cX5_tell 92 = .ok (.aload_n 0, 1) := by decide +kernel
theorem dX5_tell_93 : decode cX5_tell 93 = .ok (.iconst 1, 1) := by decide +kernel
theorem dX5_tell_94 : decode cX5_tell 94 = .ok (.aload_n 0, 1) := by decide +kernel
theorem dX5_tell_95 : decode cX5_tell 95 = .ok (.getfield 123, 3) := by decide +kernel
theorem dX5_tell_98 : decode cX5_tell 98 = .ok (.invokevirtual 142, 3) := by decide +kernel
theorem dX5_tell_101 : decode cX5_tell 101 = .ok (.aload_n 0, 1) := by decide +kernel
theorem dX5_tell_102 : decode cX5_tell 102 = .ok (.dup, 1) := by decide +kernel
theorem dX5_tell_103 : decode cX5_tell 103 = .ok (.getfield 123, 3) := by decide +kernel
theorem dX5_tell_106 : decode cX5_tell 106 = .ok (.iconst 1, 1) := by decide +kernel
theorem dX5_tell_107 : decode cX5_tell 107 = .ok (.iadd, 1) := by decide +kernel
theorem dX5_tell_108 : decode cX5_tell 108 = .ok (.putfield 123, 3) := by decide +kernel
theorem dX5_tell_111 : decode cX5_tell 111 = .ok (.iinc 1 1, 3) := by decide +kernel
theorem dX5_tell_114 : decode cX5_tell 114 = .ok (.goto (-57), 3) := by decide +kernel
theorem dX5_tell_117 : decode cX5_tell 117 = .ok (.aload_n 0, 1) := by decide +kernel
theorem dX5_tell_118 : decode cX5_tell 118 = .ok (.getfield 129, 3) := by decide +kernel
theorem dX5_tell_121 : decode cX5_tell 121 = .ok (.ifCond .ne 13, 3) := by decide +kernel
theorem dX5_tell_124 : decode cX5_tell 124 = .ok (.aload_n 0, 1) := by decide +kernel
theorem dX5_tell_125 : decode cX5_tell 125 = .ok (.aload_n 0, 1) := by decide +kernel
theorem dX5_tell_126 : decode cX5_tell 126 = .ok (.getfield 16, 3) := by decide +kernel
theorem dX5_tell_129 : decode cX5_tell 129 = .ok (.invokevirtual 89, 3) := by decide +kernel
theorem dX5_tell_132 : decode cX5_tell 132 = .ok (.iload_n 1, 1) := by decide +kernel
theorem dX5_tell_133 : decode cX5_tell 133 = .ok (.ireturn, 1) := by decide +kernel
theorem dX5_tell_134 : decode cX5_tell 134 = .ok (.iconst 0, 1) := by decide +kernel
theorem dX5_tell_135 : decode cX5_tell 135 = .ok (.istore_n 2, 1) := by decide +kernel
theorem dX5_tell_136 : decode cX5_tell 136 = .ok (.iload_n 2, 1) := by decide +kernel
theorem dX5_tell_137 : decode cX5_tell 137 = .ok (.sipush 460, 3) := by decide +kernel
theorem dX5_tell_140 : decode cX5_tell 140 = .ok (.if_icmp .ge 21, 3) := by decide +kernel
theorem dX5_tell_143 : decode cX5_tell 143 = .ok (.aload_n 0, 1) := by decide +kernel
theorem dX5_tell_144 : decode cX5_tell 144 = .ok (.getfield 7, 3) := by decide +kernel
theorem dX5_tell_147 : decode cX5_tell 147 = .ok (.iload_n 2, 1) := by decide +kernel
theorem dX5_tell_148 : decode cX5_tell 148 = .ok (.aload_n 0, 1) := by decide +kernel
theorem dX5_tell_149 : decode cX5_tell 149 = .ok (.getfield 16, 3) := by decide +kernel
theorem dX5_tell_152 : decode cX5_tell 152 = .ok (.iload_n 2, 1) := by decide +kernel
theorem dX5_tell_153 : decode cX5_tell 153 = .ok (.iaload, 1) := by decide +kernel
theorem dX5_tell_154 : decode cX5_tell 154 = .ok (.iastore, 1) := by decide +kernel
theorem dX5_tell_155 : decode cX5_tell 155 = .ok (.iinc 2 1, 3) := by decide +kernel
theorem dX5_tell_158 : decode cX5_tell 158 = .ok (.goto (-22), 3) := by decide +kernel
theorem dX5_tell_161 : decode cX5_tell 161 = .ok (.iconst (-1), 1) := by decide +kernel
theorem dX5_tell_162 : decode cX5_tell 162 = .ok (.ireturn, 1) := by decide +kernel

theorem by_n10 : ∀ k, k < 256 → ¬ (nI k - nI 128) &&& nI 255 = (-1 : Int32) := by decide +kernel
theorem hr_16 {b : Nat → Int32} {L p : Nat} (hby : ∀ k, k < L → isByte (b k)) : hrV b L p = -1 ↔ tkn b L p = 16 := by
  by_cases hp : p < L
  · have h1 := (tkn_16 (b := b) hp).1
    unfold hrV
    rw [if_pos hp]
    obtain ⟨k, hk, e⟩ := by_n (hby p hp)
    rw [e]
    exact ⟨fun z => absurd z (by_n10 k hk), fun z => absurd z h1⟩
  · unfold hrV tkn
    rw [if_neg hp, if_neg hp]
    exact ⟨fun _ => rfl, fun _ => rfl⟩
section CGR
variable {b e : Nat → Int32} {L : Nat}
theorem run_cg (P : Int32 → Bool) (h : ∀ k, k < L → b k = e k) : ∀ n a, a + n ≤ L → run P b n a = run P e n a := by
  intro n
  induction n with
  | zero => intro a _; rfl
  | succ n ih =>
    intro a ha
    show (if P (b a) = true then _ else _) = (if P (e a) = true then _ else _)
    rw [h a (by omega), ih (a + 1) (by omega)]
theorem rn_cg (P : Int32 → Bool) (h : ∀ k, k < L → b k = e k) (a : Nat) : rn P b L a = rn P e L a := by
  by_cases ha : a ≤ L
  · exact run_cg P h (L - a) a (by omega)
  · rw [rn_end (by omega), rn_end (by omega)]
theorem nv_cg (h : ∀ k, k < L → b k = e k) (p : Nat) : ∀ m, p + m ≤ L → nv b p m = nv e p m := by
  intro m
  induction m with
  | zero => intro _; rfl
  | succ m ih =>
    intro hm
    simp only [nv]
    rw [ih (by omega), h (p + m) (by omega)]
theorem wv_cg (h : ∀ k, k < L → b k = e k) (p : Nat) : ∀ m, p + m ≤ L → wv b p m = wv e p m := by
  intro m
  induction m with
  | zero => intro _; rfl
  | succ m ih =>
    intro hm
    simp only [wv]
    rw [ih (by omega), h (p + m) (by omega)]
theorem tkn_cg (h : ∀ k, k < L → b k = e k) (p : Nat) : tkn b L p = tkn e L p := by
  unfold tkn
  by_cases hp : p < L
  · have h1 := rn_le (P := isLt) (b := b) (L := L) (a := p) (by omega)
    have h2 := rn_ge (P := isLt) (b := b) (L := L) (a := p)
    rw [if_pos hp, if_pos hp, wv_cg h p _ (by omega), rn_cg isLt h, h p hp]
  · rw [if_neg hp, if_neg hp]
theorem tkv_cg (h : ∀ k, k < L → b k = e k) (p : Nat) : tkv b L p = tkv e L p := by
  unfold tkv
  by_cases hp : p < L
  · have h1 := rn_le (P := isDg) (b := b) (L := L) (a := p) (by omega)
    have h2 := rn_ge (P := isDg) (b := b) (L := L) (a := p)
    rw [nv_cg h p _ (by omega), rn_cg isDg h, h p hp]
  · rw [if_neg (fun z => hp z.1), if_neg (fun z => hp z.1)]
theorem ten_cg (h : ∀ k, k < L → b k = e k) {p : Nat} (hp : p < L) : ten b L p = ten e L p := by
  unfold ten
  rw [h p hp, rn_cg isLt h, rn_cg isDg h]
theorem tps_cg (h : ∀ k, k < L → b k = e k) : ∀ i, tps b L i = tps e L i := by
  intro i
  induction i with
  | zero => exact rn_cg isBl h 0
  | succ i ih =>
    simp only [tps]
    rw [ih]
    by_cases hp : tps e L i < L
    · rw [if_pos hp, if_pos hp]
      unfold nxt
      rw [ten_cg h hp, rn_cg isBl h]
    · rw [if_neg hp, if_neg hp]
theorem TK_cg (h : ∀ k, k < L → b k = e k) {τ : mS} {s : Nat} (hT : TK τ b L s) : TK τ e L s := fun i hi => by
  have := hT i hi
  rw [tps_cg h, tkn_cg h, tkv_cg h] at this
  exact this
end CGR
section TXT
variable {G : mG} {b : Nat → Int32} {L s : Nat}

theorem l_tell (h4 : L ≤ 400) (hby : ∀ k, k < L → isByte (b k)) : ∀ q i f n c cnt σB, i + q = s → cnt ≤ i → LB σB b L s i f n c → ∃ (r : Int32) (σC : mS), (∀ Q : Option Value → mS → Prop, Q (some (.int r)) σC → mF G mX2_readText 11 20 [some (.ref 13), some (.ref 4), some (.int (nI cnt))] [] σB Q) ∧ BFr σB σC ∧ ((∃ k f2 n2 c2, r = nI k ∧ k ≤ 400 ∧ TR σC 19 f2 n2 c2 ∧ σC 13 3 = nI 0 ∧ ∀ σM l2, LM σM b L (tps b L i) f → ∃ σN, (∀ Q : Option Value → mS → Prop, mF G mX5_tell 12 117 [some (.ref 116), some (.int (nI k)), l2] [] σN Q → mF G mX5_tell 12 57 [some (.ref 116), some (.int (nI cnt)), l2] [] σM Q) ∧ σN 116 7 = nI 0 ∧ σN 117 = f2 ∧ MFr σM σN) ∨ (r = -1 ∧ ∃ F, 0 < F ∧ F < 4096 ∧ σC 13 3 = nI F ∧ ∀ σM l2, LM σM b L (tps b L i) f → ∃ σN v, (∀ Q : Option Value → mS → Prop, mF G mX5_tell 12 117 [some (.ref 116), some (.int v), l2] [] σN Q → mF G mX5_tell 12 57 [some (.ref 116), some (.int (nI cnt)), l2] [] σM Q) ∧ σN 116 7 = nI F ∧ MFr σM σN)) := by
  intro q
  induction q using Nat.strongRecOn with
  | _ q ih =>
  intro i f n c cnt σB hq hcnt hB
  obtain ⟨h1, h2, h3, h5, h6⟩ := id hB
  have hs4 : s ≤ 400 := h1.2.2.2.2
  have tlt := tkn_lt b L (tps b L i)
  by_cases h16 : tkn b L (tps b L i) = 16
  · refine ⟨nI cnt, σB, fun Q hQ => ?_, fun _ _ _ => rfl, Or.inl ⟨cnt, f, n, c, rfl, by omega, h6, h5, fun σM l2 hM => ?_⟩⟩
    · refine F_iload_n dX2_readText_20 rfl ?_
      refine F_sipush (v := nI 400) dX2_readText_21 rfl ?_
      refine F_icmp_gtN (tgt := 60) dX2_readText_24 rfl (by omega) (by omega) (fun c24 => ?_) (fun c24 => ?_)
      · exact absurd c24 (by omega)
      · refine F_aload_n dX2_readText_27 rfl ?_
        refine F_cV0i (v_token (d := 7) h1 h2 h3) dX2_readText_28 rfl rfl (by decide) rfl rfl rfl rfl (by decide) (Nat.le_of_ble_eq_true rfl) (by omega) ?_
        refine F_bipush (v := nI 16) dX2_readText_31 rfl ?_
        refine F_icmp_eqN (tgt := 60) dX2_readText_33 rfl (by omega) (by omega) (fun c33 => ?_) (fun c33 => ?_)
        · refine F_iload_n dX2_readText_60 rfl ?_
          refine F_iret dX2_readText_61 rfl ?_
          exact hQ
        · exact absurd h16 c33
    · have hh := LM.hv (G := G) (d := 7) h4 hM
      obtain ⟨m1, m2, m3, m4, m5⟩ := id hM
      refine ⟨(up σM 116 9 (nI (tps b L i))), fun Q hQ => ?_, m3, m4, MFr.atq _ _⟩
      refine F_aload_n dX5_tell_57 rfl ?_
      refine F_getE (v := nI 0) dX5_tell_58 rfl rfl rfl rfl m3 ?_
      refine F_if_neN (tgt := 117) dX5_tell_61 rfl (by omega) (fun c61 => ?_) (fun c61 => ?_)
      · exact absurd rfl c61
      · refine F_aload_n dX5_tell_64 rfl ?_
        refine F_cV0i (hh) dX5_tell_65 rfl rfl (by decide) rfl rfl rfl rfl (by decide) (Nat.le_of_ble_eq_true rfl) (by omega) ?_
        refine F_iconst (v := (-1)) dX5_tell_68 rfl ?_
        refine F_icmp_eq (tgt := 117) dX5_tell_69 rfl (fun c69 => ?_) (fun c69 => ?_)
        · exact hQ
        · exact absurd ((hr_16 hby).mpr h16) c69
  have hfault : ∀ (σN1 : mS) (F : Nat) (cn : Int32) (l2 : Option Value) (Q : Option Value → mS → Prop), 0 < F → F < 4096 → σN1 116 7 = nI F → mF G mX5_tell 12 117 [some (.ref 116), some (.int cn), l2] [] σN1 Q → mF G mX5_tell 12 57 [some (.ref 116), some (.int cn), l2] [] σN1 Q := fun σN1 F cn l2 Q F0 F4 e7 hQ => by
    refine F_aload_n dX5_tell_57 rfl ?_
    refine F_getE (v := nI F) dX5_tell_58 rfl rfl rfl rfl e7 ?_
    refine F_if_neN (tgt := 117) dX5_tell_61 rfl (by omega) (fun c61 => ?_) (fun c61 => ?_)
    · exact hQ
    · exact absurd c61 (by omega)
  obtain ⟨bo, σ1, hb1, fr1, ⟨hbo, i2, f2, n2, c2, hi2, hB2, hM2⟩ | ⟨hbo, F, F0, F4, hF, hM2⟩⟩ := s_stmt (G := G) h4 hby hB
  · subst hbo
    obtain ⟨g1, g2, g3, g5, g6⟩ := id hB2
    have hp2 : tps b L i2 ≤ 400 := Nat.le_trans (tps_le b L i2) h4
    by_cases h15 : tkn b L (tps b L i2) = 15
    · have hlt := g1.lt g3 (by rw [h15]; decide)
      have hsg := ten_sg (b := b) (L := L) (p := tps b L i2) (by omega) (by omega)
      obtain ⟨r, σC, k1, k2, k3⟩ := ih (s - (i2 + 1)) (by omega) (i2 + 1) f2 n2 c2 (cnt + 1) (up σ1 13 2 (nI (i2 + 1))) (by omega) (by omega) (hB2.step hlt)
      have hmm : ∀ (σM : mS), LM σM b L (tps b L i) f → ∃ σN2, (∀ (l2 : Option Value) (Q : Option Value → mS → Prop), mF G mX5_tell 12 57 [some (.ref 116), some (.int (nI (cnt + 1))), l2] [] σN2 Q → mF G mX5_tell 12 57 [some (.ref 116), some (.int (nI cnt)), l2] [] σM Q) ∧ LM σN2 b L (tps b L (i2 + 1)) f2 ∧ MFr σM σN2 := fun σM hM => by
        have hh := LM.hv (G := G) (d := 7) h4 hM
        obtain ⟨m1, m2, m3, m4, m5⟩ := id hM
        obtain ⟨σN1, hj, hL1, fm1⟩ := hM2 _ hM.here
        have hh2 := LM.hv (G := G) (d := 7) h4 hL1
        obtain ⟨j1, j2, j3, j4, j5⟩ := id hL1
        refine ⟨up (up σN1 116 9 (nI (tps b L i2))) 116 9 (nI (tps b L i2 + 1)), fun l2 Q hQ => ?_, ⟨j1, ⟨tps b L i2 + 1, by omega, rfl, ?_⟩, j3, j4, j5⟩, ((MFr.atq _ _).trans fm1).trans ((MFr.atq _ _).trans (MFr.atq _ _))⟩
        refine F_aload_n dX5_tell_57 rfl ?_
        refine F_getE (v := nI 0) dX5_tell_58 rfl rfl rfl rfl m3 ?_
        refine F_if_neN (tgt := 117) dX5_tell_61 rfl (by omega) (fun c61 => ?_) (fun c61 => ?_)
        · exact absurd rfl c61
        · refine F_aload_n dX5_tell_64 rfl ?_
          refine F_cV0i (hh) dX5_tell_65 rfl rfl (by decide) rfl rfl rfl rfl (by decide) (Nat.le_of_ble_eq_true rfl) (by omega) ?_
          refine F_iconst (v := (-1)) dX5_tell_68 rfl ?_
          refine F_icmp_eq (tgt := 117) dX5_tell_69 rfl (fun c69 => ?_) (fun c69 => ?_)
          · exact absurd ((hr_16 hby).mp c69) h16
          · refine F_aload_n dX5_tell_72 rfl ?_
            refine F_cV0v (hj) dX5_tell_73 rfl rfl (by decide) rfl rfl rfl rfl (by decide) (Nat.le_of_ble_eq_true rfl) (by omega) ?_
            refine F_aload_n dX5_tell_76 rfl ?_
            refine F_getE (v := nI 0) dX5_tell_77 rfl rfl rfl rfl j3 ?_
            refine F_if_neN (tgt := 101) dX5_tell_80 rfl (by omega) (fun c80 => ?_) (fun c80 => ?_)
            · exact absurd rfl c80
            · refine F_aload_n dX5_tell_83 rfl ?_
              refine F_cV0i (hh2) dX5_tell_84 rfl rfl (by decide) rfl rfl rfl rfl (by decide) (Nat.le_of_ble_eq_true rfl) (by omega) ?_
              refine F_bipush (v := nI 59) dX5_tell_87 rfl ?_
              refine F_icmp_eq (tgt := 101) dX5_tell_89 rfl (fun c89 => ?_) (fun c89 => ?_)
              · refine F_aload_n dX5_tell_101 rfl ?_
                refine F_dup dX5_tell_102 rfl ?_
                refine F_getE (v := nI (tps b L i2)) dX5_tell_103 rfl rfl rfl rfl rfl ?_
                refine F_iconst (v := nI 1) dX5_tell_106 rfl ?_
                refine F_iaddN dX5_tell_107 ?_
                refine F_put dX5_tell_108 rfl rfl rfl rfl rfl rfl rfl ?_
                refine F_iincN dX5_tell_111 rfl ?_
                refine F_goto (tgt := 57) dX5_tell_114 rfl ?_
                exact hQ
              · exact absurd ((hr_15 hby).mpr h15) c89
        · rw [g1.next hlt]
          unfold nxt
          rw [hsg.2]
      refine ⟨r, σC, fun Q hQ => ?_, (fr1.trans (BFr.t _ _ _)).trans k2, ?_⟩
      · have k1 := k1 Q hQ
        refine F_iload_n dX2_readText_20 rfl ?_
        refine F_sipush (v := nI 400) dX2_readText_21 rfl ?_
        refine F_icmp_gtN (tgt := 60) dX2_readText_24 rfl (by omega) (by omega) (fun c24 => ?_) (fun c24 => ?_)
        · exact absurd c24 (by omega)
        · refine F_aload_n dX2_readText_27 rfl ?_
          refine F_cV0i (v_token (d := 7) h1 h2 h3) dX2_readText_28 rfl rfl (by decide) rfl rfl rfl rfl (by decide) (Nat.le_of_ble_eq_true rfl) (by omega) ?_
          refine F_bipush (v := nI 16) dX2_readText_31 rfl ?_
          refine F_icmp_eqN (tgt := 60) dX2_readText_33 rfl (by omega) (by omega) (fun c33 => ?_) (fun c33 => ?_)
          · exact absurd c33 h16
          · refine F_aload_n dX2_readText_36 rfl ?_
            refine F_cV0i (hb1) dX2_readText_37 rfl rfl (by decide) rfl rfl rfl rfl (by decide) (Nat.le_of_ble_eq_true rfl) (by omega) ?_
            refine F_if_eqB (tgt := 52) dX2_readText_40 rfl (fun c40 => ?_) (fun c40 => ?_)
            · cases c40
            · refine F_aload_n dX2_readText_43 rfl ?_
              refine F_bipush (v := nI 15) dX2_readText_44 rfl ?_
              refine F_cV1i (v_takeB (d := 7) g1 g2 g3 15 (by decide) (by decide) h15) dX2_readText_46 rfl rfl (by decide) rfl rfl rfl rfl (by decide) (Nat.le_of_ble_eq_true rfl) (by omega) ?_
              refine F_if_neN (tgt := 54) dX2_readText_49 rfl (by omega) (fun c49 => ?_) (fun c49 => ?_)
              · refine F_iincN dX2_readText_54 rfl ?_
                refine F_goto (tgt := 20) dX2_readText_57 rfl ?_
                exact k1
              · exact absurd c49 (by decide)
      · obtain ⟨k, f3, n3, c3, e1, e2, e3, e4, hM3⟩ | ⟨e1, F, F0, F4, hF, hM3⟩ := k3
        · refine Or.inl ⟨k, f3, n3, c3, e1, e2, e3, e4, fun σM l2 hM => ?_⟩
          obtain ⟨σN2, y1, y2, y3⟩ := hmm σM hM
          obtain ⟨σN, z1, z2, z3, z4⟩ := hM3 σN2 l2 y2
          exact ⟨σN, fun Q hQ => y1 l2 Q (z1 Q hQ), z2, z3, y3.trans z4⟩
        · refine Or.inr ⟨e1, F, F0, F4, hF, fun σM l2 hM => ?_⟩
          obtain ⟨σN2, y1, y2, y3⟩ := hmm σM hM
          obtain ⟨σN, v, z1, z2, z3⟩ := hM3 σN2 l2 y2
          exact ⟨σN, v, fun Q hQ => y1 l2 Q (z1 Q hQ), z2, y3.trans z3⟩
    · refine ⟨-1, up σ1 13 3 (nI (1 + 8 * tps b L i2)), fun Q hQ => ?_, fr1.trans (BFr.t _ _ _), Or.inr ⟨rfl, 1 + 8 * tps b L i2, by omega, by omega, rfl, fun σM l2 hM => ?_⟩⟩
      · refine F_iload_n dX2_readText_20 rfl ?_
        refine F_sipush (v := nI 400) dX2_readText_21 rfl ?_
        refine F_icmp_gtN (tgt := 60) dX2_readText_24 rfl (by omega) (by omega) (fun c24 => ?_) (fun c24 => ?_)
        · exact absurd c24 (by omega)
        · refine F_aload_n dX2_readText_27 rfl ?_
          refine F_cV0i (v_token (d := 7) h1 h2 h3) dX2_readText_28 rfl rfl (by decide) rfl rfl rfl rfl (by decide) (Nat.le_of_ble_eq_true rfl) (by omega) ?_
          refine F_bipush (v := nI 16) dX2_readText_31 rfl ?_
          refine F_icmp_eqN (tgt := 60) dX2_readText_33 rfl (by omega) (by omega) (fun c33 => ?_) (fun c33 => ?_)
          · exact absurd c33 h16
          · refine F_aload_n dX2_readText_36 rfl ?_
            refine F_cV0i (hb1) dX2_readText_37 rfl rfl (by decide) rfl rfl rfl rfl (by decide) (Nat.le_of_ble_eq_true rfl) (by omega) ?_
            refine F_if_eqB (tgt := 52) dX2_readText_40 rfl (fun c40 => ?_) (fun c40 => ?_)
            · cases c40
            · refine F_aload_n dX2_readText_43 rfl ?_
              refine F_bipush (v := nI 15) dX2_readText_44 rfl ?_
              refine F_cV1i (v_takeA (d := 7) g1 g2 g3 15 (by decide) h15) dX2_readText_46 rfl rfl (by decide) rfl rfl rfl rfl (by decide) (Nat.le_of_ble_eq_true rfl) (by omega) ?_
              refine F_if_neN (tgt := 54) dX2_readText_49 rfl (by omega) (fun c49 => ?_) (fun c49 => ?_)
              · exact absurd rfl c49
              · refine F_iconst (v := (-1)) dX2_readText_52 rfl ?_
                refine F_iret dX2_readText_53 rfl ?_
                exact hQ
      · have hh := LM.hv (G := G) (d := 7) h4 hM
        obtain ⟨m1, m2, m3, m4, m5⟩ := id hM
        obtain ⟨σN1, hj, hL1, fm1⟩ := hM2 _ hM.here
        have hh2 := LM.hv (G := G) (d := 7) h4 hL1
        obtain ⟨j1, j2, j3, j4, j5⟩ := id hL1
        refine ⟨up (up (up σN1 116 9 (nI (tps b L i2))) 116 7 (nI (1 + 8 * tps b L i2))) 116 9 (nI (tps b L i2 + 1)), nI (cnt + 1), fun Q hQ => ?_, rfl, ((MFr.atq _ _).trans fm1).trans (((MFr.atq _ _).trans (MFr.fault _ _)).trans (MFr.atq _ _))⟩
        have y1 := hfault _ (1 + 8 * tps b L i2) _ _ Q (by omega) (by omega) (show up (up (up σN1 116 9 (nI (tps b L i2))) 116 7 (nI (1 + 8 * tps b L i2))) 116 9 (nI (tps b L i2 + 1)) 116 7 = _ by rw [up_r _ _ _ (by decide), up_s]) hQ
        refine F_aload_n dX5_tell_57 rfl ?_
        refine F_getE (v := nI 0) dX5_tell_58 rfl rfl rfl rfl m3 ?_
        refine F_if_neN (tgt := 117) dX5_tell_61 rfl (by omega) (fun c61 => ?_) (fun c61 => ?_)
        · exact absurd rfl c61
        · refine F_aload_n dX5_tell_64 rfl ?_
          refine F_cV0i (hh) dX5_tell_65 rfl rfl (by decide) rfl rfl rfl rfl (by decide) (Nat.le_of_ble_eq_true rfl) (by omega) ?_
          refine F_iconst (v := (-1)) dX5_tell_68 rfl ?_
          refine F_icmp_eq (tgt := 117) dX5_tell_69 rfl (fun c69 => ?_) (fun c69 => ?_)
          · exact absurd ((hr_16 hby).mp c69) h16
          · refine F_aload_n dX5_tell_72 rfl ?_
            refine F_cV0v (hj) dX5_tell_73 rfl rfl (by decide) rfl rfl rfl rfl (by decide) (Nat.le_of_ble_eq_true rfl) (by omega) ?_
            refine F_aload_n dX5_tell_76 rfl ?_
            refine F_getE (v := nI 0) dX5_tell_77 rfl rfl rfl rfl j3 ?_
            refine F_if_neN (tgt := 101) dX5_tell_80 rfl (by omega) (fun c80 => ?_) (fun c80 => ?_)
            · exact absurd rfl c80
            · refine F_aload_n dX5_tell_83 rfl ?_
              refine F_cV0i (hh2) dX5_tell_84 rfl rfl (by decide) rfl rfl rfl rfl (by decide) (Nat.le_of_ble_eq_true rfl) (by omega) ?_
              refine F_bipush (v := nI 59) dX5_tell_87 rfl ?_
              refine F_icmp_eq (tgt := 101) dX5_tell_89 rfl (fun c89 => ?_) (fun c89 => ?_)
              · exact absurd ((hr_15 hby).mp c89) h15
              · refine F_aload_n dX5_tell_92 rfl ?_
                refine F_iconst (v := nI 1) dX5_tell_93 rfl ?_
                refine F_aload_n dX5_tell_94 rfl ?_
                refine F_getE (v := nI (tps b L i2)) dX5_tell_95 rfl rfl rfl rfl rfl ?_
                refine F_cV2v (v_failsB (d := 7) 1 (tps b L i2) j3) dX5_tell_98 rfl rfl (by decide) rfl rfl rfl rfl (by decide) (Nat.le_of_ble_eq_true rfl) (by omega) ?_
                refine F_aload_n dX5_tell_101 rfl ?_
                refine F_dup dX5_tell_102 rfl ?_
                refine F_getE (v := nI (tps b L i2)) dX5_tell_103 rfl rfl rfl rfl rfl ?_
                refine F_iconst (v := nI 1) dX5_tell_106 rfl ?_
                refine F_iaddN dX5_tell_107 ?_
                refine F_put dX5_tell_108 rfl rfl rfl rfl rfl rfl rfl ?_
                refine F_iincN dX5_tell_111 rfl ?_
                refine F_goto (tgt := 57) dX5_tell_114 rfl ?_
                exact y1
  · subst hbo
    refine ⟨-1, σ1, fun Q hQ => ?_, fr1, Or.inr ⟨rfl, F, F0, F4, hF, fun σM l2 hM => ?_⟩⟩
    · refine F_iload_n dX2_readText_20 rfl ?_
      refine F_sipush (v := nI 400) dX2_readText_21 rfl ?_
      refine F_icmp_gtN (tgt := 60) dX2_readText_24 rfl (by omega) (by omega) (fun c24 => ?_) (fun c24 => ?_)
      · exact absurd c24 (by omega)
      · refine F_aload_n dX2_readText_27 rfl ?_
        refine F_cV0i (v_token (d := 7) h1 h2 h3) dX2_readText_28 rfl rfl (by decide) rfl rfl rfl rfl (by decide) (Nat.le_of_ble_eq_true rfl) (by omega) ?_
        refine F_bipush (v := nI 16) dX2_readText_31 rfl ?_
        refine F_icmp_eqN (tgt := 60) dX2_readText_33 rfl (by omega) (by omega) (fun c33 => ?_) (fun c33 => ?_)
        · exact absurd c33 h16
        · refine F_aload_n dX2_readText_36 rfl ?_
          refine F_cV0i (hb1) dX2_readText_37 rfl rfl (by decide) rfl rfl rfl rfl (by decide) (Nat.le_of_ble_eq_true rfl) (by omega) ?_
          refine F_if_eqB (tgt := 52) dX2_readText_40 rfl (fun c40 => ?_) (fun c40 => ?_)
          · refine F_iconst (v := (-1)) dX2_readText_52 rfl ?_
            refine F_iret dX2_readText_53 rfl ?_
            exact hQ
          · cases c40
    · have hh := LM.hv (G := G) (d := 7) h4 hM
      obtain ⟨m1, m2, m3, m4, m5⟩ := id hM
      obtain ⟨σN1, hj, e7, fm1⟩ := hM2 _ hM.here
      refine ⟨up σN1 116 9 (σN1 116 9 + nI 1), nI (cnt + 1), fun Q hQ => ?_, e7, ((MFr.atq _ _).trans fm1).trans (MFr.atq _ _)⟩
      have y1 := hfault _ F _ _ Q F0 F4 (show up σN1 116 9 (σN1 116 9 + nI 1) 116 7 = _ by rw [up_r _ _ _ (by decide)]; exact e7) hQ
      refine F_aload_n dX5_tell_57 rfl ?_
      refine F_getE (v := nI 0) dX5_tell_58 rfl rfl rfl rfl m3 ?_
      refine F_if_neN (tgt := 117) dX5_tell_61 rfl (by omega) (fun c61 => ?_) (fun c61 => ?_)
      · exact absurd rfl c61
      · refine F_aload_n dX5_tell_64 rfl ?_
        refine F_cV0i (hh) dX5_tell_65 rfl rfl (by decide) rfl rfl rfl rfl (by decide) (Nat.le_of_ble_eq_true rfl) (by omega) ?_
        refine F_iconst (v := (-1)) dX5_tell_68 rfl ?_
        refine F_icmp_eq (tgt := 117) dX5_tell_69 rfl (fun c69 => ?_) (fun c69 => ?_)
        · exact absurd ((hr_16 hby).mp c69) h16
        · refine F_aload_n dX5_tell_72 rfl ?_
          refine F_cV0v (hj) dX5_tell_73 rfl rfl (by decide) rfl rfl rfl rfl (by decide) (Nat.le_of_ble_eq_true rfl) (by omega) ?_
          refine F_aload_n dX5_tell_76 rfl ?_
          refine F_getE (v := nI F) dX5_tell_77 rfl rfl rfl rfl e7 ?_
          refine F_if_neN (tgt := 101) dX5_tell_80 rfl (by omega) (fun c80 => ?_) (fun c80 => ?_)
          · refine F_aload_n dX5_tell_101 rfl ?_
            refine F_dup dX5_tell_102 rfl ?_
            refine F_geti dX5_tell_103 rfl rfl rfl rfl ?_
            refine F_iconst (v := nI 1) dX5_tell_106 rfl ?_
            refine F_iadd dX5_tell_107 ?_
            refine F_put dX5_tell_108 rfl rfl rfl rfl rfl rfl rfl ?_
            refine F_iincN dX5_tell_111 rfl ?_
            refine F_goto (tgt := 57) dX5_tell_114 rfl ?_
            exact y1
          · exact absurd c80 (by omega)

end TXT
