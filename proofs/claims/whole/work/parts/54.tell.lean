/-! ===== tell on both sides ===== -/
theorem dX4_tell_0 : decode cX4_tell 0 = .ok (.aload_n 0, 1) := by decide +kernel
theorem dX4_tell_1 : decode cX4_tell 1 = .ok (.getfield 23, 3) := by decide +kernel
theorem dX4_tell_4 : decode cX4_tell 4 = .ok (.getfield 41, 3) := by decide +kernel
theorem dX4_tell_7 : decode cX4_tell 7 = .ok (.invokevirtual 55, 3) := by decide +kernel
theorem dX4_tell_10 : decode cX4_tell 10 = .ok (.aload_n 0, 1) := by decide +kernel
theorem dX4_tell_11 : decode cX4_tell 11 = .ok (.getfield 23, 3) := by decide +kernel
theorem dX4_tell_14 : decode cX4_tell 14 = .ok (.getfield 41, 3) := by decide +kernel
theorem dX4_tell_17 : decode cX4_tell 17 = .ok (.iconst 0, 1) := by decide +kernel
theorem dX4_tell_18 : decode cX4_tell 18 = .ok (.putfield 45, 3) := by decide +kernel
theorem dX4_tell_21 : decode cX4_tell 21 = .ok (.aload_n 0, 1) := by decide +kernel
theorem dX4_tell_22 : decode cX4_tell 22 = .ok (.getfield 23, 3) := by decide +kernel
theorem dX4_tell_25 : decode cX4_tell 25 = .ok (.aload_n 0, 1) := by decide +kernel
theorem dX4_tell_26 : decode cX4_tell 26 = .ok (.getfield 10, 3) := by decide +kernel
theorem dX4_tell_29 : decode cX4_tell 29 = .ok (.invokevirtual 58, 3) := by decide +kernel
theorem dX4_tell_32 : decode cX4_tell 32 = .ok (.istore_n 1, 1) := by decide +kernel
theorem dX4_tell_33 : decode cX4_tell 33 = .ok (.iload_n 1, 1) := by decide +kernel
theorem dX4_tell_34 : decode cX4_tell 34 = .ok (.iconst (-1), 1) := by decide +kernel
theorem dX4_tell_35 : decode cX4_tell 35 = .ok (.if_icmp .eq 21, 3) := by decide +kernel
theorem dX4_tell_38 : decode cX4_tell 38 = .ok (.aload_n 0, 1) := by decide +kernel
theorem dX4_tell_39 : decode cX4_tell 39 = .ok (.invokevirtual 62, 3) := by decide +kernel
theorem dX4_tell_42 : decode cX4_tell 42 = .ok (.aload_n 0, 1) := by decide +kernel
theorem dX4_tell_43 : decode cX4_tell 43 = .ok (.getfield 10, 3) := by decide +kernel
theorem dX4_tell_46 : decode cX4_tell 46 = .ok (.aload_n 0, 1) := by decide +kernel
theorem dX4_tell_47 : decode cX4_tell 47 = .ok (.getfield 23, 3) := by decide +kernel
theorem dX4_tell_50 : decode cX4_tell 50 = .ok (.getfield 65, 3) := by decide +kernel
theorem dX4_tell_53 : decode cX4_tell 53 = .ok (.invokevirtual 68, 3) := by decide +kernel
theorem dX4_tell_56 : decode cX4_tell 56 = .ok (.iload_n 1, 1) := by decide +kernel
theorem dX4_tell_57 : decode cX4_tell 57 = .ok (.ireturn, 1) := by decide +kernel

section TELL
variable {G : mG} {σ : mS}
theorem pcp_s0 (f K : Nat → Int32) (m : Nat) : upd (pcp f K 0 m) m (K m) = pcp f K 0 (m + 1) := by
  have := pcp_s f K 0 m
  rw [Nat.zero_add] at this
  exact this
theorem pcp_in (f K : Nat → Int32) {m x : Nat} (h : x < m) : pcp f K 0 m x = K x := by
  unfold pcp
  rw [if_pos (by omega), Nat.sub_zero]
theorem l_aside {l2 : Option Value} (Q : Option Value → mS → Prop) (hQ : mF G mX5_tell 12 55 [some (.ref 116), some (.int (nI 460)), l2] [] (upR σ 119 (pcp (σ 119) (σ 117) 0 460)) Q) : ∀ q k, k + q = 460 → mF G mX5_tell 12 30 [some (.ref 116), some (.int (nI k)), l2] [] (upR σ 119 (pcp (σ 119) (σ 117) 0 k)) Q := by
  intro q
  induction q with
  | zero =>
    intro k hk
    have e : k = 460 := by omega
    subst e
    refine F_iload_n dX5_tell_30 rfl ?_
    refine F_sipush (v := nI 460) dX5_tell_31 rfl ?_
    refine F_icmp_geN (tgt := 55) dX5_tell_34 rfl (by omega) (by omega) (fun c34 => ?_) (fun c34 => ?_)
    · exact hQ
    · exact absurd c34 (by omega)
  | succ q ih =>
    intro k hk
    have k1 := ih (k + 1) (by omega)
    rw [← pcp_s0] at k1
    refine F_iload_n dX5_tell_30 rfl ?_
    refine F_sipush (v := nI 460) dX5_tell_31 rfl ?_
    refine F_icmp_geN (tgt := 55) dX5_tell_34 rfl (by omega) (by omega) (fun c34 => ?_) (fun c34 => ?_)
    · exact absurd c34 (by omega)
    · refine F_aload_n dX5_tell_37 rfl ?_
      refine F_getr dX5_tell_38 rfl rfl rfl rfl ?_
      refine F_iload_n dX5_tell_41 rfl ?_
      refine F_aload_n dX5_tell_42 rfl ?_
      refine F_getr dX5_tell_43 rfl rfl rfl rfl ?_
      refine F_iload_n dX5_tell_46 rfl ?_
      refine F_ialdE (v := σ 117 k) dX5_tell_47 rfl (by decide) (by omega) rfl ?_
      refine F_iast dX5_tell_48 rfl (by decide) (by omega) ?_
      refine F_iincN dX5_tell_49 rfl ?_
      refine F_goto (tgt := 30) dX5_tell_52 rfl ?_
      rw [up_upR]
      exact k1
theorem l_back {l1 : Option Value} (Q : Option Value → mS → Prop) (hQ : Q (some (.int (-1))) (upR σ 117 (pcp (σ 117) (σ 119) 0 460))) : ∀ q k, k + q = 460 → mF G mX5_tell 12 136 [some (.ref 116), l1, some (.int (nI k))] [] (upR σ 117 (pcp (σ 117) (σ 119) 0 k)) Q := by
  intro q
  induction q with
  | zero =>
    intro k hk
    have e : k = 460 := by omega
    subst e
    refine F_iload_n dX5_tell_136 rfl ?_
    refine F_sipush (v := nI 460) dX5_tell_137 rfl ?_
    refine F_icmp_geN (tgt := 161) dX5_tell_140 rfl (by omega) (by omega) (fun c140 => ?_) (fun c140 => ?_)
    · refine F_iconst (v := (-1)) dX5_tell_161 rfl ?_
      refine F_iret dX5_tell_162 rfl ?_
      exact hQ
    · exact absurd c140 (by omega)
  | succ q ih =>
    intro k hk
    have k1 := ih (k + 1) (by omega)
    rw [← pcp_s0] at k1
    refine F_iload_n dX5_tell_136 rfl ?_
    refine F_sipush (v := nI 460) dX5_tell_137 rfl ?_
    refine F_icmp_geN (tgt := 161) dX5_tell_140 rfl (by omega) (by omega) (fun c140 => ?_) (fun c140 => ?_)
    · exact absurd c140 (by omega)
    · refine F_aload_n dX5_tell_143 rfl ?_
      refine F_getr dX5_tell_144 rfl rfl rfl rfl ?_
      refine F_iload_n dX5_tell_147 rfl ?_
      refine F_aload_n dX5_tell_148 rfl ?_
      refine F_getr dX5_tell_149 rfl rfl rfl rfl ?_
      refine F_iload_n dX5_tell_152 rfl ?_
      refine F_ialdE (v := σ 119 k) dX5_tell_153 rfl (by decide) (by omega) rfl ?_
      refine F_iast dX5_tell_154 rfl (by decide) (by omega) ?_
      refine F_iincN dX5_tell_155 rfl ?_
      refine F_goto (tgt := 136) dX5_tell_158 rfl ?_
      rw [up_upR]
      exact k1

/-- how the reference begins -/
def tA (σ : mS) (L : Nat) : mS := (upR (up (up (up (up (up σ 116 0 (nI 0)) 116 8 (nI L)) 116 6 (nI 0)) 116 7 (nI 0)) 116 9 (nI 0)) 119 (pcp ((up (up (up (up (up σ 116 0 (nI 0)) 116 8 (nI L)) 116 6 (nI 0)) 116 7 (nI 0)) 116 9 (nI 0)) 119) ((up (up (up (up (up σ 116 0 (nI 0)) 116 8 (nI L)) 116 6 (nI 0)) 116 7 (nI 0)) 116 9 (nI 0)) 117) 0 460))
theorem m_tellS {L : Nat} (hL : σ 116 6 = nI L) (Q : Option Value → mS → Prop) (hQ : mF G mX5_tell 12 57 [some (.ref 116), some (.int (nI 0)), none] [] (tA σ L) Q) : mF G mX5_tell 12 0 [some (.ref 116), none, none] [] σ Q := by
  have hE : mF G mX5_tell 12 55 [some (.ref 116), some (.int (nI 460)), none] [] (tA σ L) Q := by
    refine F_iconst (v := nI 0) dX5_tell_55 rfl ?_
    refine F_istore_n dX5_tell_56 (Nat.le_of_ble_eq_true rfl) ?_
    exact hQ
  unfold tA at hE
  generalize hX : (up (up (up (up (up σ 116 0 (nI 0)) 116 8 (nI L)) 116 6 (nI 0)) 116 7 (nI 0)) 116 9 (nI 0)) = X at hE
  have k1 := l_aside (G := G) (σ := X) (l2 := none) Q hE 460 0 rfl
  rw [pcp_0, upR_self] at k1
  subst hX
  refine F_aload_n dX5_tell_0 rfl ?_
  refine F_iconst (v := nI 0) dX5_tell_1 rfl ?_
  refine F_put dX5_tell_2 rfl rfl rfl rfl rfl rfl rfl ?_
  refine F_aload_n dX5_tell_5 rfl ?_
  refine F_aload_n dX5_tell_6 rfl ?_
  refine F_getE (v := nI L) dX5_tell_7 rfl rfl rfl rfl hL ?_
  refine F_put dX5_tell_10 rfl rfl rfl rfl rfl rfl rfl ?_
  refine F_aload_n dX5_tell_13 rfl ?_
  refine F_iconst (v := nI 0) dX5_tell_14 rfl ?_
  refine F_put dX5_tell_15 rfl rfl rfl rfl rfl rfl rfl ?_
  refine F_aload_n dX5_tell_18 rfl ?_
  refine F_iconst (v := nI 0) dX5_tell_19 rfl ?_
  refine F_put dX5_tell_20 rfl rfl rfl rfl rfl rfl rfl ?_
  refine F_aload_n dX5_tell_23 rfl ?_
  refine F_iconst (v := nI 0) dX5_tell_24 rfl ?_
  refine F_put dX5_tell_25 rfl rfl rfl rfl rfl rfl rfl ?_
  refine F_iconst (v := nI 0) dX5_tell_28 rfl ?_
  refine F_istore_n dX5_tell_29 (Nat.le_of_ble_eq_true rfl) ?_
  exact k1
theorem keptF_cg (n : Nat) (K : Nat → Int32) {R S : Nat → Int32} (h : ∀ x, x < 460 → R x = S x) : keptF n K R = keptF n K S := by
  funext x
  simp only [keptF, va_cpy]
  by_cases hx : 460 * min n 7 ≤ x ∧ x < 460 * min n 7 + 460
  · rw [if_pos hx, if_pos hx]
    exact h _ (by omega)
  · rw [if_neg hx, if_neg hx]

theorem op_tell (hW : wordOk G) (h : Rel σ) : Same G mX4_tell mX5_tell [] σ := by
  obtain ⟨n, c, k, j, L, hT, hC, hU, hP, hF⟩ := id h
  obtain ⟨L4, p2, p3, p4⟩ := hP
  obtain ⟨u1, u2, u3, u4, u5, u6⟩ := id hU
  have hbe : ∀ x, x < L → σ 15 x = σ 120 x := fun x hx => (p4 x hx).1
  have hby : ∀ x, x < L → isByte (σ 120 x) := fun x hx => by rw [← hbe x hx]; exact (p4 x hx).2
  obtain ⟨υ, s, hsp, s5, s4, sTK, stp, slt, sfr, sf14⟩ := v_split (G := G) (d := 8) hW (by decide) p2 L4
  have q1 : ∀ z, z ≠ 13 → z ≠ 14 → z < 16 ∨ 28 < z → (up (up (copyT (up υ 14 1 (nI 0)) 19 4) 13 2 (nI 0)) 13 3 (nI 0)) z = σ z := fun z z1 z2 z3 => by
    rw [up_n _ _ _ z1, up_n _ _ _ z1, copyT_far _ (by omega), up_n _ _ _ z2, sfr z z2 (by omega)]
  have hLB : LB (up (up (copyT (up υ 14 1 (nI 0)) 19 4) 13 2 (nI 0)) 13 3 (nI 0)) (σ 120) L s 0 (σ 117) n c := by
    refine ⟨⟨TK_cg hbe (fun x hx => ?_), by rw [← tps_cg hbe]; exact stp, fun x hx => by rw [← tps_cg hbe]; exact slt x hx, ?_, s4⟩, rfl, Nat.zero_le _, rfl, ?_⟩
    · have e : ∀ z, 16 ≤ z → z ≤ 18 → (up (up (copyT (up υ 14 1 (nI 0)) 19 4) 13 2 (nI 0)) 13 3 (nI 0)) z = υ z := fun z z1 z2 => by
        rw [up_n _ _ _ (by omega), up_n _ _ _ (by omega), copyT_far _ (by omega), up_n _ _ _ (by omega)]
      rw [e 16 (by omega) (by omega), e 17 (by omega) (by omega), e 18 (by omega) (by omega)]
      exact sTK x hx
    · rw [up_n _ _ _ (by omega), up_n _ _ _ (by omega), copyT_far _ (by omega), up_r _ _ _ (by omega)]
      exact s5
    · have hT2 : TR (up υ 14 1 (nI 0)) 4 (σ 117) n c := hT.rows (fun q hq => by rw [up_n _ _ _ (by omega), sfr _ (by omega) (by omega)])
      exact (TR_copy (b := 19) hT2 (by omega)).rows (fun q hq => by rw [up_n _ _ _ (by omega), up_n _ _ _ (by omega)])
  obtain ⟨r, σC, k1, fr, alt⟩ := l_tell (G := G) (s := s) L4 hby s 0 (σ 117) n c 0 (up (up (copyT (up υ 14 1 (nI 0)) 19 4) 13 2 (nI 0)) 13 3 (nI 0)) (by omega) (by omega) hLB
  have hrt : mV G mX2_readText 11 [.ref 13, .ref 4] (up υ 14 1 (nI 0)) (some (.int r)) σC := mV_of fun Q hQ => by
    have k1 := k1 Q hQ
    refine F_aload_n dX2_readText_0 rfl ?_
    refine F_getr dX2_readText_1 rfl rfl rfl rfl ?_
    refine F_aload_n dX2_readText_4 rfl ?_
    refine F_cV_r_v (v_copyFrom (d := 7) isTold_19 isTold_4 (by omega)) dX2_readText_5 rfl rfl (by decide) rfl rfl rfl rfl (by decide) (Nat.le_of_ble_eq_true rfl) (by omega) ?_
    refine F_aload_n dX2_readText_8 rfl ?_
    refine F_iconst (v := nI 0) dX2_readText_9 rfl ?_
    refine F_put dX2_readText_10 rfl rfl rfl rfl rfl rfl rfl ?_
    refine F_aload_n dX2_readText_13 rfl ?_
    refine F_iconst (v := nI 0) dX2_readText_14 rfl ?_
    refine F_put dX2_readText_15 rfl rfl rfl rfl rfl rfl rfl ?_
    refine F_iconst (v := nI 0) dX2_readText_18 rfl ?_
    refine F_istore_n dX2_readText_19 (Nat.le_of_ble_eq_true rfl) ?_
    exact k1
  have qC : ∀ z, z ≠ 13 → z ≠ 14 → z < 16 ∨ 28 < z → σC z = σ z := fun z z1 z2 z3 => by
    rw [fr z z1 (by omega), q1 z z1 z2 z3]
  have q14 : σC 14 1 = nI 0 := by
    rw [fr 14 (by omega) (by omega), up_n _ _ _ (by omega), up_n _ _ _ (by omega), copyT_far _ (by omega), up_s]
  have hTC : TR σC 4 (σC 117) n c := by
    rw [qC 117 (by omega) (by omega) (by omega)]
    exact hT.rows (fun q hq => by rw [qC _ (by omega) (by omega) (by omega)])
  have hUC : RU σC k j := hU.frame (fun a h1 h2 => qC a (by omega) (by omega) (by omega)) (qC 3 (by omega) (by omega) (by omega)) (qC 118 (by omega) (by omega) (by omega)) (by rw [qC 116 (by omega) (by omega) (by omega)])
  obtain ⟨-, -, -, v4, v5, -⟩ := id hUC
  have hcc : ∀ τ : mS, (∀ z, z = 33 ∨ z = 37 ∨ z = 38 ∨ z = 44 ∨ z = 48 ∨ z = 49 ∨ z = 127 → τ z = σ z) → τ 116 23 = σ 116 23 → τ 116 24 = σ 116 24 → RC τ := fun τ hz e1 e2 => by
    obtain ⟨c1, c2, c3, c4, c5⟩ := hC
    refine ⟨by rw [e1]; exact c1, by rw [e2]; exact c2, by rw [hz 127 (by omega)]; exact c3, ?_, ?_⟩
    · rw [hz 37 (by omega), hz 38 (by omega), hz 33 (by omega)]; exact c4
    · rw [hz 48 (by omega), hz 49 (by omega), hz 44 (by omega)]; exact c5
  have hLM : ∀ σ1 : mS, (∀ z, 116 ≤ z → σ1 z = σ z) → LM (tA σ1 L) (σ 120) L (tps (σ 120) L 0) (σ 117) := fun σ1 hz =>
    ⟨rfl, ⟨0, Nat.zero_le _, rfl, rfl⟩, rfl, hz 117 (by omega), hz 120 (by omega)⟩
  have htA : ∀ (σ1 : mS) z, z ≠ 116 → z ≠ 119 → tA σ1 L z = σ1 z := fun σ1 z z1 z2 => by
    unfold tA
    rw [upR_n _ _ z2, up_n _ _ _ z1, up_n _ _ _ z1, up_n _ _ _ z1, up_n _ _ _ z1, up_n _ _ _ z1]
  have htA6 : ∀ (σ1 : mS) z, z ≠ 0 → z ≠ 6 → z ≠ 7 → z ≠ 8 → z ≠ 9 → tA σ1 L 116 z = σ1 116 z := fun σ1 z z1 z2 z3 z4 z5 => by
    unfold tA
    rw [upR_n _ _ (by decide), up_r _ _ _ z5, up_r _ _ _ z3, up_r _ _ _ z2, up_r _ _ _ z4, up_r _ _ _ z1]
  have htA66 : ∀ (σ1 : mS), tA σ1 L 116 6 = nI 0 := fun σ1 => by
    unfold tA
    rw [upR_n _ _ (by decide), up_r _ _ _ (by decide), up_r _ _ _ (by decide), up_s]
  have htA9 : ∀ (σ1 : mS) x, x < 460 → tA σ1 L 119 x = σ1 117 x := fun σ1 x hx => by
    unfold tA
    rw [upR_s, pcp_in _ _ hx, up_n _ _ _ (by decide), up_n _ _ _ (by decide), up_n _ _ _ (by decide), up_n _ _ _ (by decide), up_n _ _ _ (by decide)]
  obtain ⟨kk, f2, n2, c2, er, hk4, hT2, hF2, hMM⟩ | ⟨er, F, F0, F4, hF2, hMM⟩ := alt
  · subst er
    have e6 : ∀ z, 116 ≤ z → copyT (remS σC j k) 4 19 z = σ z := fun z hz => by
      rw [copyT_far _ (by omega), remS_hi _ u2 hz, qC z (by omega) (by omega) (by omega)]
    obtain ⟨σN, g1, g2, g3, g4⟩ := hMM (tA (copyT (remS σC j k) 4 19) L) none (hLM _ e6)
    have n6 : ∀ z, z ≠ 7 → z ≠ 9 → z ≠ 10 → z ≠ 14 → z ≠ 15 → z ≠ 16 → z ≠ 0 → z ≠ 6 → z ≠ 8 → σN 116 z = σ 116 z := fun z a b c d e f g h i => by
      rw [g4.2 z a b c d e f, htA6 _ z g h a i b, e6 116 (by omega)]
    have nlo : ∀ z, z < 116 → σN z = copyT (remS σC j k) 4 19 z := fun z hz => by
      rw [g4.1 z (by omega) (by omega) (by omega), htA _ z (by omega) (by omega)]
    have n18 : σN 118 = σC 118 := by
      rw [g4.1 118 (by omega) (by omega) (by omega), htA _ 118 (by omega) (by omega), e6 118 (by omega), qC 118 (by omega) (by omega) (by omega)]
    have n19 : ∀ x, x < 460 → σN 119 x = σC 117 x := fun x hx => by
      rw [g4.1 119 (by omega) (by omega) (by omega), htA9 _ x hx, e6 117 (by omega), qC 117 (by omega) (by omega) (by omega)]
    have hkp := v_keeps (G := G) (d := 7) (σ := σN) (r := 119) (n := k) rfl (by decide) (by decide) (by rw [n6 4 (by decide) (by decide) (by decide) (by decide) (by decide) (by decide) (by decide) (by decide) (by decide)]; exact u3) u1
    have hlo : ∀ z, z < 116 → up (upR σN 118 (keptF k (σN 118) (σN 119))) 116 4 (nI (min k 7 + 1)) z = copyT (remS σC j k) 4 19 z := fun z hz => by
      rw [up_n _ _ _ (by omega), upR_n _ _ (by omega), nlo z hz]
    have hmid : ∀ z, 12 ≤ z → z < 52 → copyT (remS σC j k) 4 19 z = σC z := fun z z1 z2 => by
      rw [copyT_far _ (by omega), remS_far _ (by omega) z2]
    refine ⟨nI kk, copyT (remS σC j k) 4 19, up (upR σN 118 (keptF k (σN 118) (σN 119))) 116 4 (nI (min k 7 + 1)), mV_of fun Q hQ => ?_, mV_of fun Q hQ => ?_, n2, c2, min k 7 + 1, (j + 1) % 8, 0, ?_, ?_, ?_, ⟨by omega, ?_, ?_, fun i hi => absurd hi (by omega)⟩, ?_⟩
    · refine F_aload_n dX4_tell_0 rfl ?_
      refine F_getr dX4_tell_1 rfl rfl rfl rfl ?_
      refine F_getr dX4_tell_4 rfl rfl rfl rfl ?_
      refine F_cV0v (hsp) dX4_tell_7 rfl rfl (by decide) rfl rfl rfl rfl (by decide) (Nat.le_of_ble_eq_true rfl) (by omega) ?_
      refine F_aload_n dX4_tell_10 rfl ?_
      refine F_getr dX4_tell_11 rfl rfl rfl rfl ?_
      refine F_getr dX4_tell_14 rfl rfl rfl rfl ?_
      refine F_iconst (v := nI 0) dX4_tell_17 rfl ?_
      refine F_put dX4_tell_18 rfl rfl rfl rfl rfl rfl rfl ?_
      refine F_aload_n dX4_tell_21 rfl ?_
      refine F_getr dX4_tell_22 rfl rfl rfl rfl ?_
      refine F_aload_n dX4_tell_25 rfl ?_
      refine F_getr dX4_tell_26 rfl rfl rfl rfl ?_
      refine F_cV_r_i (hrt) dX4_tell_29 rfl rfl (by decide) rfl rfl rfl rfl (by decide) (Nat.le_of_ble_eq_true rfl) (by omega) ?_
      refine F_istore_n dX4_tell_32 (Nat.le_of_ble_eq_true rfl) ?_
      refine F_iload_n dX4_tell_33 rfl ?_
      refine F_iconst (v := (-1)) dX4_tell_34 rfl ?_
      refine F_icmp_eq (tgt := 56) dX4_tell_35 rfl (fun c35 => ?_) (fun c35 => ?_)
      · exact absurd c35 (nI_n1 (by omega))
      · refine F_aload_n dX4_tell_38 rfl ?_
        refine F_cV0v (v_remember (d := 7) v5 u2 v4 u1) dX4_tell_39 rfl rfl (by decide) rfl rfl rfl rfl (by decide) (Nat.le_of_ble_eq_true rfl) (by omega) ?_
        refine F_aload_n dX4_tell_42 rfl ?_
        refine F_getr dX4_tell_43 rfl rfl rfl rfl ?_
        refine F_aload_n dX4_tell_46 rfl ?_
        refine F_getr dX4_tell_47 rfl rfl rfl rfl ?_
        refine F_getr dX4_tell_50 rfl rfl rfl rfl ?_
        refine F_cV_r_v (v_copyFrom (d := 7) isTold_4 isTold_19 (by omega)) dX4_tell_53 rfl rfl (by decide) rfl rfl rfl rfl (by decide) (Nat.le_of_ble_eq_true rfl) (by omega) ?_
        refine F_iload_n dX4_tell_56 rfl ?_
        refine F_iret dX4_tell_57 rfl ?_
        exact hQ
    · refine m_tellS (by rw [e6 116 (by omega)]; exact p3) Q (g1 Q ?_)
      refine F_aload_n dX5_tell_117 rfl ?_
      refine F_getE (v := nI 0) dX5_tell_118 rfl rfl rfl rfl g2 ?_
      refine F_if_neN (tgt := 134) dX5_tell_121 rfl (by omega) (fun c121 => ?_) (fun c121 => ?_)
      · exact absurd rfl c121
      · refine F_aload_n dX5_tell_124 rfl ?_
        refine F_aload_n dX5_tell_125 rfl ?_
        refine F_getr dX5_tell_126 rfl rfl rfl rfl ?_
        refine F_cV_r_v (hkp) dX5_tell_129 rfl rfl (by decide) rfl rfl rfl rfl (by decide) (Nat.le_of_ble_eq_true rfl) (by omega) ?_
        refine F_iload_n dX5_tell_132 rfl ?_
        refine F_iret dX5_tell_133 rfl ?_
        exact hQ
    · have e : up (upR σN 118 (keptF k (σN 118) (σN 119))) 116 4 (nI (min k 7 + 1)) 117 = f2 := by
        rw [up_n _ _ _ (by decide), upR_n _ _ (by decide), g3]
      rw [e]
      have hTr : TR (remS σC j k) 19 f2 n2 c2 := hT2.rows (fun q hq => remS_far _ (by omega) (by omega))
      exact (TR_copy (b := 4) hTr (by omega)).rows (fun q hq => hlo _ (by omega))
    · refine hcc _ (fun z hz => ?_) ?_ ?_
      · by_cases h7 : z = 127
        · subst h7
          rw [up_n _ _ _ (by decide), upR_n _ _ (by decide), g4.1 127 (by omega) (by omega) (by omega), htA _ 127 (by omega) (by omega), e6 127 (by omega)]
        · rw [hlo z (by omega), hmid z (by omega) (by omega), qC z (by omega) (by omega) (by omega)]
      · rw [up_r _ _ _ (by decide), upR_n _ _ (by decide)]
        exact n6 23 (by decide) (by decide) (by decide) (by decide) (by decide) (by decide) (by decide) (by decide) (by decide)
      · rw [up_r _ _ _ (by decide), upR_n _ _ (by decide)]
        exact n6 24 (by decide) (by decide) (by decide) (by decide) (by decide) (by decide) (by decide) (by decide) (by decide)
    · refine RU.rem hTC hUC ?_ ?_ ?_ ?_ (fun a h1 h2 => ?_)
      · rw [up_s]
      · rw [hlo 3 (by omega), copyT_far _ (by omega)]
        simp only [remS]
        rw [up_s]
      · rw [hlo 3 (by omega), copyT_far _ (by omega)]
        simp only [remS]
        rw [up_r _ _ _ (by decide), up_s]
      · rw [up_n _ _ _ (by decide), upR_s, n18]
        exact keptF_cg k _ n19
      · rw [hlo a (by omega), copyT_far _ (by omega)]
    · rw [hlo 14 (by omega), hmid 14 (by omega) (by omega)]
      exact q14
    · rw [up_r _ _ _ (by decide), upR_n _ _ (by decide), g4.2 6 (by decide) (by decide) (by decide) (by decide) (by decide) (by decide)]
      exact htA66 _
    · rw [hlo 13 (by omega), hmid 13 (by omega) (by omega), hF2, up_r _ _ _ (by decide), upR_n _ _ (by decide), g2]
  · subst er
    have e6 : ∀ z, 116 ≤ z → σC z = σ z := fun z hz => qC z (by omega) (by omega) (by omega)
    obtain ⟨σN, w, g1, g2, g4⟩ := hMM (tA σC L) none (hLM _ e6)
    have nlo : ∀ z, z < 116 → σN z = σC z := fun z hz => by
      rw [g4.1 z (by omega) (by omega) (by omega), htA _ z (by omega) (by omega)]
    have n6 : ∀ z, z ≠ 7 → z ≠ 9 → z ≠ 10 → z ≠ 14 → z ≠ 15 → z ≠ 16 → z ≠ 0 → z ≠ 6 → z ≠ 8 → σN 116 z = σ 116 z := fun z a b c d e f g h i => by
      rw [g4.2 z a b c d e f, htA6 _ z g h a i b, e6 116 (by omega)]
    have n19 : ∀ x, x < 460 → σN 119 x = σC 117 x := fun x hx => by
      rw [g4.1 119 (by omega) (by omega) (by omega), htA9 _ x hx]
    refine ⟨-1, σC, upR σN 117 (pcp (σN 117) (σN 119) 0 460), mV_of fun Q hQ => ?_, mV_of fun Q hQ => ?_, n, c, k, j, 0, ?_, ?_, ?_, ⟨by omega, ?_, ?_, fun i hi => absurd hi (by omega)⟩, ?_⟩
    · refine F_aload_n dX4_tell_0 rfl ?_
      refine F_getr dX4_tell_1 rfl rfl rfl rfl ?_
      refine F_getr dX4_tell_4 rfl rfl rfl rfl ?_
      refine F_cV0v (hsp) dX4_tell_7 rfl rfl (by decide) rfl rfl rfl rfl (by decide) (Nat.le_of_ble_eq_true rfl) (by omega) ?_
      refine F_aload_n dX4_tell_10 rfl ?_
      refine F_getr dX4_tell_11 rfl rfl rfl rfl ?_
      refine F_getr dX4_tell_14 rfl rfl rfl rfl ?_
      refine F_iconst (v := nI 0) dX4_tell_17 rfl ?_
      refine F_put dX4_tell_18 rfl rfl rfl rfl rfl rfl rfl ?_
      refine F_aload_n dX4_tell_21 rfl ?_
      refine F_getr dX4_tell_22 rfl rfl rfl rfl ?_
      refine F_aload_n dX4_tell_25 rfl ?_
      refine F_getr dX4_tell_26 rfl rfl rfl rfl ?_
      refine F_cV_r_i (hrt) dX4_tell_29 rfl rfl (by decide) rfl rfl rfl rfl (by decide) (Nat.le_of_ble_eq_true rfl) (by omega) ?_
      refine F_istore_n dX4_tell_32 (Nat.le_of_ble_eq_true rfl) ?_
      refine F_iload_n dX4_tell_33 rfl ?_
      refine F_iconst (v := (-1)) dX4_tell_34 rfl ?_
      refine F_icmp_eq (tgt := 56) dX4_tell_35 rfl (fun c35 => ?_) (fun c35 => ?_)
      · refine F_iload_n dX4_tell_56 rfl ?_
        refine F_iret dX4_tell_57 rfl ?_
        exact hQ
      · exact absurd rfl c35
    · refine m_tellS (by rw [e6 116 (by omega)]; exact p3) Q (g1 Q ?_)
      have y1 := l_back (G := G) (σ := σN) (l1 := some (.int w)) Q hQ 460 0 (by omega)
      rw [pcp_0, upR_self] at y1
      refine F_aload_n dX5_tell_117 rfl ?_
      refine F_getE (v := nI F) dX5_tell_118 rfl rfl rfl rfl g2 ?_
      refine F_if_neN (tgt := 134) dX5_tell_121 rfl (by omega) (fun c121 => ?_) (fun c121 => ?_)
      · refine F_iconst (v := nI 0) dX5_tell_134 rfl ?_
        refine F_istore_n dX5_tell_135 (Nat.le_of_ble_eq_true rfl) ?_
        exact y1
      · exact absurd c121 (by omega)
    · rw [upR_s]
      have hT3 : TR (upR σN 117 (pcp (σN 117) (σN 119) 0 460)) 4 (σC 117) n c := hTC.rows (fun q hq => by rw [upR_n _ _ (by omega), nlo _ (by omega)])
      exact TRf.congr hT3 (fun x hx => by rw [pcp_in _ _ hx, n19 x hx])
    · refine hcc _ (fun z hz => ?_) ?_ ?_
      · by_cases h7 : z = 127
        · subst h7
          rw [upR_n _ _ (by decide), g4.1 127 (by omega) (by omega) (by omega), htA _ 127 (by omega) (by omega), e6 127 (by omega)]
        · rw [upR_n _ _ (by omega), nlo z (by omega), qC z (by omega) (by omega) (by omega)]
      · rw [upR_n _ _ (by decide)]
        exact n6 23 (by decide) (by decide) (by decide) (by decide) (by decide) (by decide) (by decide) (by decide) (by decide)
      · rw [upR_n _ _ (by decide)]
        exact n6 24 (by decide) (by decide) (by decide) (by decide) (by decide) (by decide) (by decide) (by decide) (by decide)
    · refine hU.frame (fun a h1 h2 => ?_) ?_ ?_ ?_
      · rw [upR_n _ _ (by omega), nlo a h2, qC a (by omega) (by omega) (by omega)]
      · rw [upR_n _ _ (by omega), nlo 3 (by omega), qC 3 (by omega) (by omega) (by omega)]
      · rw [upR_n _ _ (by omega), g4.1 118 (by omega) (by omega) (by omega), htA _ 118 (by omega) (by omega), e6 118 (by omega)]
      · rw [upR_n _ _ (by omega)]
        exact n6 4 (by decide) (by decide) (by decide) (by decide) (by decide) (by decide) (by decide) (by decide) (by decide)
    · rw [upR_n _ _ (by omega), nlo 14 (by omega)]
      exact q14
    · rw [upR_n _ _ (by omega), g4.2 6 (by decide) (by decide) (by decide) (by decide) (by decide) (by decide)]
      exact htA66 _
    · rw [upR_n _ _ (by omega), nlo 13 (by omega), hF2, upR_n _ _ (by omega), g2]
end TELL
