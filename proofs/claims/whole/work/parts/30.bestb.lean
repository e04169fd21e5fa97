/-! ===== best on both sides ===== -/
section QH
variable {G : mG} {d n c : Nat} {σ : mS}
theorem b_bestA (hq : QR σ n c) {g e w x : Int32} (h : (grB (nI n) g && dB e && inR w (nI 0) (nI 4) && decide (w ≤ e) && inR x (nI 0) (nI 1)) = false) : Ask G mX4_best [.ref 3, .int g, .int e, .int w, .int x] (-1000000000) σ := by
  have hn := hq.1.2.1
  have h23 := hq.1.1.2.2.1
  have hn6 := hq.1.1.1
  refine ⟨σ, mV_of fun Q hQ => ?_, Fr.rfl hq⟩
  refine F_aload_n dX4_best_0 rfl ?_
  refine F_getr dX4_best_1 rfl rfl (by first | assumption | rfl) rfl ?_
  refine F_iload_n dX4_best_4 rfl ?_
  refine F_cV1i (v_hasGroup (d := 10) isTold_4 _) dX4_best_5 rfl rfl (by decide) (by first | assumption | rfl) rfl rfl rfl (by decide) (Nat.le_of_ble_eq_true rfl) (by omega) ?_
  refine F_if_eqB (tgt := 18) dX4_best_8 rfl (fun c8 => ?_) (fun c8 => ?_)
  · refine F_ldc dX4_best_18 rfl rfl ?_
    refine F_iret dX4_best_20 rfl ?_
    exact hQ
  · refine F_iload_n dX4_best_11 rfl ?_
    refine F_cS1i (v_bIsDay (d := 10) _) dX4_best_12 rfl rfl rfl (by decide) (Nat.le_of_ble_eq_true rfl) (by omega) ?_
    refine F_if_neB (tgt := 21) dX4_best_15 rfl (fun c15 => ?_) (fun c15 => ?_)
    · refine F_iload_n dX4_best_21 rfl ?_
      refine F_if_lt (tgt := 46) dX4_best_22 rfl (fun c22 => ?_) (fun c22 => ?_)
      · refine F_ldc dX4_best_46 rfl rfl ?_
        refine F_iret dX4_best_48 rfl ?_
        exact hQ
      · refine F_iload_n dX4_best_25 rfl ?_
        refine F_iconst (v := nI 4) dX4_best_26 rfl ?_
        refine F_icmp_gt (tgt := 46) dX4_best_27 rfl (fun c27 => ?_) (fun c27 => ?_)
        · refine F_ldc dX4_best_46 rfl rfl ?_
          refine F_iret dX4_best_48 rfl ?_
          exact hQ
        · refine F_iload_n dX4_best_30 rfl ?_
          refine F_iload_n dX4_best_31 rfl ?_
          refine F_icmp_gt (tgt := 46) dX4_best_32 rfl (fun c32 => ?_) (fun c32 => ?_)
          · refine F_ldc dX4_best_46 rfl rfl ?_
            refine F_iret dX4_best_48 rfl ?_
            exact hQ
          · refine F_iload dX4_best_35 rfl ?_
            refine F_if_lt (tgt := 46) dX4_best_37 rfl (fun c37 => ?_) (fun c37 => ?_)
            · refine F_ldc dX4_best_46 rfl rfl ?_
              refine F_iret dX4_best_48 rfl ?_
              exact hQ
            · refine F_iload dX4_best_40 rfl ?_
              refine F_iconst (v := nI 1) dX4_best_42 rfl ?_
              refine F_icmp_le (tgt := 49) dX4_best_43 rfl (fun c43 => ?_) (fun c43 => ?_)
              · exfalso
                have c8 : grB (σ 4 0) g = true := c8
                rw [hn] at c8
                rw [lt0_iff, Decidable.not_not] at c22 c37
                rw [c8, c15, inR, inR, decide_eq_true c22, decide_eq_true (Int32.not_lt.mp c27), decide_eq_true (Int32.not_lt.mp c32), decide_eq_true c37, decide_eq_true c43] at h
                cases h
              · refine F_ldc dX4_best_46 rfl rfl ?_
                refine F_iret dX4_best_48 rfl ?_
                exact hQ
    · refine F_ldc dX4_best_18 rfl rfl ?_
      refine F_iret dX4_best_20 rfl ?_
      exact hQ

theorem m_bestA (hq : QR σ n c) {g e w x : Int32} (h : (grB (nI n) g && dB e && inR w (nI 0) (nI 4) && decide (w ≤ e) && inR x (nI 0) (nI 1)) = false) : Ask G mX5_best [.ref 116, .int g, .int e, .int w, .int x] (-1000000000) σ := by
  have hn := hq.1.2.1
  have h23 := hq.1.1.2.2.1
  have hn6 := hq.1.1.1
  have hq1 := (Fr.thrown hq (nI 0)).qr hq
  refine ⟨(up σ 116 0 (nI 0)), mV_of fun Q hQ => ?_, Fr.thrown hq _⟩
  refine F_aload_n dX5_best_0 rfl ?_
  refine F_iconst (v := nI 0) dX5_best_1 rfl ?_
  refine F_put dX5_best_2 rfl rfl (by first | assumption | rfl) rfl rfl rfl rfl ?_
  refine F_aload_n dX5_best_5 rfl ?_
  refine F_iload_n dX5_best_6 rfl ?_
  refine F_iload_n dX5_best_7 rfl ?_
  refine F_cV2i (v_isOne (d := 5) _ _ (n := n) h23 (by omega)) dX5_best_8 rfl rfl (by decide) (by first | assumption | rfl) rfl rfl rfl (by decide) (Nat.le_of_ble_eq_true rfl) (by omega) ?_
  refine F_if_eqB (tgt := 38) dX5_best_11 rfl (fun c11 => ?_) (fun c11 => ?_)
  · refine F_ldc dX5_best_38 rfl rfl ?_
    refine F_iret dX5_best_40 rfl ?_
    exact hQ
  · refine F_iload_n dX5_best_14 rfl ?_
    refine F_iconst (v := nI 0) dX5_best_15 rfl ?_
    refine F_iconst (v := nI 4) dX5_best_16 rfl ?_
    refine F_cS3i (v_isIn (d := 5) _ _ _) dX5_best_17 rfl rfl rfl (by decide) (Nat.le_of_ble_eq_true rfl) (by omega) ?_
    refine F_if_eqB (tgt := 38) dX5_best_20 rfl (fun c20 => ?_) (fun c20 => ?_)
    · refine F_ldc dX5_best_38 rfl rfl ?_
      refine F_iret dX5_best_40 rfl ?_
      exact hQ
    · refine F_iload_n dX5_best_23 rfl ?_
      refine F_iload_n dX5_best_24 rfl ?_
      refine F_icmp_gt (tgt := 38) dX5_best_25 rfl (fun c25 => ?_) (fun c25 => ?_)
      · refine F_ldc dX5_best_38 rfl rfl ?_
        refine F_iret dX5_best_40 rfl ?_
        exact hQ
      · refine F_iload dX5_best_28 rfl ?_
        refine F_iconst (v := nI 0) dX5_best_30 rfl ?_
        refine F_iconst (v := nI 1) dX5_best_31 rfl ?_
        refine F_cS3i (v_isIn (d := 5) _ _ _) dX5_best_32 rfl rfl rfl (by decide) (Nat.le_of_ble_eq_true rfl) (by omega) ?_
        refine F_if_neB (tgt := 41) dX5_best_35 rfl (fun c35 => ?_) (fun c35 => ?_)
        · exfalso
          rw [show (up σ 116 0 (nI 0)) 117 23 = nI n from h23] at c11
          rw [c11, c20, decide_eq_true (Int32.not_lt.mp c25), c35] at h
          cases h
        · refine F_ldc dX5_best_38 rfl rfl ?_
          refine F_iret dX5_best_40 rfl ?_
          exact hQ

theorem b_bestB (hq : QR σ n c) {g e w x : Nat} (hg : g < n) (he : e < 70) (hw4 : w ≤ 4) (hw : w ≤ e) (hx : x ≤ 1) : Ask G mX4_best [.ref 3, .int (nI g), .int (nI e), .int (nI w), .int (nI x)] (if x = 0 then (bsS (bsT (σ 117) g c e w) 0 (6 ^ w) ((-1000000000), (-1000000000))).2 else (bsS (bsT (σ 117) g c e w) 0 (6 ^ w) ((-1000000000), (-1000000000))).1) σ := by
  have hn := hq.1.2.1
  have h23 := hq.1.1.2.2.1
  have hn6 := hq.1.1.1
  obtain ⟨τ, hv, hL, hC, far⟩ := q_follow (G := G) (d := 7) (a := 29) (N := e - w) (Or.inl rfl) hq hg (by omega) (-1) rfl
  have hL0 := hL
  rw [← plR_self (σ 117) g] at hL0
  have hK0 : bsH (fun k => σ 117 (40 + 70 * g + k)) (fun k => σ 117 (40 + 70 * g + k)) e w w 0 := ⟨hq.1.1.row hg, fun k _ _ => rfl, fun k hk => by
    simp only [bsK]; rw [if_neg (by omega)]⟩
  have hL1 : Fw (up (up τ 29 10 (-1000000000)) 29 11 (-1000000000)) 29 (plR (σ 117) g (fun k => σ 117 (40 + 70 * g + k))) g c (-1) (e - w) := hL0.rows (fun b h1 h2 => by rw [up_n _ _ _ (by omega), up_n _ _ _ (by omega)])
  obtain ⟨υ, hv2, ⟨K2, k2, k3, k4⟩, hacc, far2, f33⟩ := v_tryRows (G := G) hq.1.1 hg he hw w (Nat.le_refl w) 0 _ (up (up τ 29 10 (-1000000000)) 29 11 (-1000000000)) hK0 (by rw [Nat.sub_self]; rfl) hL1
  rw [Nat.sub_self] at hv2
  rw [Nat.zero_mul] at hacc
  have hacc : (υ 29 10, υ 29 11) = (bsS (bsT (σ 117) g c e w) 0 (6 ^ w) ((-1000000000), (-1000000000))) := hacc
  have h10 : υ 29 10 = (bsS (bsT (σ 117) g c e w) 0 (6 ^ w) ((-1000000000), (-1000000000))).1 := congrArg Prod.fst hacc
  have h11 : υ 29 11 = (bsS (bsT (σ 117) g c e w) 0 (6 ^ w) ((-1000000000), (-1000000000))).2 := congrArg Prod.snd hacc
  have hf2 : Fr τ υ := q_frL hC k4 (fun b hb => by rw [far2 b hb, up_n _ _ _ (by omega), up_n _ _ _ (by omega)]) (by rw [f33, up_n _ _ _ (by omega), up_n _ _ _ (by omega)])
  refine ⟨υ, mV_of fun Q hQ => ?_, (q_frB (n := n) (c := c) (Or.inl rfl) hC far).trans hf2⟩
  refine F_aload_n dX4_best_0 rfl ?_
  refine F_getr dX4_best_1 rfl rfl (by first | assumption | rfl) rfl ?_
  refine F_iload_n dX4_best_4 rfl ?_
  refine F_cV1i (v_hasGroup (d := 10) isTold_4 _) dX4_best_5 rfl rfl (by decide) (by first | assumption | rfl) rfl rfl rfl (by decide) (Nat.le_of_ble_eq_true rfl) (by omega) ?_
  refine F_if_eqB (tgt := 18) dX4_best_8 rfl (fun c8 => ?_) (fun c8 => ?_)
  · have c8 : grB (σ 4 0) (nI g) = false := c8
    rw [hn, grB_nI hg (by omega)] at c8
    cases c8
  · refine F_iload_n dX4_best_11 rfl ?_
    refine F_cS1i (v_bIsDay (d := 10) _) dX4_best_12 rfl rfl rfl (by decide) (Nat.le_of_ble_eq_true rfl) (by omega) ?_
    refine F_if_neB (tgt := 21) dX4_best_15 rfl (fun c15 => ?_) (fun c15 => ?_)
    · refine F_iload_n dX4_best_21 rfl ?_
      refine F_if_ltN (tgt := 46) dX4_best_22 rfl (by omega) ?_
      refine F_iload_n dX4_best_25 rfl ?_
      refine F_iconst (v := nI 4) dX4_best_26 rfl ?_
      refine F_icmp_gtN (tgt := 46) dX4_best_27 rfl (by omega) (by omega) (fun c27 => ?_) (fun c27 => ?_)
      · exact absurd c27 (by omega)
      · refine F_iload_n dX4_best_30 rfl ?_
        refine F_iload_n dX4_best_31 rfl ?_
        refine F_icmp_gtN (tgt := 46) dX4_best_32 rfl (by omega) (by omega) (fun c32 => ?_) (fun c32 => ?_)
        · exact absurd c32 (by omega)
        · refine F_iload dX4_best_35 rfl ?_
          refine F_if_ltN (tgt := 46) dX4_best_37 rfl (by omega) ?_
          refine F_iload dX4_best_40 rfl ?_
          refine F_iconst (v := nI 1) dX4_best_42 rfl ?_
          refine F_icmp_leN (tgt := 49) dX4_best_43 rfl (by omega) (by omega) (fun c43 => ?_) (fun c43 => ?_)
          · refine F_aload_n dX4_best_49 rfl ?_
            refine F_getr dX4_best_50 rfl rfl (by first | assumption | rfl) rfl ?_
            refine F_aload_n dX4_best_53 rfl ?_
            refine F_getr dX4_best_54 rfl rfl (by first | assumption | rfl) rfl ?_
            refine F_iload_n dX4_best_57 rfl ?_
            refine F_iconst (v := (-1)) dX4_best_58 rfl ?_
            refine F_iload_n dX4_best_59 rfl ?_
            refine F_iload_n dX4_best_60 rfl ?_
            refine F_isubN dX4_best_61 (by omega) ?_
            refine F_iconst (v := nI 1) dX4_best_62 rfl ?_
            refine F_isub dX4_best_63 ?_
            refine F_cV_riii_v (hv) dX4_best_64 rfl rfl (by decide) (by first | assumption | rfl) rfl rfl rfl (by decide) (Nat.le_of_ble_eq_true rfl) (by omega) ?_
            refine F_aload_n dX4_best_67 rfl ?_
            refine F_getr dX4_best_68 rfl rfl (by first | assumption | rfl) rfl ?_
            refine F_ldc dX4_best_71 rfl rfl ?_
            refine F_put dX4_best_73 rfl rfl (by first | assumption | rfl) rfl rfl rfl rfl ?_
            refine F_aload_n dX4_best_76 rfl ?_
            refine F_getr dX4_best_77 rfl rfl (by first | assumption | rfl) rfl ?_
            refine F_ldc dX4_best_80 rfl rfl ?_
            refine F_put dX4_best_82 rfl rfl (by first | assumption | rfl) rfl rfl rfl rfl ?_
            refine F_aload_n dX4_best_85 rfl ?_
            refine F_getr dX4_best_86 rfl rfl (by first | assumption | rfl) rfl ?_
            refine F_iload_n dX4_best_89 rfl ?_
            refine F_iload_n dX4_best_90 rfl ?_
            refine F_iconst (v := nI 0) dX4_best_91 rfl ?_
            refine F_cV3v (hv2) dX4_best_92 rfl rfl (by decide) (by first | assumption | rfl) rfl rfl rfl (by decide) (Nat.le_of_ble_eq_true rfl) (by omega) ?_
            refine F_iload dX4_best_95 rfl ?_
            refine F_if_neN (tgt := 110) dX4_best_97 rfl (by omega) (fun c97 => ?_) (fun c97 => ?_)
            · refine F_aload_n dX4_best_110 rfl ?_
              refine F_getr dX4_best_111 rfl rfl (by first | assumption | rfl) rfl ?_
              refine F_getE (v := (bsS (bsT (σ 117) g c e w) 0 (6 ^ w) ((-1000000000), (-1000000000))).1) dX4_best_114 rfl rfl (by first | assumption | rfl) rfl h10 ?_
              refine F_iret dX4_best_117 rfl ?_
              first
                | (rw [if_pos (by omega)] at hQ
                   exact hQ)
                | (rw [if_neg (by omega)] at hQ
                   exact hQ)
            · refine F_aload_n dX4_best_100 rfl ?_
              refine F_getr dX4_best_101 rfl rfl (by first | assumption | rfl) rfl ?_
              refine F_getE (v := (bsS (bsT (σ 117) g c e w) 0 (6 ^ w) ((-1000000000), (-1000000000))).2) dX4_best_104 rfl rfl (by first | assumption | rfl) rfl h11 ?_
              refine F_goto (tgt := 117) dX4_best_107 rfl ?_
              refine F_iret dX4_best_117 rfl ?_
              first
                | (rw [if_pos (by omega)] at hQ
                   exact hQ)
                | (rw [if_neg (by omega)] at hQ
                   exact hQ)
          · exact absurd hx c43
    · rw [dB_nI he] at c15
      cases c15

theorem v_isHale {p : sP} {a b N : Nat} (hG : Gone σ p N) (hab : a ≤ b + 1) (hb : b < N) (hN : N ≤ 70) : mV G mX5_isHale d [.ref 116, .int (nI a), .int (nI b)] σ (some (.int (bI (hlB (sInj p) a (b + 1 - a))))) σ := by
  refine mV_of fun Q hQ => ?_
  have hl : ∀ m, m ≤ b + 1 - a → hlB (sInj p) a m = true → mF G mX5_isHale d 2 [some (.ref 116), some (.int (nI a)), some (.int (nI b)), some (.int (nI (a + m)))] [] σ Q := by
    refine loopUp (b + 1 - a) (fun m hm ih ht => ?_)
    refine F_iload_n dX5_isHale_2 rfl ?_
    refine F_iload_n dX5_isHale_3 rfl ?_
    refine F_icmp_gtN (tgt := 24) dX5_isHale_4 rfl (by omega) (by omega) (fun c4 => ?_) (fun c4 => ?_)
    · refine F_iconst (v := nI 1) dX5_isHale_24 rfl ?_
      refine F_zret dX5_isHale_25 rfl (by first | exact Or.inl rfl | exact Or.inr rfl | exact bI_01 _) ?_
      have e1 : m = b + 1 - a := by omega
      subst e1
      exact Qb1 hQ ht
    · refine F_aload_n dX5_isHale_7 rfl ?_
      refine F_getr dX5_isHale_8 rfl rfl (by first | assumption | rfl) rfl ?_
      refine F_iload_n dX5_isHale_11 rfl ?_
      refine F_zaldE (v := bI (sInj p (a + m))) dX5_isHale_12 (by first | assumption | rfl) (by decide) (by omega) (hG.2 (a + m) (by omega)).2.2.2.2 ?_
      refine F_if_eqB (tgt := 18) dX5_isHale_13 rfl (fun c13 => ?_) (fun c13 => ?_)
      · refine F_iincN dX5_isHale_18 rfl ?_
        refine F_goto (tgt := 2) dX5_isHale_21 rfl ?_
        refine ih (by omega) ?_
        simp only [hlB]
        rw [ht, c13]
        rfl
      · refine F_iconst (v := nI 0) dX5_isHale_16 rfl ?_
        refine F_zret dX5_isHale_17 rfl (by first | exact Or.inl rfl | exact Or.inr rfl | exact bI_01 _) ?_
        exact Qb0 hQ (hlB_no (i := m) c13 _ (by omega))
  refine F_iload_n dX5_isHale_0 rfl ?_
  refine F_istore_n dX5_isHale_1 (Nat.le_of_ble_eq_true rfl) ?_
  exact hl 0 (by omega) rfl

theorem bsD_lt0 (m r : Nat) : bsD m r < 10 ^ m := by
  induction m with
  | zero => exact Nat.one_pos
  | succ m ih =>
    simp only [bsD]
    have h1 : r / 6 ^ m % 6 * 10 ^ m ≤ 5 * 10 ^ m := Nat.mul_le_mul_right _ (by have := Nat.mod_lt (r / 6 ^ m) (show 0 < 6 by decide); omega)
    rw [Nat.pow_succ]
    omega
theorem p10 {w : Nat} (h : w ≤ 4) : 10 ^ w ≤ 10000 := Nat.pow_le_pow_right (n := 10) (by decide) h
theorem acc_no (f : Nat → Int32) {g c e w : Nat} (hw4 : w ≤ 4) : ∀ m, (bsS (bsT f g c e w) 0 m ((-1000000000), (-1000000000))).2 = (-1000000000) → (bsS (bsT f g c e w) 0 m ((-1000000000), (-1000000000))).1 = (-1000000000) := by
  intro m
  induction m with
  | zero => intro _; rfl
  | succ m ih =>
    show (bsT f g c e w (0 + m) (bsS (bsT f g c e w) 0 m ((-1000000000), (-1000000000)))).2 = _ → (bsT f g c e w (0 + m) (bsS (bsT f g c e w) 0 m ((-1000000000), (-1000000000)))).1 = _
    unfold bsT
    split
    · intro h
      exfalso
      have h : nI (bsD w (0 + m)) = (-1000000000) := h
      have h2 := congrArg Int32.toInt h
      have e9 : ((-1000000000) : Int32).toInt = -1000000000 := by decide
      have hd := bsD_lt0 w (0 + m)
      have hp := p10 hw4
      rw [nI_toInt (by omega), e9] at h2
      omega
    · exact ih
end QH
