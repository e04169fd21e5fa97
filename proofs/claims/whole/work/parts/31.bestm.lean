/-! ===== best: the reference ===== -/
section QI
variable {G : mG} {d n c : Nat} {σ : mS}
theorem p6w {w : Nat} (h : w ≤ 4) : 6 ^ w ≤ 1296 := Nat.pow_le_pow_right (n := 6) (by decide) h
theorem l_mbest1 (hb : okB (σ 117) n c) {g e w x r : Nat} (hg : g < n) (he : e < 70) (hw4 : w ≤ 4) (hw : w ≤ e) (hr : r < 6 ^ w) {τ : mS} {Kp : Nat → Int32} {l5 l6 l7 l8 : Option Value} {Q : Option Value → mS → Prop} (hk : ∀ l12, mF G mX5_best 12 163 [some (.ref 116), some (.int (nI g)), some (.int (nI e)), some (.int (nI w)), some (.int (nI x)), l5, l6, l7, l8, some (.int (nI (r / 6 ^ w))), some (.int (nI (bsD w r))), some (.int (nI (10 ^ w))), l12] [] (upR τ 117 (plR (σ 117) g (bsK Kp e w r))) Q) : ∀ m, m ≤ w → mF G mX5_best 12 102 [some (.ref 116), some (.int (nI g)), some (.int (nI e)), some (.int (nI w)), some (.int (nI x)), l5, l6, l7, l8, some (.int (nI (r / 6 ^ m))), some (.int (nI (bsD m r))), some (.int (nI (10 ^ m))), some (.int (nI (m + 1)))] [] (upR τ 117 (plR (σ 117) g (bsK Kp e m r))) Q := by
  have hn6 := hb.1
  have h6 := p6w hw4
  refine loopUp w (fun m hm ih => ?_)
  have hq : r / 6 ^ m ≤ r := Nat.div_le_self _ _
  refine F_iload dX5_best_102 rfl ?_
  refine F_iload_n dX5_best_104 rfl ?_
  refine F_icmp_gtN (tgt := 163) dX5_best_105 rfl (by omega) (by omega) (fun c105 => ?_) (fun c105 => ?_)
  · have e1 : m = w := by omega
    subst e1
    exact hk _
  · refine F_aload_n dX5_best_108 rfl ?_
    refine F_getr dX5_best_109 rfl rfl (by first | assumption | rfl) rfl ?_
    refine F_bipush (v := nI 40) dX5_best_112 rfl ?_
    refine F_bipush (v := nI 70) dX5_best_114 rfl ?_
    refine F_iload_n dX5_best_116 rfl ?_
    refine F_imulN dX5_best_117 ?_
    refine F_iaddN dX5_best_118 ?_
    refine F_iload_n dX5_best_119 rfl ?_
    refine F_iaddN dX5_best_120 ?_
    refine F_iload dX5_best_121 rfl ?_
    refine F_isubN dX5_best_123 (by omega) ?_
    refine F_iload dX5_best_124 rfl ?_
    refine F_bipush (v := nI 6) dX5_best_126 rfl ?_
    refine F_irem dX5_best_128 (by decide) ?_
    refine F_top (y := nI (r / 6 ^ m % 6)) (nI_rem (by omega) (by decide)) ?_
    refine F_iast dX5_best_129 (by first | assumption | rfl) (by decide) (by omega) ?_
    refine F_iload dX5_best_130 rfl ?_
    refine F_iload dX5_best_132 rfl ?_
    refine F_bipush (v := nI 6) dX5_best_134 rfl ?_
    refine F_irem dX5_best_136 (by decide) ?_
    refine F_top (y := nI (r / 6 ^ m % 6)) (nI_rem (by omega) (by decide)) ?_
    refine F_iload dX5_best_137 rfl ?_
    refine F_imulN dX5_best_139 ?_
    refine F_iaddN dX5_best_140 ?_
    refine F_istore dX5_best_141 (Nat.le_of_ble_eq_true rfl) ?_
    refine F_iload dX5_best_143 rfl ?_
    refine F_bipush (v := nI 10) dX5_best_145 rfl ?_
    refine F_imulN dX5_best_147 ?_
    refine F_istore dX5_best_148 (Nat.le_of_ble_eq_true rfl) ?_
    refine F_iload dX5_best_150 rfl ?_
    refine F_bipush (v := nI 6) dX5_best_152 rfl ?_
    refine F_idiv dX5_best_154 (by decide) ?_
    refine F_top (y := nI (r / 6 ^ (m + 1))) (by rw [nI_div (by omega) (by decide), Nat.div_div_eq_div_mul]; rfl) ?_
    refine F_istore dX5_best_155 (Nat.le_of_ble_eq_true rfl) ?_
    refine F_iincN dX5_best_157 rfl ?_
    refine F_goto (tgt := 102) dX5_best_160 rfl ?_
    have em : m < e := by omega
    refine F_sg ?_ (ih (by omega))
    rw [up_upR, show 40 + 70 * g + e - (m + 1) = 40 + 70 * g + (e - (m + 1)) by omega, plR_upd _ _ _ _ (by omega), bsK_s _ em]

theorem l_mbest (hb : okB (σ 117) n c) {g e w x : Nat} (hg : g < n) (he : e < 70) (hw4 : w ≤ 4) (hw : w ≤ e) (hx : x ≤ 1) : ∀ q r τ Kp l9 l10 l11 l12, r + q = 6 ^ w → τ 117 = plR (σ 117) g Kp → okR Kp → (∀ r, bsK Kp e w r = bsK (fun k => σ 117 (40 + 70 * g + k)) e w r) → (∀ k, k < 70 → τ 130 k = σ 117 (40 + 70 * g + k)) → RC τ → ∃ υ, Fr (upR τ 117 (σ 117)) υ ∧ ∀ Q : Option Value → mS → Prop, Q (some (.int (if x = 0 then (bsS (bsT (σ 117) g c e w) 0 (6 ^ w) ((-1000000000), (-1000000000))).2 else (bsS (bsT (σ 117) g c e w) 0 (6 ^ w) ((-1000000000), (-1000000000))).1))) υ → mF G mX5_best 12 82 [some (.ref 116), some (.int (nI g)), some (.int (nI e)), some (.int (nI w)), some (.int (nI x)), some (.int (nI (6 ^ w))), some (.int ((bsS (bsT (σ 117) g c e w) 0 r ((-1000000000), (-1000000000))).2)), some (.int ((bsS (bsT (σ 117) g c e w) 0 r ((-1000000000), (-1000000000))).1)), some (.int (nI r)), l9, l10, l11, l12] [] τ Q := by
  have hn6 := hb.1
  have h6 := p6w hw4
  intro q
  induction q with
  | zero =>
    intro r τ Kp l9 l10 l11 l12 hr h7 hkp hkk hw2 hC
    have e1 : r = 6 ^ w := by omega
    have eb : plR (τ 117) g (τ 130) = σ 117 := by rw [h7]; exact plR_back (σ 117) g _ _ hw2
    refine ⟨upR τ 117 (plR (τ 117) g (τ 130)), ⟨fun a ha => by rw [eb], rfl, rfl, rfl, hC⟩, fun Q hQ => ?_⟩
    rw [← e1] at hQ
    refine F_iload dX5_best_82 rfl ?_
    refine F_iload dX5_best_84 rfl ?_
    refine F_icmp_geN (tgt := 213) dX5_best_86 rfl (by omega) (by omega) (fun c86 => ?_) (fun c86 => ?_)
    · refine F_aload_n dX5_best_213 rfl ?_
      refine F_iload_n dX5_best_214 rfl ?_
      refine F_cV1v (v_comesBack (d := 5) (by omega)) dX5_best_215 rfl rfl (by decide) (by first | assumption | rfl) rfl rfl rfl (by decide) (Nat.le_of_ble_eq_true rfl) (by omega) ?_
      refine F_iload dX5_best_218 rfl ?_
      refine F_if_neN (tgt := 228) dX5_best_220 rfl (by omega) (fun c220 => ?_) (fun c220 => ?_)
      · refine F_iload dX5_best_228 rfl ?_
        refine F_iret dX5_best_230 rfl ?_
        first
          | (rw [if_pos (by omega)] at hQ
             exact hQ)
          | (rw [if_neg (by omega)] at hQ
             exact hQ)
      · refine F_iload dX5_best_223 rfl ?_
        refine F_goto (tgt := 230) dX5_best_225 rfl ?_
        refine F_iret dX5_best_230 rfl ?_
        first
          | (rw [if_pos (by omega)] at hQ
             exact hQ)
          | (rw [if_neg (by omega)] at hQ
             exact hQ)
    · exact absurd c86 (by omega)
  | succ q ih =>
    intro r τ Kp l9 l10 l11 l12 hr h7 hkp hkk hw2 hC
    have hok : okR (bsK (fun k => σ 117 (40 + 70 * g + k)) e w r) := bsK_ok (hb.row hg) e w r
    have hb7 : okB (upR τ 117 (plR (σ 117) g (bsK (fun k => σ 117 (40 + 70 * g + k)) e w r)) 117) n c := by rw [upR_s]; exact hb.pl hg hok
    obtain ⟨τ2, hv2, hG2, far2⟩ := q_form (G := G) (d := 5) (σ := upR τ 117 (plR (σ 117) g (bsK (fun k => σ 117 (40 + 70 * g + k)) e w r))) (n := n) (c := c) (g := g) (to := e) hb7 hC.2.1 hC.2.2.1 hg he
    have e23 : τ 116 23 = -1 := hC.1
    have eP : pQ (upR τ 117 (plR (σ 117) g (bsK (fun k => σ 117 (40 + 70 * g + k)) e w r)) 117) g c (upR τ 117 (plR (σ 117) g (bsK (fun k => σ 117 (40 + 70 * g + k)) e w r)) 116 23) = bsP (σ 117) g c e w r := by
      show pQ (plR (σ 117) g (bsK (fun k => σ 117 (40 + 70 * g + k)) e w r)) g c (τ 116 23) = _
      rw [e23]
      rfl
    rw [eP] at hv2 hG2
    have hgt : (-1000000000) < sForm (bsP (σ 117) g c e w r) e := (hb.pl hg hok).gt hg he
    have f2 : ∀ z, z < 124 ∨ 129 < z → z ≠ 117 → τ2 z = τ z := fun z hz h6 => by rw [far2 z hz, upR_n _ _ h6]
    have hC2 : RC τ2 := by
      obtain ⟨c1, c2, c3, c4, c5⟩ := hC
      refine ⟨by rw [f2 116 (by omega) (by omega)]; exact c1, by rw [f2 116 (by omega) (by omega)]; exact c2, hG2.1 0 (by omega), ?_, ?_⟩
      · rw [f2 37 (by omega) (by omega), f2 38 (by omega) (by omega), f2 33 (by omega) (by omega)]; exact c4
      · rw [f2 48 (by omega) (by omega), f2 49 (by omega) (by omega), f2 44 (by omega) (by omega)]; exact c5
    obtain ⟨υ, hf3, h3⟩ := ih (r + 1) τ2 (bsK (fun k => σ 117 (40 + 70 * g + k)) e w r) (some (.int (nI (r / 6 ^ w)))) (some (.int (nI (bsD w r)))) (some (.int (nI (10 ^ w)))) (some (.int (sForm (bsP (σ 117) g c e w r) e))) (by omega) ((far2 117 (by omega)).trans (upR_s _ _ _)) hok (fun r2 => bsK_bs _ _ _ _ _) (fun k hk => by rw [f2 130 (by omega) (by omega)]; exact hw2 k hk) hC2
    have hf4 : Fr (upR τ 117 (σ 117)) (upR τ2 117 (σ 117)) := q_frX hC (fun z hz h6 => by
      by_cases e : z = 117
      · subst e; rw [upR_s, upR_s]
      · rw [upR_n _ _ e, upR_n _ _ e, f2 z (by omega) e]) (by show τ2 116 4 = τ 116 4; rw [f2 116 (by omega) (by omega)]) (by show τ2 116 6 = τ 116 6; rw [f2 116 (by omega) (by omega)]) (by show τ2 116 7 = τ 116 7; rw [f2 116 (by omega) (by omega)]) hC2.1 hC2.2.1 hC2.2.2.1
    refine ⟨υ, hf4.trans hf3, fun Q hQ => ?_⟩
    have h3 := h3 Q hQ
    have hno := acc_no (σ 117) (g := g) (c := c) (e := e) hw4 r
    have eS : (bsS (bsT (σ 117) g c e w) 0 (r + 1) ((-1000000000), (-1000000000))) = bsT (σ 117) g c e w r (bsS (bsT (σ 117) g c e w) 0 r ((-1000000000), (-1000000000))) := by
      show bsT (σ 117) g c e w (0 + r) _ = _
      rw [Nat.zero_add]
    have eT : bsT (σ 117) g c e w r (bsS (bsT (σ 117) g c e w) 0 r ((-1000000000), (-1000000000))) = if hlB (sInj (bsP (σ 117) g c e w r)) (e - w) (w + 1) = true ∧ (bsS (bsT (σ 117) g c e w) 0 r ((-1000000000), (-1000000000))).1 < sForm (bsP (σ 117) g c e w r) e then (sForm (bsP (σ 117) g c e w r) e, nI (bsD w r)) else (bsS (bsT (σ 117) g c e w) 0 r ((-1000000000), (-1000000000))) := rfl
    rw [eS, eT] at h3
    generalize (bsS (bsT (σ 117) g c e w) 0 r ((-1000000000), (-1000000000))) = z at *
    have hlt : z.2 = (-1000000000) → z.1 < sForm (bsP (σ 117) g c e w r) e := fun h => by rw [hno h]; exact hgt
    have hh := v_isHale (G := G) (d := 5) (a := e - w) (b := e) hG2 (by omega) (by omega) (by omega)
    rw [show e + 1 - (e - w) = w + 1 by omega] at hh
    refine F_iload dX5_best_82 rfl ?_
    refine F_iload dX5_best_84 rfl ?_
    refine F_icmp_geN (tgt := 213) dX5_best_86 rfl (by omega) (by omega) (fun c86 => ?_) (fun c86 => ?_)
    · exact absurd c86 (by omega)
    · refine F_iload dX5_best_89 rfl ?_
      refine F_istore dX5_best_91 (Nat.le_of_ble_eq_true rfl) ?_
      refine F_iconst (v := nI 0) dX5_best_93 rfl ?_
      refine F_istore dX5_best_94 (Nat.le_of_ble_eq_true rfl) ?_
      refine F_iconst (v := nI 1) dX5_best_96 rfl ?_
      refine F_istore dX5_best_97 (Nat.le_of_ble_eq_true rfl) ?_
      refine F_iconst (v := nI 1) dX5_best_99 rfl ?_
      refine F_istore dX5_best_100 (Nat.le_of_ble_eq_true rfl) ?_
      refine F_sg (σ2 := (upR τ 117 (plR (σ 117) g (bsK Kp e 0 r)))) ?_ ?_
      · have e0 : bsK Kp e 0 r = Kp := by
          funext k
          simp only [bsK]
          rw [if_neg (by omega)]
        rw [e0, ← h7, upR_self]
      have h1 := l_mbest1 (G := G) (x := x) (τ := τ) (Kp := Kp) (Q := Q) hb hg he hw4 hw (show r < 6 ^ w by omega) (l5 := some (.int (nI (6 ^ w)))) (l6 := some (.int z.2)) (l7 := some (.int z.1)) (l8 := some (.int (nI r))) (fun l12 => ?_) 0 (by omega)
      · rw [Nat.pow_zero, Nat.div_one] at h1
        exact h1
      rw [hkk r]
      refine F_aload_n dX5_best_163 rfl ?_
      refine F_iload_n dX5_best_164 rfl ?_
      refine F_iload_n dX5_best_165 rfl ?_
      refine F_cV2i (hv2) dX5_best_166 rfl rfl (by decide) (by first | assumption | rfl) rfl rfl rfl (by decide) (Nat.le_of_ble_eq_true rfl) (by omega) ?_
      refine F_istore dX5_best_169 (Nat.le_of_ble_eq_true rfl) ?_
      refine F_aload_n dX5_best_171 rfl ?_
      refine F_iload_n dX5_best_172 rfl ?_
      refine F_iload_n dX5_best_173 rfl ?_
      refine F_isubN dX5_best_174 (by omega) ?_
      refine F_iload_n dX5_best_175 rfl ?_
      refine F_cV2i (hh) dX5_best_176 rfl rfl (by decide) (by first | assumption | rfl) rfl rfl rfl (by decide) (Nat.le_of_ble_eq_true rfl) (by omega) ?_
      refine F_if_eqB (tgt := 207) dX5_best_179 rfl (fun c179 => ?_) (fun c179 => ?_)
      · refine F_iincN dX5_best_207 rfl ?_
        refine F_goto (tgt := 82) dX5_best_210 rfl ?_
        first
          | (have y1 : ¬ (hlB (sInj (bsP (σ 117) g c e w r)) (e - w) (w + 1) = true) := fun y => Bool.noConfusion (c179.symm.trans y)
             rw [if_neg (fun y => y1 y.1)] at h3
             exact h3)
          | (have y1 := hlt c186
             rw [if_pos (And.intro c179 y1)] at h3
             exact h3)
          | (have y1 := And.intro c179 c193
             rw [if_pos y1] at h3
             exact h3)
          | (have y1 : ¬ (hlB (sInj (bsP (σ 117) g c e w r)) (e - w) (w + 1) = true ∧ z.1 < sForm (bsP (σ 117) g c e w r) e) := fun y => c193 y.2
             rw [if_neg y1] at h3
             exact h3)
      · refine F_iload dX5_best_182 rfl ?_
        refine F_ldc dX5_best_184 rfl rfl ?_
        refine F_icmp_eq (tgt := 199) dX5_best_186 rfl (fun c186 => ?_) (fun c186 => ?_)
        · refine F_iload dX5_best_199 rfl ?_
          refine F_istore dX5_best_201 (Nat.le_of_ble_eq_true rfl) ?_
          refine F_iload dX5_best_203 rfl ?_
          refine F_istore dX5_best_205 (Nat.le_of_ble_eq_true rfl) ?_
          refine F_iincN dX5_best_207 rfl ?_
          refine F_goto (tgt := 82) dX5_best_210 rfl ?_
          first
            | (have y1 : ¬ (hlB (sInj (bsP (σ 117) g c e w r)) (e - w) (w + 1) = true) := fun y => Bool.noConfusion (c179.symm.trans y)
               rw [if_neg (fun y => y1 y.1)] at h3
               exact h3)
            | (have y1 := hlt c186
               rw [if_pos (And.intro c179 y1)] at h3
               exact h3)
            | (have y1 := And.intro c179 c193
               rw [if_pos y1] at h3
               exact h3)
            | (have y1 : ¬ (hlB (sInj (bsP (σ 117) g c e w r)) (e - w) (w + 1) = true ∧ z.1 < sForm (bsP (σ 117) g c e w r) e) := fun y => c193 y.2
               rw [if_neg y1] at h3
               exact h3)
        · refine F_iload dX5_best_189 rfl ?_
          refine F_iload dX5_best_191 rfl ?_
          refine F_icmp_gt (tgt := 199) dX5_best_193 rfl (fun c193 => ?_) (fun c193 => ?_)
          · refine F_iload dX5_best_199 rfl ?_
            refine F_istore dX5_best_201 (Nat.le_of_ble_eq_true rfl) ?_
            refine F_iload dX5_best_203 rfl ?_
            refine F_istore dX5_best_205 (Nat.le_of_ble_eq_true rfl) ?_
            refine F_iincN dX5_best_207 rfl ?_
            refine F_goto (tgt := 82) dX5_best_210 rfl ?_
            first
              | (have y1 : ¬ (hlB (sInj (bsP (σ 117) g c e w r)) (e - w) (w + 1) = true) := fun y => Bool.noConfusion (c179.symm.trans y)
                 rw [if_neg (fun y => y1 y.1)] at h3
                 exact h3)
              | (have y1 := hlt c186
                 rw [if_pos (And.intro c179 y1)] at h3
                 exact h3)
              | (have y1 := And.intro c179 c193
                 rw [if_pos y1] at h3
                 exact h3)
              | (have y1 : ¬ (hlB (sInj (bsP (σ 117) g c e w r)) (e - w) (w + 1) = true ∧ z.1 < sForm (bsP (σ 117) g c e w r) e) := fun y => c193 y.2
                 rw [if_neg y1] at h3
                 exact h3)
          · refine F_goto (tgt := 207) dX5_best_196 rfl ?_
            refine F_iincN dX5_best_207 rfl ?_
            refine F_goto (tgt := 82) dX5_best_210 rfl ?_
            first
              | (have y1 : ¬ (hlB (sInj (bsP (σ 117) g c e w r)) (e - w) (w + 1) = true) := fun y => Bool.noConfusion (c179.symm.trans y)
                 rw [if_neg (fun y => y1 y.1)] at h3
                 exact h3)
              | (have y1 := hlt c186
                 rw [if_pos (And.intro c179 y1)] at h3
                 exact h3)
              | (have y1 := And.intro c179 c193
                 rw [if_pos y1] at h3
                 exact h3)
              | (have y1 : ¬ (hlB (sInj (bsP (σ 117) g c e w r)) (e - w) (w + 1) = true ∧ z.1 < sForm (bsP (σ 117) g c e w r) e) := fun y => c193 y.2
                 rw [if_neg y1] at h3
                 exact h3)

theorem m_bestB (hq : QR σ n c) {g e w x : Nat} (hg : g < n) (he : e < 70) (hw4 : w ≤ 4) (hw : w ≤ e) (hx : x ≤ 1) : Ask G mX5_best [.ref 116, .int (nI g), .int (nI e), .int (nI w), .int (nI x)] (if x = 0 then (bsS (bsT (σ 117) g c e w) 0 (6 ^ w) ((-1000000000), (-1000000000))).2 else (bsS (bsT (σ 117) g c e w) 0 (6 ^ w) ((-1000000000), (-1000000000))).1) σ := by
  have hn := hq.1.2.1
  have h23 := hq.1.1.2.2.1
  have hn6 := hq.1.1.1
  have hq1 := (Fr.thrown hq (nI 0)).qr hq
  have hqr : QR (upR (up σ 116 0 (nI 0)) 130 (va_cpy (σ 117) (σ 130) (40 + 70 * g) 0 70)) n c := hq1
  have h9w : ∀ k, k < 70 → (upR (up σ 116 0 (nI 0)) 130 (va_cpy (σ 117) (σ 130) (40 + 70 * g) 0 70)) 130 k = σ 117 (40 + 70 * g + k) := fun k hk => by
    show (va_cpy (σ 117) (σ 130) (40 + 70 * g) 0 70) k = _
    simp only [va_cpy]
    rw [if_pos (by omega)]; congr 1
  have h6 := p6w hw4
  obtain ⟨υ, hf3, h3⟩ := l_mbest (G := G) (σ := σ) hq.1.1 hg he hw4 hw hx (6 ^ w) 0 (upR (up σ 116 0 (nI 0)) 130 (va_cpy (σ 117) (σ 130) (40 + 70 * g) 0 70)) (fun k => σ 117 (40 + 70 * g + k)) none none none none (by omega) (plR_self _ _).symm (hq.1.1.row hg) (fun r => rfl) h9w hq.2
  have hu : upR (upR (up σ 116 0 (nI 0)) 130 (va_cpy (σ 117) (σ 130) (40 + 70 * g) 0 70)) 117 (σ 117) = (upR (up σ 116 0 (nI 0)) 130 (va_cpy (σ 117) (σ 130) (40 + 70 * g) 0 70)) := upR_self (upR (up σ 116 0 (nI 0)) 130 (va_cpy (σ 117) (σ 130) (40 + 70 * g) 0 70)) 117
  rw [hu] at hf3
  have hf9 : Fr σ (upR (up σ 116 0 (nI 0)) 130 (va_cpy (σ 117) (σ 130) (40 + 70 * g) 0 70)) := q_frX (τ1 := σ) hq.2 (fun z hz h6 => by rw [upR_n _ _ (by omega), up_n _ _ _ h6]) rfl rfl rfl hq.2.1 hq.2.2.1 hq.2.2.2.1
  refine ⟨υ, mV_of fun Q hQ => ?_, hf9.trans hf3⟩
  refine F_aload_n dX5_best_0 rfl ?_
  refine F_iconst (v := nI 0) dX5_best_1 rfl ?_
  refine F_put dX5_best_2 rfl rfl (by first | assumption | rfl) rfl rfl rfl rfl ?_
  refine F_aload_n dX5_best_5 rfl ?_
  refine F_iload_n dX5_best_6 rfl ?_
  refine F_iload_n dX5_best_7 rfl ?_
  refine F_cV2i (v_isOne (d := 5) _ _ (n := n) h23 (by omega)) dX5_best_8 rfl rfl (by decide) (by first | assumption | rfl) rfl rfl rfl (by decide) (Nat.le_of_ble_eq_true rfl) (by omega) ?_
  refine F_if_eqB (tgt := 38) dX5_best_11 rfl (fun c11 => ?_) (fun c11 => ?_)
  · rw [show (up σ 116 0 (nI 0)) 117 23 = nI n from h23, grB_nI hg (by omega), dB_nI he] at c11
    cases c11
  · refine F_iload_n dX5_best_14 rfl ?_
    refine F_iconst (v := nI 0) dX5_best_15 rfl ?_
    refine F_iconst (v := nI 4) dX5_best_16 rfl ?_
    refine F_cS3i (v_isIn (d := 5) _ _ _) dX5_best_17 rfl rfl rfl (by decide) (Nat.le_of_ble_eq_true rfl) (by omega) ?_
    refine F_if_eqB (tgt := 38) dX5_best_20 rfl (fun c20 => ?_) (fun c20 => ?_)
    · rw [inR_nI (by decide) (by decide) (by omega), decide_eq_true (by omega), decide_eq_true hw4] at c20
      cases c20
    · refine F_iload_n dX5_best_23 rfl ?_
      refine F_iload_n dX5_best_24 rfl ?_
      refine F_icmp_gtN (tgt := 38) dX5_best_25 rfl (by omega) (by omega) (fun c25 => ?_) (fun c25 => ?_)
      · exact absurd c25 (by omega)
      · refine F_iload dX5_best_28 rfl ?_
        refine F_iconst (v := nI 0) dX5_best_30 rfl ?_
        refine F_iconst (v := nI 1) dX5_best_31 rfl ?_
        refine F_cS3i (v_isIn (d := 5) _ _ _) dX5_best_32 rfl rfl rfl (by decide) (Nat.le_of_ble_eq_true rfl) (by omega) ?_
        refine F_if_neB (tgt := 41) dX5_best_35 rfl (fun c35 => ?_) (fun c35 => ?_)
        · refine F_aload_n dX5_best_41 rfl ?_
          refine F_iload_n dX5_best_42 rfl ?_
          refine F_cV1v (v_remembers (d := 5) (by omega)) dX5_best_43 rfl rfl (by decide) (by first | assumption | rfl) rfl rfl rfl (by decide) (Nat.le_of_ble_eq_true rfl) (by omega) ?_
          refine F_iconst (v := nI 1) dX5_best_46 rfl ?_
          refine F_istore dX5_best_47 (Nat.le_of_ble_eq_true rfl) ?_
          refine F_iconst (v := nI 0) dX5_best_49 rfl ?_
          refine F_istore dX5_best_50 (Nat.le_of_ble_eq_true rfl) ?_
          have hl : ∀ k, k ≤ w → mF G mX5_best 12 52 [some (.ref 116), some (.int (nI g)), some (.int (nI e)), some (.int (nI w)), some (.int (nI x)), some (.int (nI (6 ^ k))), some (.int (nI k)), none, none, none, none, none, none] [] (upR (up σ 116 0 (nI 0)) 130 (va_cpy (σ 117) (σ 130) (40 + 70 * g) 0 70)) Q := by
            refine loopUp w (fun k hk ih => ?_)
            refine F_iload dX5_best_52 rfl ?_
            refine F_iload_n dX5_best_54 rfl ?_
            refine F_icmp_geN (tgt := 71) dX5_best_55 rfl (by omega) (by omega) (fun c55 => ?_) (fun c55 => ?_)
            · refine F_ldc dX5_best_71 rfl rfl ?_
              refine F_istore dX5_best_73 (Nat.le_of_ble_eq_true rfl) ?_
              refine F_ldc dX5_best_75 rfl rfl ?_
              refine F_istore dX5_best_77 (Nat.le_of_ble_eq_true rfl) ?_
              refine F_iconst (v := nI 0) dX5_best_79 rfl ?_
              refine F_istore dX5_best_80 (Nat.le_of_ble_eq_true rfl) ?_
              have e1 : k = w := by omega
              subst e1
              exact h3 Q hQ
            · refine F_iload dX5_best_58 rfl ?_
              refine F_bipush (v := nI 6) dX5_best_60 rfl ?_
              refine F_imulN dX5_best_62 ?_
              refine F_istore dX5_best_63 (Nat.le_of_ble_eq_true rfl) ?_
              refine F_iincN dX5_best_65 rfl ?_
              refine F_goto (tgt := 52) dX5_best_68 rfl ?_
              exact ih (by omega)
          exact hl 0 (by omega)
        · rw [inR_nI (by decide) (by decide) (by omega), decide_eq_true (by omega), decide_eq_true hx] at c35
          cases c35

theorem op_best (h : Rel σ) (g e w x : Int32) : Same G mX4_best mX5_best [.int g, .int e, .int w, .int x] σ := by
  refine Same.of h fun n c hq => ?_
  by_cases hA : (grB (nI n) g && dB e && inR w (nI 0) (nI 4) && decide (w ≤ e) && inR x (nI 0) (nI 1)) = true
  · have h1 := Bool.and_eq_true_iff.mp hA
    have h2 := Bool.and_eq_true_iff.mp h1.1
    have h3 := Bool.and_eq_true_iff.mp h2.1
    obtain ⟨i, j, hi, hj, e1, e2⟩ := gd_n h3.1 hq.1.1.1
    obtain ⟨l, hl, e3⟩ := inR_n (by decide) h3.2
    obtain ⟨m, hm, e4⟩ := inR_n (by decide) h1.2
    have h5 := of_decide_eq_true h2.2
    subst e1; subst e2; subst e3; subst e4
    rw [nI_le_iff (by omega) (by omega)] at h5
    exact ⟨_, b_bestB hq hi hj hl h5 hm, fun σ2 h7 hq2 => by rw [← h7]; exact m_bestB hq2 hi hj hl h5 hm⟩
  · have hA := Bool.not_eq_true _ ▸ hA
    exact ⟨_, b_bestA hq hA, fun σ2 h7 hq2 => m_bestA hq2 hA⟩
end QI
