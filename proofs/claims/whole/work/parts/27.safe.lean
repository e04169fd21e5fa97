/-! ===== safe ===== -/
/-- another load for day e -/
def pS (f : Nat → Int32) (g c e : Nat) (v : Int32) : sP := ((pQ f g c (-1)).1, fun k => if k = e then v else (pQ f g c (-1)).2.1 k, (pQ f g c (-1)).2.2.1, (pQ f g c (-1)).2.2.2.1, (pQ f g c (-1)).2.2.2.2)
theorem pS_eq (f : Nat → Int32) (g c e : Nat) (v : Int32) : sEq (pQ f g c (-1)) (pS f g c e v) e := by
  refine ⟨fun k hk => rfl, fun k hk => ⟨?_, rfl⟩, rfl, rfl⟩
  show _ = if k = e then v else _
  rw [if_neg (by omega)]
/-- the greatest load below q on which one isn't injured -/
def sfR (F : Nat → Bool) : Nat → Int32
  | 0 => -1
  | l + 1 => if F l = true then sfR F l else nI l
def sv : Nat → Int32
  | 0 => -1
  | l + 1 => nI l
theorem sv_s (l : Nat) : nI l + Int32.ofInt (-1) = sv l := by
  cases l with
  | zero => decide
  | succ l =>
    show nI (l + 1) + Int32.ofInt (-1) = nI l
    rw [nI_succ]
    show nI l + 1 + (-1) = nI l
    rw [Int32.add_assoc, show (1 + -1 : Int32) = 0 by decide, Int32.add_zero]
section QE
variable {G : mG} {d n c : Nat} {σ : mS}
theorem q_frV {τ τ1 : mS} {p : sP} {m : Nat} (hC : RC τ1) (hw : Lived τ 29 p m) (far : ∀ b, b < 29 ∨ 39 < b → τ b = τ1 b) (h33 : τ 33 = τ1 33) : Fr τ1 τ := by
  refine ⟨fun b hb => far b (by omega), by rw [far 116 (by omega)], by rw [far 116 (by omega)], by rw [far 116 (by omega)], ?_⟩
  obtain ⟨c1, c2, c3, c4, c5⟩ := hC
  have hz := hw.2.2.1 0 (by omega)
  refine ⟨by rw [far 116 (by omega)]; exact c1, by rw [far 116 (by omega)]; exact c2, by rw [far 127 (by omega)]; exact c3, ⟨hz.2.2.1, hz.2.2.2, ?_⟩, ?_⟩
  · rw [h33]; exact c4.2.2
  · rw [far 48 (by omega), far 49 (by omega), far 44 (by omega)]; exact c5



theorem l_bsafe (hb : okB (σ 117) n c) {g e : Nat} (hg : g < n) (he : e < 70) : ∀ q τ, q ≤ 301 → Lived τ 29 (pQ (σ 117) g c (-1)) e → RC τ → ∃ υ, Fr τ υ ∧ ∀ Q : Option Value → mS → Prop, Q (some (.int (sfR (fun l => sInj (pS (σ 117) g c e (nI l)) e) q))) υ → mF G mX4_safe 12 40 [some (.ref 3), some (.int (nI g)), some (.int (nI e)), some (.int (sv q))] [] τ Q := by
  intro q
  induction q with
  | zero =>
    intro τ hq hL hC
    refine ⟨τ, ⟨fun a ha => rfl, rfl, rfl, rfl, hC⟩, fun Q hQ => ?_⟩
    show mF G mX4_safe 12 40 [some (.ref 3), some (.int (nI g)), some (.int (nI e)), some (.int (-1))] [] τ Q
    refine F_iload_n dX4_safe_40 rfl ?_
    refine F_if_lt (tgt := 73) dX4_safe_41 rfl (fun c41 => ?_) (fun c41 => ?_)
    · refine F_iconst (v := (-1)) dX4_safe_73 rfl ?_
      refine F_iret dX4_safe_74 rfl ?_
      exact hQ
    · exact absurd (by decide) c41
  | succ l ih =>
    intro τ hq hL hC
    have hE := pS_eq (σ 117) g c e (nI l)
    have hv := v_liveDay (G := G) (d := 5) isCourse_29 he (hL.congr hE (fun k hk => rfl)) (p := pS (σ 117) g c e (nI l)) (hb.s g c (-1))
    have hv : mV G mX0_liveDay 7 [.ref 29, .int (nI e), .int (nI l)] τ none (livS τ 29 e (pS (σ 117) g c e (nI l))) := by
      have e1 : (pS (σ 117) g c e (nI l)).2.1 e = nI l := if_pos rfl
      rw [e1] at hv; exact hv
    have hN := (hL.congr hE (fun k hk => rfl)).next
    have h9 := (hN.2.2.2 e (by omega)).2
    have hf : Fr τ (livS τ 29 e (pS (σ 117) g c e (nI l))) := q_frV hC hN (fun b hb => livS_far _ _ (by omega)) (livS_far _ _ (by omega))
    show ∃ υ, Fr τ υ ∧ ∀ Q : Option Value → mS → Prop, Q (some (.int (sfR (fun l => sInj (pS (σ 117) g c e (nI l)) e) (l + 1)))) υ → mF G mX4_safe 12 40 [some (.ref 3), some (.int (nI g)), some (.int (nI e)), some (.int (nI l))] [] τ Q
    by_cases hx : sInj (pS (σ 117) g c e (nI l)) e = true
    · obtain ⟨υ, hf3, h3⟩ := ih _ (by omega) ((hN.mono (show e ≤ e + 1 by omega)).congr hE.sym (fun k hk => rfl)) hf.2.2.2.2
      refine ⟨υ, hf.trans hf3, fun Q hQ => ?_⟩
      simp only [sfR] at hQ
      rw [if_pos hx] at hQ
      refine F_iload_n dX4_safe_40 rfl ?_
      refine F_if_ltN (tgt := 73) dX4_safe_41 rfl (by omega) ?_
      refine F_aload_n dX4_safe_44 rfl ?_
      refine F_getr dX4_safe_45 rfl rfl (by first | assumption | rfl) rfl ?_
      refine F_iload_n dX4_safe_48 rfl ?_
      refine F_iload_n dX4_safe_49 rfl ?_
      refine F_cV2v (hv) dX4_safe_50 rfl rfl (by decide) (by first | assumption | rfl) rfl rfl rfl (by decide) (Nat.le_of_ble_eq_true rfl) (by omega) ?_
      refine F_aload_n dX4_safe_53 rfl ?_
      refine F_getr dX4_safe_54 rfl rfl (by first | assumption | rfl) rfl ?_
      refine F_getr dX4_safe_57 rfl rfl (by first | assumption | rfl) rfl ?_
      refine F_iload_n dX4_safe_60 rfl ?_
      refine F_zaldE (v := bI true) dX4_safe_61 (by first | assumption | rfl) (by decide) (by omega) (by rw [h9, hx]) ?_
      refine F_if_neB (tgt := 67) dX4_safe_62 rfl (fun c62 => ?_) (fun c62 => ?_)
      · refine F_iinc (v := sv l) dX4_safe_67 rfl (sv_s l) ?_
        refine F_goto (tgt := 40) dX4_safe_70 rfl ?_
        exact h3 Q hQ
      · cases c62
    · have hx := Bool.not_eq_true _ ▸ hx
      refine ⟨_, hf, fun Q hQ => ?_⟩
      simp only [sfR] at hQ
      rw [if_neg (by rw [hx]; decide)] at hQ
      refine F_iload_n dX4_safe_40 rfl ?_
      refine F_if_ltN (tgt := 73) dX4_safe_41 rfl (by omega) ?_
      refine F_aload_n dX4_safe_44 rfl ?_
      refine F_getr dX4_safe_45 rfl rfl (by first | assumption | rfl) rfl ?_
      refine F_iload_n dX4_safe_48 rfl ?_
      refine F_iload_n dX4_safe_49 rfl ?_
      refine F_cV2v (hv) dX4_safe_50 rfl rfl (by decide) (by first | assumption | rfl) rfl rfl rfl (by decide) (Nat.le_of_ble_eq_true rfl) (by omega) ?_
      refine F_aload_n dX4_safe_53 rfl ?_
      refine F_getr dX4_safe_54 rfl rfl (by first | assumption | rfl) rfl ?_
      refine F_getr dX4_safe_57 rfl rfl (by first | assumption | rfl) rfl ?_
      refine F_iload_n dX4_safe_60 rfl ?_
      refine F_zaldE (v := bI false) dX4_safe_61 (by first | assumption | rfl) (by decide) (by omega) (by rw [h9, hx]) ?_
      refine F_if_neB (tgt := 67) dX4_safe_62 rfl (fun c62 => ?_) (fun c62 => ?_)
      · cases c62
      · refine F_iload_n dX4_safe_65 rfl ?_
        refine F_iret dX4_safe_66 rfl ?_
        exact hQ

theorem b_safeA (hq : QR σ n c) {g e : Int32} (h : (grB (nI n) g && dB e) = false) : Ask G mX4_safe [.ref 3, .int g, .int e] (-1) σ := by
  have hn := hq.1.2.1
  have h23 := hq.1.1.2.2.1
  have hn6 := hq.1.1.1
  refine ⟨σ, mV_of fun Q hQ => ?_, Fr.rfl hq⟩
  refine F_aload_n dX4_safe_0 rfl ?_
  refine F_getr dX4_safe_1 rfl rfl (by first | assumption | rfl) rfl ?_
  refine F_iload_n dX4_safe_4 rfl ?_
  refine F_cV1i (v_hasGroup (d := 10) isTold_4 _) dX4_safe_5 rfl rfl (by decide) (by first | assumption | rfl) rfl rfl rfl (by decide) (Nat.le_of_ble_eq_true rfl) (by omega) ?_
  refine F_if_eqB (tgt := 18) dX4_safe_8 rfl (fun c8 => ?_) (fun c8 => ?_)
  · refine F_iconst (v := (-1)) dX4_safe_18 rfl ?_
    refine F_iret dX4_safe_19 rfl ?_
    exact hQ
  · refine F_iload_n dX4_safe_11 rfl ?_
    refine F_cS1i (v_bIsDay (d := 10) _) dX4_safe_12 rfl rfl rfl (by decide) (Nat.le_of_ble_eq_true rfl) (by omega) ?_
    refine F_if_neB (tgt := 20) dX4_safe_15 rfl (fun c15 => ?_) (fun c15 => ?_)
    · exfalso
      have c8 : grB (σ 4 0) g = true := c8
      rw [hn] at c8
      rw [c8, c15] at h
      cases h
    · refine F_iconst (v := (-1)) dX4_safe_18 rfl ?_
      refine F_iret dX4_safe_19 rfl ?_
      exact hQ

theorem m_safeA (hq : QR σ n c) {g e : Int32} (h : (grB (nI n) g && dB e) = false) : Ask G mX5_safe [.ref 116, .int g, .int e] (-1) σ := by
  have hn := hq.1.2.1
  have h23 := hq.1.1.2.2.1
  have hn6 := hq.1.1.1
  have hq1 := (Fr.thrown hq (nI 0)).qr hq
  refine ⟨(up σ 116 0 (nI 0)), mV_of fun Q hQ => ?_, Fr.thrown hq _⟩
  refine F_aload_n dX5_safe_0 rfl ?_
  refine F_iconst (v := nI 0) dX5_safe_1 rfl ?_
  refine F_put dX5_safe_2 rfl rfl (by first | assumption | rfl) rfl rfl rfl rfl ?_
  refine F_aload_n dX5_safe_5 rfl ?_
  refine F_iload_n dX5_safe_6 rfl ?_
  refine F_iload_n dX5_safe_7 rfl ?_
  refine F_cV2i (v_isOne (d := 5) _ _ (n := n) h23 (by omega)) dX5_safe_8 rfl rfl (by decide) (by first | assumption | rfl) rfl rfl rfl (by decide) (Nat.le_of_ble_eq_true rfl) (by omega) ?_
  refine F_if_neB (tgt := 16) dX5_safe_11 rfl (fun c11 => ?_) (fun c11 => ?_)
  · rw [show (up σ 116 0 (nI 0)) 117 23 = nI n from h23, h] at c11
    cases c11
  · refine F_iconst (v := (-1)) dX5_safe_14 rfl ?_
    refine F_iret dX5_safe_15 rfl ?_
    exact hQ

theorem b_safeB (hq : QR σ n c) {g e : Nat} (hg : g < n) (he : e < 70) : Ask G mX4_safe [.ref 3, .int (nI g), .int (nI e)] (sfR (fun l => sInj (pS (σ 117) g c e (nI l)) e) 301) σ := by
  have hn := hq.1.2.1
  have h23 := hq.1.1.2.2.1
  have hn6 := hq.1.1.1
  obtain ⟨τ, hv, hL, hC, far⟩ := q_follow (G := G) (d := 7) (a := 29) (N := e) (Or.inl rfl) hq hg (by omega) (-1) rfl
  obtain ⟨υ, hf3, h3⟩ := l_bsafe (G := G) hq.1.1 hg he 301 τ (by omega) hL.1 hC
  refine ⟨υ, mV_of fun Q hQ => ?_, (q_frB (n := n) (c := c) (Or.inl rfl) hC far).trans hf3⟩
  refine F_aload_n dX4_safe_0 rfl ?_
  refine F_getr dX4_safe_1 rfl rfl (by first | assumption | rfl) rfl ?_
  refine F_iload_n dX4_safe_4 rfl ?_
  refine F_cV1i (v_hasGroup (d := 10) isTold_4 _) dX4_safe_5 rfl rfl (by decide) (by first | assumption | rfl) rfl rfl rfl (by decide) (Nat.le_of_ble_eq_true rfl) (by omega) ?_
  refine F_if_eqB (tgt := 18) dX4_safe_8 rfl (fun c8 => ?_) (fun c8 => ?_)
  · have c8 : grB (σ 4 0) (nI g) = false := c8
    rw [hn, grB_nI hg (by omega)] at c8
    cases c8
  · refine F_iload_n dX4_safe_11 rfl ?_
    refine F_cS1i (v_bIsDay (d := 10) _) dX4_safe_12 rfl rfl rfl (by decide) (Nat.le_of_ble_eq_true rfl) (by omega) ?_
    refine F_if_neB (tgt := 20) dX4_safe_15 rfl (fun c15 => ?_) (fun c15 => ?_)
    · refine F_aload_n dX4_safe_20 rfl ?_
      refine F_getr dX4_safe_21 rfl rfl (by first | assumption | rfl) rfl ?_
      refine F_aload_n dX4_safe_24 rfl ?_
      refine F_getr dX4_safe_25 rfl rfl (by first | assumption | rfl) rfl ?_
      refine F_iload_n dX4_safe_28 rfl ?_
      refine F_iconst (v := (-1)) dX4_safe_29 rfl ?_
      refine F_iload_n dX4_safe_30 rfl ?_
      refine F_iconst (v := nI 1) dX4_safe_31 rfl ?_
      refine F_isub dX4_safe_32 ?_
      refine F_cV_riii_v (hv) dX4_safe_33 rfl rfl (by decide) (by first | assumption | rfl) rfl rfl rfl (by decide) (Nat.le_of_ble_eq_true rfl) (by omega) ?_
      refine F_sipush (v := nI 300) dX4_safe_36 rfl ?_
      refine F_istore_n dX4_safe_39 (Nat.le_of_ble_eq_true rfl) ?_
      exact h3 Q hQ
    · rw [dB_nI he] at c15
      cases c15

theorem q_goesS {g e : Nat} {v : Int32} (hb : okB (σ 117) n c) (h3 : σ 116 23 = -1) (h4 : σ 116 24 = nI e) (h5 : σ 116 25 = v) (h0 : σ 127 0 = nI 0) (hg : g < n) (he : e < 70) : ∃ τ, mV G mX5_goes (d + 2) [.ref 116, .int (nI g), .int (nI e)] σ none τ ∧ Gone τ (pS (σ 117) g c e v) (e + 1) ∧ ∀ b, b < 124 ∨ 129 < b → τ b = σ b := by
  have hn6 := hb.1
  have hG : Gone σ (pM σ g c) 0 := ⟨fun k hk => by
    have : k = 0 := by omega
    subst this
    exact h0, fun k hk => absurd hk (Nat.not_lt_zero k)⟩
  have hE : sEq (pM σ g c) (pS (σ 117) g c e v) 70 := by
    refine ⟨fun k hk => rfl, fun k hk => ⟨?_, ?_⟩, rfl, rfl⟩
    · show (if nI k = σ 116 24 then σ 116 25 else _) = if k = e then v else _
      rw [h4, h5]
      by_cases hk2 : k = e
      · subst hk2; rw [if_pos rfl, if_pos rfl]
      · rw [if_neg hk2, if_neg (fun z => hk2 ((nI_eq_iff (by omega) (by omega)).mp z))]
        rfl
    · show cfN _ _ (σ 116 23) k c = cfN _ _ (-1) k c
      rw [h3]
  exact ⟨_, v_goes (G := G) (d := d) (by omega) he hb.2.2.2.1 hb.2.1 hb.2.2.2.2.1 (hb.2.2.2.2.2.2.2.2 g hg).2.2 h0, (hG.nexts (e + 1)).congr (hE.mono (by omega)), fun b h => goN_far _ _ h _⟩
/-- the reference looks for a safe load: it is at l -/
def MS (σ τ : mS) (g c e l : Nat) : Prop := τ 116 25 = nI l ∧ Gone τ (pS (σ 117) g c e (nI l)) (e + 1) ∧ (∀ b, b < 124 ∨ 129 < b → b ≠ 116 → τ b = σ b) ∧ (∀ k, k ≠ 0 → k ≠ 24 → k ≠ 25 → τ 116 k = σ 116 k) ∧ τ 116 24 = nI e
theorem MS.fr {τ : mS} {g e l : Nat} (hq : QR σ n c) (h : MS σ τ g c e l) {υ : mS} (hu : ∀ b, b ≠ 116 → υ b = τ b) (h6 : ∀ k, k ≠ 24 → k ≠ 25 → υ 116 k = τ 116 k) (h4 : υ 116 24 = -1) : Fr σ υ := by
  obtain ⟨m1, m2, m3, m4, m5⟩ := h
  refine q_frX hq.2 (fun b hb hb6 => by rw [hu b hb6]; exact m3 b (by omega) hb6) ?_ ?_ ?_ ?_ h4 ?_
  · rw [h6 4 (by omega) (by omega)]; exact m4 4 (by omega) (by omega) (by omega)
  · rw [h6 6 (by omega) (by omega)]; exact m4 6 (by omega) (by omega) (by omega)
  · rw [h6 7 (by omega) (by omega)]; exact m4 7 (by omega) (by omega) (by omega)
  · rw [h6 23 (by omega) (by omega), m4 23 (by omega) (by omega) (by omega)]; exact hq.2.1
  · rw [hu 127 (by omega)]; exact m2.1 0 (by omega)
theorem l_msafe (hq : QR σ n c) {g e : Nat} (hg : g < n) (he : e < 70) : ∀ l τ, l ≤ 300 → MS σ τ g c e l → ∃ υ, Fr σ υ ∧ ∀ Q : Option Value → mS → Prop, Q (some (.int (sfR (fun l => sInj (pS (σ 117) g c e (nI l)) e) (l + 1)))) υ → mF G mX5_safe 12 34 [some (.ref 116), some (.int (nI g)), some (.int (nI e))] [] τ Q := by
  intro l
  induction l with
  | zero =>
    intro τ hl hM
    have h9 := (hM.2.1.2 e (by omega)).2.2.2.2
    have h5 := hM.1
    by_cases hx : sInj (pS (σ 117) g c e (nI 0)) e = true
    · refine ⟨up (up τ 116 25 (nI 0 - nI 1)) 116 24 (-1), hM.fr hq (fun b hb => by rw [up_n _ _ _ hb, up_n _ _ _ hb]) (fun k k1 k2 => by rw [up_r _ _ _ k1, up_r _ _ _ k2]) (up_s _ _ _ _), fun Q hQ => ?_⟩
      simp only [sfR] at hQ
      rw [if_pos hx] at hQ
      refine F_aload_n dX5_safe_34 rfl ?_
      refine F_getr dX5_safe_35 rfl rfl (by first | assumption | rfl) rfl ?_
      refine F_iload_n dX5_safe_38 rfl ?_
      refine F_zaldE (v := bI true) dX5_safe_39 (by first | assumption | rfl) (by decide) (by omega) (by rw [h9, hx]) ?_
      refine F_if_eqB (tgt := 76) dX5_safe_40 rfl (fun c40 => ?_) (fun c40 => ?_)
      · cases c40
      · refine F_aload_n dX5_safe_43 rfl ?_
        refine F_getE (v := nI 0) dX5_safe_44 rfl rfl (by first | assumption | rfl) rfl h5 ?_
        refine F_if_ltN (tgt := 76) dX5_safe_47 rfl (by omega) ?_
        refine F_aload_n dX5_safe_50 rfl ?_
        refine F_dup dX5_safe_51 rfl ?_
        refine F_getE (v := nI 0) dX5_safe_52 rfl rfl (by first | assumption | rfl) rfl h5 ?_
        refine F_iconst (v := nI 1) dX5_safe_55 rfl ?_
        refine F_isub dX5_safe_56 ?_
        refine F_put dX5_safe_57 rfl rfl (by first | assumption | rfl) rfl rfl rfl rfl ?_
        refine F_aload_n dX5_safe_60 rfl ?_
        refine F_getE (v := (-1)) dX5_safe_61 rfl rfl (by first | assumption | rfl) rfl rfl ?_
        refine F_if_lt (tgt := 34) dX5_safe_64 rfl (fun c64 => ?_) (fun c64 => ?_)
        · refine F_aload_n dX5_safe_34 rfl ?_
          refine F_getr dX5_safe_35 rfl rfl (by first | assumption | rfl) rfl ?_
          refine F_iload_n dX5_safe_38 rfl ?_
          refine F_zaldE (v := bI true) dX5_safe_39 (by first | assumption | rfl) (by decide) (by omega) (h9.trans (by rw [hx])) ?_
          refine F_if_eqB (tgt := 76) dX5_safe_40 rfl (fun c40 => ?_) (fun c40 => ?_)
          · cases c40
          · refine F_aload_n dX5_safe_43 rfl ?_
            refine F_getE (v := (-1)) dX5_safe_44 rfl rfl (by first | assumption | rfl) rfl rfl ?_
            refine F_if_lt (tgt := 76) dX5_safe_47 rfl (fun c47 => ?_) (fun c47 => ?_)
            · refine F_aload_n dX5_safe_76 rfl ?_
              refine F_iconst (v := (-1)) dX5_safe_77 rfl ?_
              refine F_put dX5_safe_78 rfl rfl (by first | assumption | rfl) rfl rfl rfl rfl ?_
              refine F_aload_n dX5_safe_81 rfl ?_
              refine F_geti dX5_safe_82 rfl rfl (by first | assumption | rfl) rfl ?_
              refine F_iret dX5_safe_85 rfl ?_
              exact hQ
            · exact absurd (by decide) c47
        · exact absurd (by decide) c64
    · have hx := Bool.not_eq_true _ ▸ hx
      refine ⟨up τ 116 24 (-1), hM.fr hq (fun b hb => by rw [up_n _ _ _ hb]) (fun k k1 k2 => by rw [up_r _ _ _ k1]) (up_s _ _ _ _), fun Q hQ => ?_⟩
      simp only [sfR] at hQ
      rw [if_neg (by rw [hx]; decide)] at hQ
      refine F_aload_n dX5_safe_34 rfl ?_
      refine F_getr dX5_safe_35 rfl rfl (by first | assumption | rfl) rfl ?_
      refine F_iload_n dX5_safe_38 rfl ?_
      refine F_zaldE (v := bI false) dX5_safe_39 (by first | assumption | rfl) (by decide) (by omega) (by rw [h9, hx]) ?_
      refine F_if_eqB (tgt := 76) dX5_safe_40 rfl (fun c40 => ?_) (fun c40 => ?_)
      · refine F_aload_n dX5_safe_76 rfl ?_
        refine F_iconst (v := (-1)) dX5_safe_77 rfl ?_
        refine F_put dX5_safe_78 rfl rfl (by first | assumption | rfl) rfl rfl rfl rfl ?_
        refine F_aload_n dX5_safe_81 rfl ?_
        refine F_getE (v := nI 0) dX5_safe_82 rfl rfl (by first | assumption | rfl) rfl h5 ?_
        refine F_iret dX5_safe_85 rfl ?_
        exact hQ
      · cases c40
  | succ l ih =>
    intro τ hl hM
    have h9 := (hM.2.1.2 e (by omega)).2.2.2.2
    have h5 := hM.1
    by_cases hx : sInj (pS (σ 117) g c e (nI (l + 1))) e = true
    · obtain ⟨m1, m2, m3, m4, m5⟩ := id hM
      obtain ⟨τ2, hv, hG, far⟩ := q_goesS (G := G) (d := 5) (σ := up τ 116 25 (nI l)) (n := n) (c := c) (g := g) (e := e) (v := nI l) (by rw [up_n _ _ _ (by omega), m3 117 (by omega) (by omega)]; exact hq.1.1) ((m4 23 (by omega) (by omega) (by omega)).trans hq.2.1) m5 rfl (m2.1 0 (by omega)) hg he
      have hG : Gone τ2 (pS (σ 117) g c e (nI l)) (e + 1) := by
        rw [up_n _ _ _ (by omega), m3 117 (by omega) (by omega)] at hG; exact hG
      obtain ⟨υ, hf3, h3⟩ := ih τ2 (by omega) ⟨by rw [far 116 (by omega)]; exact up_s _ _ _ _, hG, fun b hb h6 => by rw [far b hb, up_n _ _ _ h6]; exact m3 b hb h6, fun k k0 k1 k2 => by rw [far 116 (by omega), up_r _ _ _ k2]; exact m4 k k0 k1 k2, by rw [far 116 (by omega)]; exact m5⟩
      refine ⟨υ, hf3, fun Q hQ => ?_⟩
      have h3 := h3 Q
      rw [sfR, if_pos hx] at hQ
      refine F_aload_n dX5_safe_34 rfl ?_
      refine F_getr dX5_safe_35 rfl rfl (by first | assumption | rfl) rfl ?_
      refine F_iload_n dX5_safe_38 rfl ?_
      refine F_zaldE (v := bI true) dX5_safe_39 (by first | assumption | rfl) (by decide) (by omega) (by rw [h9, hx]) ?_
      refine F_if_eqB (tgt := 76) dX5_safe_40 rfl (fun c40 => ?_) (fun c40 => ?_)
      · cases c40
      · refine F_aload_n dX5_safe_43 rfl ?_
        refine F_getE (v := nI (l + 1)) dX5_safe_44 rfl rfl (by first | assumption | rfl) rfl h5 ?_
        refine F_if_ltN (tgt := 76) dX5_safe_47 rfl (by omega) ?_
        refine F_aload_n dX5_safe_50 rfl ?_
        refine F_dup dX5_safe_51 rfl ?_
        refine F_getE (v := nI (l + 1)) dX5_safe_52 rfl rfl (by first | assumption | rfl) rfl h5 ?_
        refine F_iconst (v := nI 1) dX5_safe_55 rfl ?_
        refine F_isubN dX5_safe_56 (by omega) ?_
        refine F_put dX5_safe_57 rfl rfl (by first | assumption | rfl) rfl rfl rfl rfl ?_
        refine F_aload_n dX5_safe_60 rfl ?_
        refine F_getE (v := nI l) dX5_safe_61 rfl rfl (by first | assumption | rfl) rfl rfl ?_
        refine F_if_ltN (tgt := 34) dX5_safe_64 rfl (by omega) ?_
        refine F_aload_n dX5_safe_67 rfl ?_
        refine F_iload_n dX5_safe_68 rfl ?_
        refine F_iload_n dX5_safe_69 rfl ?_
        refine F_cV2v (hv) dX5_safe_70 rfl rfl (by decide) (by first | assumption | rfl) rfl rfl rfl (by decide) (Nat.le_of_ble_eq_true rfl) (by omega) ?_
        refine F_goto (tgt := 34) dX5_safe_73 rfl ?_
        exact h3 hQ
    · have hx := Bool.not_eq_true _ ▸ hx
      refine ⟨up τ 116 24 (-1), hM.fr hq (fun b hb => by rw [up_n _ _ _ hb]) (fun k k1 k2 => by rw [up_r _ _ _ k1]) (up_s _ _ _ _), fun Q hQ => ?_⟩
      rw [sfR, if_neg (by rw [hx]; decide)] at hQ
      refine F_aload_n dX5_safe_34 rfl ?_
      refine F_getr dX5_safe_35 rfl rfl (by first | assumption | rfl) rfl ?_
      refine F_iload_n dX5_safe_38 rfl ?_
      refine F_zaldE (v := bI false) dX5_safe_39 (by first | assumption | rfl) (by decide) (by omega) (by rw [h9, hx]) ?_
      refine F_if_eqB (tgt := 76) dX5_safe_40 rfl (fun c40 => ?_) (fun c40 => ?_)
      · refine F_aload_n dX5_safe_76 rfl ?_
        refine F_iconst (v := (-1)) dX5_safe_77 rfl ?_
        refine F_put dX5_safe_78 rfl rfl (by first | assumption | rfl) rfl rfl rfl rfl ?_
        refine F_aload_n dX5_safe_81 rfl ?_
        refine F_getE (v := nI (l + 1)) dX5_safe_82 rfl rfl (by first | assumption | rfl) rfl h5 ?_
        refine F_iret dX5_safe_85 rfl ?_
        exact hQ
      · cases c40

theorem m_safeB (hq : QR σ n c) {g e : Nat} (hg : g < n) (he : e < 70) : Ask G mX5_safe [.ref 116, .int (nI g), .int (nI e)] (sfR (fun l => sInj (pS (σ 117) g c e (nI l)) e) 301) σ := by
  have hn := hq.1.2.1
  have h23 := hq.1.1.2.2.1
  have hn6 := hq.1.1.1
  have hq1 := (Fr.thrown hq (nI 0)).qr hq
  obtain ⟨τ2, hv, hG, far⟩ := q_goesS (G := G) (d := 5) (σ := (up (up (up σ 116 0 (nI 0)) 116 24 (nI e)) 116 25 (nI 300))) (n := n) (c := c) (g := g) (e := e) (v := nI 300) hq.1.1 hq.2.1 rfl rfl hq.2.2.2.1 hg he
  obtain ⟨υ, hf3, h3⟩ := l_msafe (G := G) (σ := σ) hq hg he 300 τ2 (by omega) ⟨by rw [far 116 (by omega)]; rfl, hG, fun b hb h6 => by rw [far b hb, up_n _ _ _ h6, up_n _ _ _ h6, up_n _ _ _ h6], fun k k0 k1 k2 => by rw [far 116 (by omega), up_r _ _ _ k2, up_r _ _ _ k1, up_r _ _ _ k0], by rw [far 116 (by omega)]; rfl⟩
  refine ⟨υ, mV_of fun Q hQ => ?_, hf3⟩
  refine F_aload_n dX5_safe_0 rfl ?_
  refine F_iconst (v := nI 0) dX5_safe_1 rfl ?_
  refine F_put dX5_safe_2 rfl rfl (by first | assumption | rfl) rfl rfl rfl rfl ?_
  refine F_aload_n dX5_safe_5 rfl ?_
  refine F_iload_n dX5_safe_6 rfl ?_
  refine F_iload_n dX5_safe_7 rfl ?_
  refine F_cV2i (v_isOne (d := 5) _ _ (n := n) h23 (by omega)) dX5_safe_8 rfl rfl (by decide) (by first | assumption | rfl) rfl rfl rfl (by decide) (Nat.le_of_ble_eq_true rfl) (by omega) ?_
  refine F_if_neB (tgt := 16) dX5_safe_11 rfl (fun c11 => ?_) (fun c11 => ?_)
  · refine F_aload_n dX5_safe_16 rfl ?_
    refine F_iload_n dX5_safe_17 rfl ?_
    refine F_put dX5_safe_18 rfl rfl (by first | assumption | rfl) rfl rfl rfl rfl ?_
    refine F_aload_n dX5_safe_21 rfl ?_
    refine F_sipush (v := nI 300) dX5_safe_22 rfl ?_
    refine F_put dX5_safe_25 rfl rfl (by first | assumption | rfl) rfl rfl rfl rfl ?_
    refine F_aload_n dX5_safe_28 rfl ?_
    refine F_iload_n dX5_safe_29 rfl ?_
    refine F_iload_n dX5_safe_30 rfl ?_
    refine F_cV2v (hv) dX5_safe_31 rfl rfl (by decide) (by first | assumption | rfl) rfl rfl rfl (by decide) (Nat.le_of_ble_eq_true rfl) (by omega) ?_
    exact h3 Q hQ
  · rw [show (up σ 116 0 (nI 0)) 117 23 = nI n from h23, grB_nI hg (by omega), dB_nI he] at c11
    cases c11

theorem op_safe (h : Rel σ) (g e : Int32) : Same G mX4_safe mX5_safe [.int g, .int e] σ := by
  refine Same.of h fun n c hq => ?_
  by_cases hA : (grB (nI n) g && dB e) = true
  · obtain ⟨i, j, hi, hj, e1, e2⟩ := gd_n hA hq.1.1.1
    subst e1; subst e2
    exact ⟨_, b_safeB hq hi hj, fun σ2 h7 hq2 => by rw [← h7]; exact m_safeB hq2 hi hj⟩
  · have hA := Bool.not_eq_true _ ▸ hA
    exact ⟨_, b_safeA hq hA, fun σ2 h7 hq2 => m_safeA hq2 hA⟩
end QE
