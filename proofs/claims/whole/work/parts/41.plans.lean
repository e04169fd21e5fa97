/-! ===== plans told on both sides: the ground ===== -/
/-- days from a on come again and again: len of them, up to tot days -/
def rpK (K : Nat → Int32) (a len tot : Nat) : Nat → Int32 := fun x => if a ≤ x ∧ x < a + tot then K (a + (x - a) % len) else K x
theorem rpK_0 (K : Nat → Int32) {a len : Nat} (h : 0 < len) : rpK K a len len = K := by
  funext x
  simp only [rpK]
  split
  · rw [Nat.mod_eq_of_lt (by omega)]; congr 1; omega
  · rfl
theorem rpK_s (K : Nat → Int32) {a len m : Nat} (h : 0 < len) : upd (rpK K a len (len + m)) (a + len + m) (rpK K a len (len + m) (a + m)) = rpK K a len (len + (m + 1)) := by
  funext x
  simp only [upd]
  by_cases e : x = a + len + m
  · rw [if_pos e]
    simp only [rpK]
    rw [if_pos (by omega), if_pos (by omega), e, show a + len + m - a = len + m by omega, show a + m - a = m by omega, Nat.add_mod_left]
  · rw [if_neg e]
    simp only [rpK]
    by_cases h2 : a ≤ x ∧ x < a + (len + m)
    · rw [if_pos h2, if_pos (by omega)]
    · rw [if_neg h2, if_neg (by omega)]
theorem okR.rp {K : Nat → Int32} (h : okR K) {a len tot : Nat} (hl : 0 < len) (hal : a + len ≤ 70) : okR (rpK K a len tot) := fun k hk => by
  simp only [rpK]
  split
  · have := Nat.mod_lt (k - a) hl
    exact h _ (by omega)
  · exact h k hk
theorem okR.fill {K : Nat → Int32} (h : okR K) {a e j : Nat} (hj : j < 6) : okR (fillR K a e (nI j)) := fun k hk => by
  simp only [fillR]
  split
  · exact ⟨j, hj, rfl⟩
  · exact h k hk
/-- another plan for a group on both sides -/
theorem TRf.pl {r0 r1 r2 r3 r4 r5 r6 r7 f K : Nat → Int32} {n c g : Nat} (h : TRf r0 r1 r2 r3 r4 r5 r6 r7 f n c) (hg : g < n) (hK : okR K) {q : Nat → Int32} (h1 : ∀ d, d < 70 → q (g * 70 + d) = K d) (h2 : ∀ x, x < g * 70 ∨ g * 70 + 70 ≤ x → q x = r3 x) : TRf r0 r1 r2 q r4 r5 r6 r7 (plR f g K) n c := by
  obtain ⟨hb, a1, a2, a3, a4, a5, a6, a7⟩ := h
  have hn6 := hb.1
  have hc4 := hb.2.1
  refine ⟨hb.pl hg hK, a1, a2, fun k hk => by rw [plR_lo _ _ _ (by omega)]; exact a3 k hk, fun k hk => by rw [plR_lo _ _ _ (by omega)]; exact a4 k hk, fun i hi => by rw [plR_lo _ _ _ (by omega), plR_lo _ _ _ (by omega)]; exact a5 i hi, fun i hi => ⟨by rw [plR_lo _ _ _ (by omega)]; exact (a6 i hi).1, by rw [plR_lo _ _ _ (by omega)]; exact (a6 i hi).2.1, fun d hd => ?_⟩, fun j hj hj2 => by rw [h2 j (by omega)]; exact a7 j hj hj2⟩
  by_cases e : i = g
  · subst e
    rw [plR_in _ _ _ hd]
    exact h1 d hd
  · have e2 : plR f g K (40 + 70 * i + d) = f (40 + 70 * i + d) := by
      simp only [plR]; rw [if_neg (by omega)]
    rw [e2, h2 _ (by omega)]
    exact (a6 i hi).2.2 d hd
theorem plR_plR (f : Nat → Int32) (g : Nat) (K M : Nat → Int32) : plR (plR f g K) g M = plR f g M := by
  funext x
  simp only [plR]
  split <;> rfl
section PL
variable {G : mG} {d : Nat} {σ : mS} {b : Nat}

theorem v_repeatKinds (hb : isTold b) {g a len e : Nat} (hg : g < 6) (hl : 0 < len) (hle : a + len ≤ e) (he : e ≤ 70) : mV G mX3_repeatKinds d [.ref b, .int (nI g), .int (nI a), .int (nI len), .int (nI e)] σ none (upR σ (b + 3) (rpK (σ (b + 3)) (g * 70 + a) len (e - a))) := by
  refine mV_of fun Q hQ => ?_
  obtain ⟨s0, s1, s2, s3, s4, s5, s6, s7⟩ := hb
  have hlp : ∀ m, m ≤ e - (a + len) → mF G mX3_repeatKinds d 5 [some (.ref b), some (.int (nI g)), some (.int (nI a)), some (.int (nI len)), some (.int (nI e)), some (.int (nI (a + len + m)))] [] (upR σ (b + 3) (rpK (σ (b + 3)) (g * 70 + a) len (len + m))) Q := by
    refine loopUp (e - (a + len)) (fun m hm ih => ?_)
    by_cases hme : m = e - (a + len)
    · rw [show len + m = e - a by omega]
      refine F_iload dX3_repeatKinds_5 rfl ?_
      refine F_iload dX3_repeatKinds_7 rfl ?_
      refine F_icmp_geN (tgt := 44) dX3_repeatKinds_9 rfl (by omega) (by omega) (fun c9 => ?_) (fun c9 => ?_)
      · refine F_vret dX3_repeatKinds_44 rfl ?_
        exact hQ
      · exact absurd c9 (by omega)
    · have ih := ih (by omega)
      rw [← rpK_s _ hl, ← up_upR] at ih
      refine F_iload dX3_repeatKinds_5 rfl ?_
      refine F_iload dX3_repeatKinds_7 rfl ?_
      refine F_icmp_geN (tgt := 44) dX3_repeatKinds_9 rfl (by omega) (by omega) (fun c9 => ?_) (fun c9 => ?_)
      · exact absurd c9 (by omega)
      · refine F_aload_n dX3_repeatKinds_12 rfl ?_
        refine F_getr dX3_repeatKinds_13 rfl rfl (by first | assumption | rfl) rfl ?_
        refine F_iload_n dX3_repeatKinds_16 rfl ?_
        refine F_bipush (v := nI 70) dX3_repeatKinds_17 rfl ?_
        refine F_imulN dX3_repeatKinds_19 ?_
        refine F_iload dX3_repeatKinds_20 rfl ?_
        refine F_iaddN dX3_repeatKinds_22 ?_
        refine F_aload_n dX3_repeatKinds_23 rfl ?_
        refine F_getr dX3_repeatKinds_24 rfl rfl (by first | assumption | rfl) rfl ?_
        refine F_iload_n dX3_repeatKinds_27 rfl ?_
        refine F_bipush (v := nI 70) dX3_repeatKinds_28 rfl ?_
        refine F_imulN dX3_repeatKinds_30 ?_
        refine F_iload dX3_repeatKinds_31 rfl ?_
        refine F_iaddN dX3_repeatKinds_33 ?_
        refine F_iload_n dX3_repeatKinds_34 rfl ?_
        refine F_isubN dX3_repeatKinds_35 (by omega) ?_
        refine F_ialdE (v := (rpK (σ (b + 3)) (g * 70 + a) len (len + m)) (g * 70 + a + m)) dX3_repeatKinds_36 (by first | assumption | rfl) (by decide) (by omega) (by rw [upR_s]; congr 1; omega) ?_
        refine F_iast dX3_repeatKinds_37 (by first | assumption | rfl) (by decide) (by omega) ?_
        refine F_iincN dX3_repeatKinds_38 rfl ?_
        refine F_goto (tgt := 5) dX3_repeatKinds_41 rfl ?_
        refine F_sg ?_ ih
        congr 1
        omega
  refine F_iload_n dX3_repeatKinds_0 rfl ?_
  refine F_iload_n dX3_repeatKinds_1 rfl ?_
  refine F_iaddN dX3_repeatKinds_2 ?_
  refine F_istore dX3_repeatKinds_3 (Nat.le_of_ble_eq_true rfl) ?_
  have h0 := hlp 0 (by omega)
  rw [Nat.add_zero (a + len), Nat.add_zero len, rpK_0 _ hl, upR_self] at h0
  exact h0

end PL
