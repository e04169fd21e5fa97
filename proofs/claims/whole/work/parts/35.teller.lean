/-! ===== Teller: token, step, fail, take, takeInt ===== -/
theorem dX2_token_0 : decode cX2_token 0 = .ok (.aload_n 0, 1) := by decide +kernel
theorem dX2_token_1 : decode cX2_token 1 = .ok (.getfield 12, 3) := by decide +kernel
theorem dX2_token_4 : decode cX2_token 4 = .ok (.getfield 130, 3) := by decide +kernel
theorem dX2_token_7 : decode cX2_token 7 = .ok (.aload_n 0, 1) := by decide +kernel
theorem dX2_token_8 : decode cX2_token 8 = .ok (.getfield 36, 3) := by decide +kernel
theorem dX2_token_11 : decode cX2_token 11 = .ok (.iaload, 1) := by decide +kernel
theorem dX2_token_12 : decode cX2_token 12 = .ok (.ireturn, 1) := by decide +kernel
theorem dX2_step_0 : decode cX2_step 0 = .ok (.aload_n 0, 1) := by decide +kernel
theorem dX2_step_1 : decode cX2_step 1 = .ok (.getfield 36, 3) := by decide +kernel
theorem dX2_step_4 : decode cX2_step 4 = .ok (.aload_n 0, 1) := by decide +kernel
theorem dX2_step_5 : decode cX2_step 5 = .ok (.getfield 12, 3) := by decide +kernel
theorem dX2_step_8 : decode cX2_step 8 = .ok (.getfield 133, 3) := by decide +kernel
theorem dX2_step_11 : decode cX2_step 11 = .ok (.iconst 1, 1) := by decide +kernel
theorem dX2_step_12 : decode cX2_step 12 = .ok (.isub, 1) := by decide +kernel
theorem dX2_step_13 : decode cX2_step 13 = .ok (.if_icmp .ge 13, 3) := by decide +kernel
theorem dX2_step_16 : decode cX2_step 16 = .ok (.aload_n 0, 1) := by decide +kernel
theorem dX2_step_17 : decode cX2_step 17 = .ok (.dup, 1) := by decide +kernel
theorem dX2_step_18 : decode cX2_step 18 = .ok (.getfield 36, 3) := by decide +kernel
theorem dX2_step_21 : decode cX2_step 21 = .ok (.iconst 1, 1) := by decide +kernel
theorem dX2_step_22 : decode cX2_step 22 = .ok (.iadd, 1) := by decide +kernel
theorem dX2_step_23 : decode cX2_step 23 = .ok (.putfield 36, 3) := by decide +kernel
theorem dX2_step_26 : decode cX2_step 26 = .ok (.return_, 1) := by decide +kernel
theorem dX2_fail_0 : decode cX2_fail 0 = .ok (.aload_n 0, 1) := by decide +kernel
theorem dX2_fail_1 : decode cX2_fail 1 = .ok (.iload_n 1, 1) := by decide +kernel
theorem dX2_fail_2 : decode cX2_fail 2 = .ok (.bipush 8, 2) := by decide +kernel
theorem dX2_fail_4 : decode cX2_fail 4 = .ok (.aload_n 0, 1) := by decide +kernel
theorem dX2_fail_5 : decode cX2_fail 5 = .ok (.getfield 12, 3) := by decide +kernel
theorem dX2_fail_8 : decode cX2_fail 8 = .ok (.getfield 139, 3) := by decide +kernel
theorem dX2_fail_11 : decode cX2_fail 11 = .ok (.aload_n 0, 1) := by decide +kernel
theorem dX2_fail_12 : decode cX2_fail 12 = .ok (.getfield 36, 3) := by decide +kernel
theorem dX2_fail_15 : decode cX2_fail 15 = .ok (.iaload, 1) := by decide +kernel
theorem dX2_fail_16 : decode cX2_fail 16 = .ok (.imul, 1) := by decide +kernel
theorem dX2_fail_17 : decode cX2_fail 17 = .ok (.iadd, 1) := by decide +kernel
theorem dX2_fail_18 : decode cX2_fail 18 = .ok (.putfield 40, 3) := by decide +kernel
theorem dX2_fail_21 : decode cX2_fail 21 = .ok (.iconst 0, 1) := by decide +kernel
theorem dX2_fail_22 : decode cX2_fail 22 = .ok (.ireturn, 1) := by decide +kernel
theorem dX2_take_0 : decode cX2_take 0 = .ok (.aload_n 0, 1) := by decide +kernel
theorem dX2_take_1 : decode cX2_take 1 = .ok (.invokevirtual 43, 3) := by decide +kernel
theorem dX2_take_4 : decode cX2_take 4 = .ok (.iload_n 1, 1) := by decide +kernel
theorem dX2_take_5 : decode cX2_take 5 = .ok (.if_icmp .eq 9, 3) := by decide +kernel
theorem dX2_take_8 : decode cX2_take 8 = .ok (.aload_n 0, 1) := by decide +kernel
theorem dX2_take_9 : decode cX2_take 9 = .ok (.iconst 1, 1) := by decide +kernel
theorem dX2_take_10 : decode cX2_take 10 = .ok (.invokevirtual 70, 3) := by decide +kernel
theorem dX2_take_13 : decode cX2_take 13 = .ok (.ireturn, 1) := by decide +kernel
theorem dX2_take_14 : decode cX2_take 14 = .ok (.aload_n 0, 1) := by decide +kernel
theorem dX2_take_15 : decode cX2_take 15 = .ok (.invokevirtual 76, 3) := by decide +kernel
theorem dX2_take_18 : decode cX2_take 18 = .ok (.iconst 1, 1) := by decide +kernel
theorem dX2_take_19 : decode cX2_take 19 = .ok (.ireturn, 1) := by decide +kernel
theorem dX2_takeInt_0 : decode cX2_takeInt 0 = .ok (.aload_n 0, 1) := by decide +kernel
theorem dX2_takeInt_1 : decode cX2_takeInt 1 = .ok (.invokevirtual 43, 3) := by decide +kernel
theorem dX2_takeInt_4 : decode cX2_takeInt 4 = .ok (.bipush 12, 2) := by decide +kernel
theorem dX2_takeInt_6 : decode cX2_takeInt 6 = .ok (.if_icmp .eq 11, 3) := by decide +kernel
theorem dX2_takeInt_9 : decode cX2_takeInt 9 = .ok (.aload_n 0, 1) := by decide +kernel
theorem dX2_takeInt_10 : decode cX2_takeInt 10 = .ok (.iconst 1, 1) := by decide +kernel
theorem dX2_takeInt_11 : decode cX2_takeInt 11 = .ok (.invokevirtual 70, 3) := by decide +kernel
theorem dX2_takeInt_14 : decode cX2_takeInt 14 = .ok (.pop, 1) := by decide +kernel
theorem dX2_takeInt_15 : decode cX2_takeInt 15 = .ok (.iconst (-1), 1) := by decide +kernel
theorem dX2_takeInt_16 : decode cX2_takeInt 16 = .ok (.ireturn, 1) := by decide +kernel
theorem dX2_takeInt_17 : decode cX2_takeInt 17 = .ok (.aload_n 0, 1) := by decide +kernel
theorem dX2_takeInt_18 : decode cX2_takeInt 18 = .ok (.getfield 12, 3) := by decide +kernel
theorem dX2_takeInt_21 : decode cX2_takeInt 21 = .ok (.getfield 136, 3) := by decide +kernel
theorem dX2_takeInt_24 : decode cX2_takeInt 24 = .ok (.aload_n 0, 1) := by decide +kernel
theorem dX2_takeInt_25 : decode cX2_takeInt 25 = .ok (.getfield 36, 3) := by decide +kernel
theorem dX2_takeInt_28 : decode cX2_takeInt 28 = .ok (.iaload, 1) := by decide +kernel
theorem dX2_takeInt_29 : decode cX2_takeInt 29 = .ok (.istore_n 3, 1) := by decide +kernel
theorem dX2_takeInt_30 : decode cX2_takeInt 30 = .ok (.iload_n 3, 1) := by decide +kernel
theorem dX2_takeInt_31 : decode cX2_takeInt 31 = .ok (.iload_n 1, 1) := by decide +kernel
theorem dX2_takeInt_32 : decode cX2_takeInt 32 = .ok (.if_icmp .lt 8, 3) := by decide +kernel
theorem dX2_takeInt_35 : decode cX2_takeInt 35 = .ok (.iload_n 3, 1) := by decide +kernel
theorem dX2_takeInt_36 : decode cX2_takeInt 36 = .ok (.iload_n 2, 1) := by decide +kernel
theorem dX2_takeInt_37 : decode cX2_takeInt 37 = .ok (.if_icmp .le 11, 3) := by decide +kernel
theorem dX2_takeInt_40 : decode cX2_takeInt 40 = .ok (.aload_n 0, 1) := by decide +kernel
theorem dX2_takeInt_41 : decode cX2_takeInt 41 = .ok (.iconst 2, 1) := by decide +kernel
theorem dX2_takeInt_42 : decode cX2_takeInt 42 = .ok (.invokevirtual 70, 3) := by decide +kernel
theorem dX2_takeInt_45 : decode cX2_takeInt 45 = .ok (.pop, 1) := by decide +kernel
theorem dX2_takeInt_46 : decode cX2_takeInt 46 = .ok (.iconst (-1), 1) := by decide +kernel
theorem dX2_takeInt_47 : decode cX2_takeInt 47 = .ok (.ireturn, 1) := by decide +kernel
theorem dX2_takeInt_48 : decode cX2_takeInt 48 = .ok (.aload_n 0, 1) := by decide +kernel
theorem dX2_takeInt_49 : decode cX2_takeInt 49 = .ok (.invokevirtual 76, 3) := by decide +kernel
theorem dX2_takeInt_52 : decode cX2_takeInt 52 = .ok (.iload_n 3, 1) := by decide +kernel
theorem dX2_takeInt_53 : decode cX2_takeInt 53 = .ok (.ireturn, 1) := by decide +kernel

/-- the tokens of the text stand -/
def TC (τ : mS) (b : Nat → Int32) (L s : Nat) : Prop := TK τ b L (s + 1) ∧ tps b L s = L ∧ (∀ i, i < s → tps b L i < L) ∧ τ 14 5 = nI (s + 1) ∧ s ≤ 400
theorem TC.rows {σ τ : mS} {b : Nat → Int32} {L s : Nat} (h : TC σ b L s) (hr : ∀ z, 14 ≤ z → z ≤ 18 → τ z = σ z) : TC τ b L s := by
  unfold TC TK at h ⊢
  rw [hr 14 (by omega) (by omega), hr 16 (by omega) (by omega), hr 17 (by omega) (by omega), hr 18 (by omega) (by omega)]
  exact h
theorem wtok_ne (v : Nat) : wtok v < 12 ∨ wtok v = 17 := by
  unfold wtok
  (repeat' split) <;> decide
theorem sgn_ge (v : Int32) : sgn v = 13 ∨ sgn v = 14 ∨ sgn v = 15 ∨ sgn v = 17 := by
  unfold sgn
  (repeat' split) <;> decide
theorem tkn_L (b : Nat → Int32) (L : Nat) : tkn b L L = 16 := if_neg (Nat.lt_irrefl L)
theorem tkn_16 {b : Nat → Int32} {L p : Nat} (h : p < L) : tkn b L p ≠ 16 ∧ tkn b L p < 18 := by
  unfold tkn
  rw [if_pos h]
  split
  · rcases wtok_ne (wv b p (rn isLt b L p - p)) with h | h <;> omega
  · split
    · omega
    · rcases sgn_ge (b p) with h | h | h | h <;> omega
theorem TC.lt {τ : mS} {b : Nat → Int32} {L s i : Nat} (h : TC τ b L s) (hi : i ≤ s) (ht : tkn b L (tps b L i) ≠ 16) : i < s := by
  by_cases e : i = s
  · subst e
    rw [h.2.1, tkn_L] at ht
    exact absurd rfl ht
  · omega
theorem TC.next {τ : mS} {b : Nat → Int32} {L s i : Nat} (h : TC τ b L s) (hi : i < s) : tps b L (i + 1) = nxt b L (tps b L i) := by
  show (if tps b L i < L then _ else _) = _
  rw [if_pos (h.2.2.1 i hi)]
section TL
variable {G : mG} {d : Nat} {σ : mS} {b : Nat → Int32} {L s i : Nat}

theorem v_token (hc : TC σ b L s) (hi : σ 13 2 = nI i) (his : i ≤ s)  : mV G mX2_token d [.ref 13] σ (some (.int (nI (tkn b L (tps b L i))))) σ := by
  refine mV_of fun Q hQ => ?_
  have hs4 := hc.2.2.2.2
  have hrow := hc.1 i (by omega)
  refine F_aload_n dX2_token_0 rfl ?_
  refine F_getr dX2_token_1 rfl rfl rfl rfl ?_
  refine F_getr dX2_token_4 rfl rfl rfl rfl ?_
  refine F_aload_n dX2_token_7 rfl ?_
  refine F_getE (v := nI i) dX2_token_8 rfl rfl rfl rfl hi ?_
  refine F_ialdE (v := nI (tkn b L (tps b L i))) dX2_token_11 rfl (by decide) (by omega) hrow.1 ?_
  refine F_iret dX2_token_12 rfl ?_
  exact hQ

theorem v_step (hc : TC σ b L s) (hi : σ 13 2 = nI i) (his : i ≤ s) (hlt : i < s) : mV G mX2_step d [.ref 13] σ none (up σ 13 2 (nI (i + 1))) := by
  refine mV_of fun Q hQ => ?_
  have hs4 := hc.2.2.2.2
  have hrow := hc.1 i (by omega)
  refine F_aload_n dX2_step_0 rfl ?_
  refine F_getE (v := nI i) dX2_step_1 rfl rfl rfl rfl hi ?_
  refine F_aload_n dX2_step_4 rfl ?_
  refine F_getr dX2_step_5 rfl rfl rfl rfl ?_
  refine F_getE (v := nI (s + 1)) dX2_step_8 rfl rfl rfl rfl hc.2.2.2.1 ?_
  refine F_iconst (v := nI 1) dX2_step_11 rfl ?_
  refine F_isubN dX2_step_12 (by omega) ?_
  refine F_icmp_geN (tgt := 26) dX2_step_13 rfl (by omega) (by omega) (fun c13 => ?_) (fun c13 => ?_)
  · exact absurd c13 (by omega)
  · refine F_aload_n dX2_step_16 rfl ?_
    refine F_dup dX2_step_17 rfl ?_
    refine F_getE (v := nI i) dX2_step_18 rfl rfl rfl rfl hi ?_
    refine F_iconst (v := nI 1) dX2_step_21 rfl ?_
    refine F_iaddN dX2_step_22 ?_
    refine F_put dX2_step_23 rfl rfl rfl rfl rfl rfl rfl ?_
    refine F_vret dX2_step_26 rfl ?_
    exact hQ

theorem v_fail (hc : TC σ b L s) (hi : σ 13 2 = nI i) (his : i ≤ s) (k : Nat) : mV G mX2_fail d [.ref 13, .int (nI k)] σ (some (.int (nI 0))) (up σ 13 3 (nI (k + 8 * tps b L i))) := by
  refine mV_of fun Q hQ => ?_
  have hs4 := hc.2.2.2.2
  have hrow := hc.1 i (by omega)
  refine F_aload_n dX2_fail_0 rfl ?_
  refine F_iload_n dX2_fail_1 rfl ?_
  refine F_bipush (v := nI 8) dX2_fail_2 rfl ?_
  refine F_aload_n dX2_fail_4 rfl ?_
  refine F_getr dX2_fail_5 rfl rfl rfl rfl ?_
  refine F_getr dX2_fail_8 rfl rfl rfl rfl ?_
  refine F_aload_n dX2_fail_11 rfl ?_
  refine F_getE (v := nI i) dX2_fail_12 rfl rfl rfl rfl hi ?_
  refine F_ialdE (v := nI (tps b L i)) dX2_fail_15 rfl (by decide) (by omega) hrow.2.1 ?_
  refine F_imulN dX2_fail_16 ?_
  refine F_iaddN dX2_fail_17 ?_
  refine F_put dX2_fail_18 rfl rfl rfl rfl rfl rfl rfl ?_
  refine F_iconst (v := nI 0) dX2_fail_21 rfl ?_
  refine F_zret dX2_fail_22 rfl (by first | exact Or.inl rfl | exact Or.inr rfl | exact bI_01 _) ?_
  exact hQ

theorem v_takeA (hc : TC σ b L s) (hi : σ 13 2 = nI i) (his : i ≤ s) (w : Nat) (hw : w < 18) (h : (tkn b L (tps b L i)) ≠ w) : mV G mX2_take (d + 1) [.ref 13, .int (nI w)] σ (some (.int (nI 0))) (up σ 13 3 (nI (1 + 8 * tps b L i))) := by
  refine mV_of fun Q hQ => ?_
  have hs4 := hc.2.2.2.2
  have hrow := hc.1 i (by omega)
  have ht : tkn b L (tps b L i) < 18 := by
    by_cases e : tps b L i < L
    · exact (tkn_16 e).2
    · unfold tkn; rw [if_neg e]; decide
  refine F_aload_n dX2_take_0 rfl ?_
  refine F_cV0i (v_token (d := d) hc hi his) dX2_take_1 rfl rfl (by decide) rfl rfl rfl rfl (by decide) (Nat.le_of_ble_eq_true rfl) (by omega) ?_
  refine F_iload_n dX2_take_4 rfl ?_
  refine F_icmp_eqN (tgt := 14) dX2_take_5 rfl (by omega) (by omega) (fun c5 => ?_) (fun c5 => ?_)
  · exact absurd c5 h
  · refine F_aload_n dX2_take_8 rfl ?_
    refine F_iconst (v := nI 1) dX2_take_9 rfl ?_
    refine F_cV1i (v_fail (d := d) hc hi his _) dX2_take_10 rfl rfl (by decide) rfl rfl rfl rfl (by decide) (Nat.le_of_ble_eq_true rfl) (by omega) ?_
    refine F_zret dX2_take_13 rfl (by first | exact Or.inl rfl | exact Or.inr rfl | exact bI_01 _) ?_
    exact hQ

theorem v_takeB (hc : TC σ b L s) (hi : σ 13 2 = nI i) (his : i ≤ s) (w : Nat) (hw : w < 18) (hw2 : w ≠ 16) (h : (tkn b L (tps b L i)) = w) : mV G mX2_take (d + 1) [.ref 13, .int (nI w)] σ (some (.int (nI 1))) (up σ 13 2 (nI (i + 1))) := by
  refine mV_of fun Q hQ => ?_
  have hs4 := hc.2.2.2.2
  have hrow := hc.1 i (by omega)
  have hlt := hc.lt his (by rw [h]; exact hw2)
  refine F_aload_n dX2_take_0 rfl ?_
  refine F_cV0i (v_token (d := d) hc hi his) dX2_take_1 rfl rfl (by decide) rfl rfl rfl rfl (by decide) (Nat.le_of_ble_eq_true rfl) (by omega) ?_
  refine F_iload_n dX2_take_4 rfl ?_
  refine F_icmp_eqN (tgt := 14) dX2_take_5 rfl (by omega) (by omega) (fun c5 => ?_) (fun c5 => ?_)
  · refine F_aload_n dX2_take_14 rfl ?_
    refine F_cV0v (v_step (d := d) hc hi his hlt) dX2_take_15 rfl rfl (by decide) rfl rfl rfl rfl (by decide) (Nat.le_of_ble_eq_true rfl) (by omega) ?_
    refine F_iconst (v := nI 1) dX2_take_18 rfl ?_
    refine F_zret dX2_take_19 rfl (by first | exact Or.inl rfl | exact Or.inr rfl | exact bI_01 _) ?_
    exact hQ
  · exact absurd h c5

theorem v_takeIntA (hc : TC σ b L s) (hi : σ 13 2 = nI i) (his : i ≤ s) (le mo : Int32) (h : (tkn b L (tps b L i)) ≠ 12) : mV G mX2_takeInt (d + 1) [.ref 13, .int le, .int mo] σ (some (.int (-1))) (up σ 13 3 (nI (1 + 8 * tps b L i))) := by
  refine mV_of fun Q hQ => ?_
  have hs4 := hc.2.2.2.2
  have hrow := hc.1 i (by omega)
  have ht : tkn b L (tps b L i) < 18 := by
    by_cases e : tps b L i < L
    · exact (tkn_16 e).2
    · unfold tkn; rw [if_neg e]; decide
  refine F_aload_n dX2_takeInt_0 rfl ?_
  refine F_cV0i (v_token (d := d) hc hi his) dX2_takeInt_1 rfl rfl (by decide) rfl rfl rfl rfl (by decide) (Nat.le_of_ble_eq_true rfl) (by omega) ?_
  refine F_bipush (v := nI 12) dX2_takeInt_4 rfl ?_
  refine F_icmp_eqN (tgt := 17) dX2_takeInt_6 rfl (by omega) (by omega) (fun c6 => ?_) (fun c6 => ?_)
  · exact absurd c6 h
  · refine F_aload_n dX2_takeInt_9 rfl ?_
    refine F_iconst (v := nI 1) dX2_takeInt_10 rfl ?_
    refine F_cV1i (v_fail (d := d) hc hi his _) dX2_takeInt_11 rfl rfl (by decide) rfl rfl rfl rfl (by decide) (Nat.le_of_ble_eq_true rfl) (by omega) ?_
    refine F_pop dX2_takeInt_14 rfl ?_
    refine F_iconst (v := (-1)) dX2_takeInt_15 rfl ?_
    refine F_iret dX2_takeInt_16 rfl ?_
    exact hQ

theorem v_takeIntB (hc : TC σ b L s) (hi : σ 13 2 = nI i) (his : i ≤ s) {le mo : Int32} (h : (tkn b L (tps b L i)) = 12) (hr : inR (nI (tkv b L (tps b L i))) le mo = false) : mV G mX2_takeInt (d + 1) [.ref 13, .int le, .int mo] σ (some (.int (-1))) (up σ 13 3 (nI (2 + 8 * tps b L i))) := by
  refine mV_of fun Q hQ => ?_
  have hs4 := hc.2.2.2.2
  have hrow := hc.1 i (by omega)
  refine F_aload_n dX2_takeInt_0 rfl ?_
  refine F_cV0i (v_token (d := d) hc hi his) dX2_takeInt_1 rfl rfl (by decide) rfl rfl rfl rfl (by decide) (Nat.le_of_ble_eq_true rfl) (by omega) ?_
  refine F_bipush (v := nI 12) dX2_takeInt_4 rfl ?_
  refine F_icmp_eqN (tgt := 17) dX2_takeInt_6 rfl (by omega) (by omega) (fun c6 => ?_) (fun c6 => ?_)
  · refine F_aload_n dX2_takeInt_17 rfl ?_
    refine F_getr dX2_takeInt_18 rfl rfl rfl rfl ?_
    refine F_getr dX2_takeInt_21 rfl rfl rfl rfl ?_
    refine F_aload_n dX2_takeInt_24 rfl ?_
    refine F_getE (v := nI i) dX2_takeInt_25 rfl rfl rfl rfl hi ?_
    refine F_ialdE (v := nI (tkv b L (tps b L i))) dX2_takeInt_28 rfl (by decide) (by omega) hrow.2.2 ?_
    refine F_istore_n dX2_takeInt_29 (Nat.le_of_ble_eq_true rfl) ?_
    refine F_iload_n dX2_takeInt_30 rfl ?_
    refine F_iload_n dX2_takeInt_31 rfl ?_
    refine F_icmp_lt (tgt := 40) dX2_takeInt_32 rfl (fun c32 => ?_) (fun c32 => ?_)
    · refine F_aload_n dX2_takeInt_40 rfl ?_
      refine F_iconst (v := nI 2) dX2_takeInt_41 rfl ?_
      refine F_cV1i (v_fail (d := d) hc hi his _) dX2_takeInt_42 rfl rfl (by decide) rfl rfl rfl rfl (by decide) (Nat.le_of_ble_eq_true rfl) (by omega) ?_
      refine F_pop dX2_takeInt_45 rfl ?_
      refine F_iconst (v := (-1)) dX2_takeInt_46 rfl ?_
      refine F_iret dX2_takeInt_47 rfl ?_
      exact hQ
    · refine F_iload_n dX2_takeInt_35 rfl ?_
      refine F_iload_n dX2_takeInt_36 rfl ?_
      refine F_icmp_le (tgt := 48) dX2_takeInt_37 rfl (fun c37 => ?_) (fun c37 => ?_)
      · rw [inR, decide_eq_true (Int32.not_lt.mp c32), decide_eq_true c37] at hr
        cases hr
      · refine F_aload_n dX2_takeInt_40 rfl ?_
        refine F_iconst (v := nI 2) dX2_takeInt_41 rfl ?_
        refine F_cV1i (v_fail (d := d) hc hi his _) dX2_takeInt_42 rfl rfl (by decide) rfl rfl rfl rfl (by decide) (Nat.le_of_ble_eq_true rfl) (by omega) ?_
        refine F_pop dX2_takeInt_45 rfl ?_
        refine F_iconst (v := (-1)) dX2_takeInt_46 rfl ?_
        refine F_iret dX2_takeInt_47 rfl ?_
        exact hQ
  · exact absurd h c6

theorem v_takeIntC (hc : TC σ b L s) (hi : σ 13 2 = nI i) (his : i ≤ s) {le mo : Int32} (h : (tkn b L (tps b L i)) = 12) (hr : inR (nI (tkv b L (tps b L i))) le mo = true) : mV G mX2_takeInt (d + 1) [.ref 13, .int le, .int mo] σ (some (.int (nI (tkv b L (tps b L i))))) (up σ 13 2 (nI (i + 1))) := by
  refine mV_of fun Q hQ => ?_
  have hs4 := hc.2.2.2.2
  have hrow := hc.1 i (by omega)
  have hlt := hc.lt his (by rw [h]; decide)
  have hk := hr
  simp only [inR, Bool.and_eq_true, decide_eq_true_eq] at hk
  refine F_aload_n dX2_takeInt_0 rfl ?_
  refine F_cV0i (v_token (d := d) hc hi his) dX2_takeInt_1 rfl rfl (by decide) rfl rfl rfl rfl (by decide) (Nat.le_of_ble_eq_true rfl) (by omega) ?_
  refine F_bipush (v := nI 12) dX2_takeInt_4 rfl ?_
  refine F_icmp_eqN (tgt := 17) dX2_takeInt_6 rfl (by omega) (by omega) (fun c6 => ?_) (fun c6 => ?_)
  · refine F_aload_n dX2_takeInt_17 rfl ?_
    refine F_getr dX2_takeInt_18 rfl rfl rfl rfl ?_
    refine F_getr dX2_takeInt_21 rfl rfl rfl rfl ?_
    refine F_aload_n dX2_takeInt_24 rfl ?_
    refine F_getE (v := nI i) dX2_takeInt_25 rfl rfl rfl rfl hi ?_
    refine F_ialdE (v := nI (tkv b L (tps b L i))) dX2_takeInt_28 rfl (by decide) (by omega) hrow.2.2 ?_
    refine F_istore_n dX2_takeInt_29 (Nat.le_of_ble_eq_true rfl) ?_
    refine F_iload_n dX2_takeInt_30 rfl ?_
    refine F_iload_n dX2_takeInt_31 rfl ?_
    refine F_icmp_lt (tgt := 40) dX2_takeInt_32 rfl (fun c32 => ?_) (fun c32 => ?_)
    · exact absurd hk.1 (Int32.not_le.mpr c32)
    · refine F_iload_n dX2_takeInt_35 rfl ?_
      refine F_iload_n dX2_takeInt_36 rfl ?_
      refine F_icmp_le (tgt := 48) dX2_takeInt_37 rfl (fun c37 => ?_) (fun c37 => ?_)
      · refine F_aload_n dX2_takeInt_48 rfl ?_
        refine F_cV0v (v_step (d := d) hc hi his hlt) dX2_takeInt_49 rfl rfl (by decide) rfl rfl rfl rfl (by decide) (Nat.le_of_ble_eq_true rfl) (by omega) ?_
        refine F_iload_n dX2_takeInt_52 rfl ?_
        refine F_iret dX2_takeInt_53 rfl ?_
        exact hQ
      · exact absurd hk.2 c37
  · exact absurd h c6

end TL
