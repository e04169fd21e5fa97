/-! ===== the words ===== -/
theorem dX1_wordAt_0 : decode cX1_wordAt 0 = .ok (.iconst 0, 1) := by decide +kernel
theorem dX1_wordAt_1 : decode cX1_wordAt 1 = .ok (.istore_n 3, 1) := by decide +kernel
theorem dX1_wordAt_2 : decode cX1_wordAt 2 = .ok (.iload_n 3, 1) := by decide +kernel
theorem dX1_wordAt_3 : decode cX1_wordAt 3 = .ok (.bipush 12, 2) := by decide +kernel
theorem dX1_wordAt_5 : decode cX1_wordAt 5 = .ok (.if_icmp .ge 24, 3) := by decide +kernel
theorem dX1_wordAt_8 : decode cX1_wordAt 8 = .ok (.aload_n 0, 1) := by decide +kernel
theorem dX1_wordAt_9 : decode cX1_wordAt 9 = .ok (.iload_n 3, 1) := by decide +kernel
theorem dX1_wordAt_10 : decode cX1_wordAt 10 = .ok (.invokestatic 63, 3) := by decide +kernel
theorem dX1_wordAt_13 : decode cX1_wordAt 13 = .ok (.iload_n 1, 1) := by decide +kernel
theorem dX1_wordAt_14 : decode cX1_wordAt 14 = .ok (.iload_n 2, 1) := by decide +kernel
theorem dX1_wordAt_15 : decode cX1_wordAt 15 = .ok (.invokevirtual 67, 3) := by decide +kernel
theorem dX1_wordAt_18 : decode cX1_wordAt 18 = .ok (.ifCond .eq 5, 3) := by decide +kernel
theorem dX1_wordAt_21 : decode cX1_wordAt 21 = .ok (.iload_n 3, 1) := by decide +kernel
theorem dX1_wordAt_22 : decode cX1_wordAt 22 = .ok (.ireturn, 1) := by decide +kernel
theorem dX1_wordAt_23 : decode cX1_wordAt 23 = .ok (.iinc 3 1, 3) := by decide +kernel
theorem dX1_wordAt_26 : decode cX1_wordAt 26 = .ok (.goto (-24), 3) := by decide +kernel
theorem dX1_wordAt_29 : decode cX1_wordAt 29 = .ok (.bipush 17, 2) := by decide +kernel
theorem dX1_wordAt_31 : decode cX1_wordAt 31 = .ok (.ireturn, 1) := by decide +kernel
theorem dX1_textOf_0 : decode cX1_textOf 0 = .ok (.iload_n 0, 1) := by decide +kernel
theorem dX1_textOf_1 : decode cX1_textOf 1 = .ok (.tableswitch 92 0 10 #[59, 62, 65, 68, 71, 74, 77, 80, 83, 86, 89], 59) := by decide +kernel
theorem dX1_textOf_60 : decode cX1_textOf 60 = .ok (.ldc 80, 2) := by decide +kernel
theorem dX1_textOf_62 : decode cX1_textOf 62 = .ok (.areturn, 1) := by decide +kernel
theorem dX1_textOf_63 : decode cX1_textOf 63 = .ok (.ldc 82, 2) := by decide +kernel
theorem dX1_textOf_65 : decode cX1_textOf 65 = .ok (.areturn, 1) := by decide +kernel
theorem dX1_textOf_66 : decode cX1_textOf 66 = .ok (.ldc 84, 2) := by decide +kernel
theorem dX1_textOf_68 : decode cX1_textOf 68 = .ok (.areturn, 1) := by decide +kernel
theorem dX1_textOf_69 : decode cX1_textOf 69 = .ok (.ldc 86, 2) := by decide +kernel
theorem dX1_textOf_71 : decode cX1_textOf 71 = .ok (.areturn, 1) := by decide +kernel
theorem dX1_textOf_72 : decode cX1_textOf 72 = .ok (.ldc 88, 2) := by decide +kernel
theorem dX1_textOf_74 : decode cX1_textOf 74 = .ok (.areturn, 1) := by decide +kernel
theorem dX1_textOf_75 : decode cX1_textOf 75 = .ok (.ldc 90, 2) := by decide +kernel
theorem dX1_textOf_77 : decode cX1_textOf 77 = .ok (.areturn, 1) := by decide +kernel
theorem dX1_textOf_78 : decode cX1_textOf 78 = .ok (.ldc 92, 2) := by decide +kernel
theorem dX1_textOf_80 : decode cX1_textOf 80 = .ok (.areturn, 1) := by decide +kernel
theorem dX1_textOf_81 : decode cX1_textOf 81 = .ok (.ldc 94, 2) := by decide +kernel
theorem dX1_textOf_83 : decode cX1_textOf 83 = .ok (.areturn, 1) := by decide +kernel
theorem dX1_textOf_84 : decode cX1_textOf 84 = .ok (.ldc 96, 2) := by decide +kernel
theorem dX1_textOf_86 : decode cX1_textOf 86 = .ok (.areturn, 1) := by decide +kernel
theorem dX1_textOf_87 : decode cX1_textOf 87 = .ok (.ldc 98, 2) := by decide +kernel
theorem dX1_textOf_89 : decode cX1_textOf 89 = .ok (.areturn, 1) := by decide +kernel
theorem dX1_textOf_90 : decode cX1_textOf 90 = .ok (.ldc 100, 2) := by decide +kernel
theorem dX1_textOf_92 : decode cX1_textOf 92 = .ok (.areturn, 1) := by decide +kernel
theorem dX1_textOf_93 : decode cX1_textOf 93 = .ok (.ldc 102, 2) := by decide +kernel
theorem dX1_textOf_95 : decode cX1_textOf 95 = .ok (.areturn, 1) := by decide +kernel
theorem dX1_isTextAt_0 : decode cX1_isTextAt 0 = .ok (.aload_n 1, 1) := by decide +kernel
theorem dX1_isTextAt_1 : decode cX1_isTextAt 1 = .ok (.invokevirtual 71, 3) := by decide +kernel
theorem dX1_isTextAt_4 : decode cX1_isTextAt 4 = .ok (.iload_n 3, 1) := by decide +kernel
theorem dX1_isTextAt_5 : decode cX1_isTextAt 5 = .ok (.iload_n 2, 1) := by decide +kernel
theorem dX1_isTextAt_6 : decode cX1_isTextAt 6 = .ok (.isub, 1) := by decide +kernel
theorem dX1_isTextAt_7 : decode cX1_isTextAt 7 = .ok (.if_icmp .eq 5, 3) := by decide +kernel
theorem dX1_isTextAt_10 : decode cX1_isTextAt 10 = .ok (.iconst 0, 1) := by decide +kernel
theorem dX1_isTextAt_11 : decode cX1_isTextAt 11 = .ok (.ireturn, 1) := by decide +kernel
theorem dX1_isTextAt_12 : decode cX1_isTextAt 12 = .ok (.iconst 0, 1) := by decide +kernel
theorem dX1_isTextAt_13 : decode cX1_isTextAt 13 = .ok (.istore 4, 2) := by decide +kernel
theorem dX1_isTextAt_15 : decode cX1_isTextAt 15 = .ok (.iload 4, 2) := by decide +kernel
theorem dX1_isTextAt_17 : decode cX1_isTextAt 17 = .ok (.aload_n 1, 1) := by decide +kernel
theorem dX1_isTextAt_18 : decode cX1_isTextAt 18 = .ok (.invokevirtual 71, 3) := by decide +kernel
theorem dX1_isTextAt_21 : decode cX1_isTextAt 21 = .ok (.if_icmp .ge 29, 3) := by decide +kernel
theorem dX1_isTextAt_24 : decode cX1_isTextAt 24 = .ok (.aload_n 1, 1) := by decide +kernel
theorem dX1_isTextAt_25 : decode cX1_isTextAt 25 = .ok (.iload 4, 2) := by decide +kernel
theorem dX1_isTextAt_27 : decode cX1_isTextAt 27 = .ok (.invokevirtual 76, 3) := by decide +kernel
theorem dX1_isTextAt_30 : decode cX1_isTextAt 30 = .ok (.aload_n 0, 1) := by decide +kernel
theorem dX1_isTextAt_31 : decode cX1_isTextAt 31 = .ok (.getfield 9, 3) := by decide +kernel
theorem dX1_isTextAt_34 : decode cX1_isTextAt 34 = .ok (.iload_n 2, 1) := by decide +kernel
theorem dX1_isTextAt_35 : decode cX1_isTextAt 35 = .ok (.iload 4, 2) := by decide +kernel
theorem dX1_isTextAt_37 : decode cX1_isTextAt 37 = .ok (.iadd, 1) := by decide +kernel
theorem dX1_isTextAt_38 : decode cX1_isTextAt 38 = .ok (.baload, 1) := by decide +kernel
theorem dX1_isTextAt_39 : decode cX1_isTextAt 39 = .ok (.if_icmp .eq 5, 3) := by decide +kernel
theorem dX1_isTextAt_42 : decode cX1_isTextAt 42 = .ok (.iconst 0, 1) := by decide +kernel
theorem dX1_isTextAt_43 : decode cX1_isTextAt 43 = .ok (.ireturn, 1) := by decide +kernel
theorem dX1_isTextAt_44 : decode cX1_isTextAt 44 = .ok (.iinc 4 1, 3) := by decide +kernel
theorem dX1_isTextAt_47 : decode cX1_isTextAt 47 = .ok (.goto (-32), 3) := by decide +kernel
theorem dX1_isTextAt_50 : decode cX1_isTextAt 50 = .ok (.iconst 1, 1) := by decide +kernel
theorem dX1_isTextAt_51 : decode cX1_isTextAt 51 = .ok (.ireturn, 1) := by decide +kernel

section WDS
variable {G : mG} {d : Nat} {σ : mS} {j : Nat}

theorem v_textOf (hj : j < 12) : mV G mX1_textOf d [.int (nI j)] σ (some (.retAddr j)) σ := mV_of fun Q hQ => by
  rcases (show j = 0 ∨ j = 1 ∨ j = 2 ∨ j = 3 ∨ j = 4 ∨ j = 5 ∨ j = 6 ∨ j = 7 ∨ j = 8 ∨ j = 9 ∨ j = 10 ∨ j = 11 by omega) with rfl | rfl | rfl | rfl | rfl | rfl | rfl | rfl | rfl | rfl | rfl | rfl
  · refine F_iload_n dX1_textOf_0 rfl ?_
    refine F_tableIn (off := 59) (tgt := 60) dX1_textOf_1 (by decide) (by decide) (by decide +kernel) rfl ?_
    refine T_ldcS (j := 0) dX1_textOf_60 rfl (by decide) rfl ?_
    exact T_aretX dX1_textOf_62 rfl (Nat.le_refl _) (Nat.le_refl _) ⟨rfl, σ, rfl, hQ⟩
  · refine F_iload_n dX1_textOf_0 rfl ?_
    refine F_tableIn (off := 62) (tgt := 63) dX1_textOf_1 (by decide) (by decide) (by decide +kernel) rfl ?_
    refine T_ldcS (j := 1) dX1_textOf_63 rfl (by decide) rfl ?_
    exact T_aretX dX1_textOf_65 rfl (Nat.le_refl _) (Nat.le_refl _) ⟨rfl, σ, rfl, hQ⟩
  · refine F_iload_n dX1_textOf_0 rfl ?_
    refine F_tableIn (off := 65) (tgt := 66) dX1_textOf_1 (by decide) (by decide) (by decide +kernel) rfl ?_
    refine T_ldcS (j := 2) dX1_textOf_66 rfl (by decide) rfl ?_
    exact T_aretX dX1_textOf_68 rfl (Nat.le_refl _) (Nat.le_refl _) ⟨rfl, σ, rfl, hQ⟩
  · refine F_iload_n dX1_textOf_0 rfl ?_
    refine F_tableIn (off := 68) (tgt := 69) dX1_textOf_1 (by decide) (by decide) (by decide +kernel) rfl ?_
    refine T_ldcS (j := 3) dX1_textOf_69 rfl (by decide) rfl ?_
    exact T_aretX dX1_textOf_71 rfl (Nat.le_refl _) (Nat.le_refl _) ⟨rfl, σ, rfl, hQ⟩
  · refine F_iload_n dX1_textOf_0 rfl ?_
    refine F_tableIn (off := 71) (tgt := 72) dX1_textOf_1 (by decide) (by decide) (by decide +kernel) rfl ?_
    refine T_ldcS (j := 4) dX1_textOf_72 rfl (by decide) rfl ?_
    exact T_aretX dX1_textOf_74 rfl (Nat.le_refl _) (Nat.le_refl _) ⟨rfl, σ, rfl, hQ⟩
  · refine F_iload_n dX1_textOf_0 rfl ?_
    refine F_tableIn (off := 74) (tgt := 75) dX1_textOf_1 (by decide) (by decide) (by decide +kernel) rfl ?_
    refine T_ldcS (j := 5) dX1_textOf_75 rfl (by decide) rfl ?_
    exact T_aretX dX1_textOf_77 rfl (Nat.le_refl _) (Nat.le_refl _) ⟨rfl, σ, rfl, hQ⟩
  · refine F_iload_n dX1_textOf_0 rfl ?_
    refine F_tableIn (off := 77) (tgt := 78) dX1_textOf_1 (by decide) (by decide) (by decide +kernel) rfl ?_
    refine T_ldcS (j := 6) dX1_textOf_78 rfl (by decide) rfl ?_
    exact T_aretX dX1_textOf_80 rfl (Nat.le_refl _) (Nat.le_refl _) ⟨rfl, σ, rfl, hQ⟩
  · refine F_iload_n dX1_textOf_0 rfl ?_
    refine F_tableIn (off := 80) (tgt := 81) dX1_textOf_1 (by decide) (by decide) (by decide +kernel) rfl ?_
    refine T_ldcS (j := 7) dX1_textOf_81 rfl (by decide) rfl ?_
    exact T_aretX dX1_textOf_83 rfl (Nat.le_refl _) (Nat.le_refl _) ⟨rfl, σ, rfl, hQ⟩
  · refine F_iload_n dX1_textOf_0 rfl ?_
    refine F_tableIn (off := 83) (tgt := 84) dX1_textOf_1 (by decide) (by decide) (by decide +kernel) rfl ?_
    refine T_ldcS (j := 8) dX1_textOf_84 rfl (by decide) rfl ?_
    exact T_aretX dX1_textOf_86 rfl (Nat.le_refl _) (Nat.le_refl _) ⟨rfl, σ, rfl, hQ⟩
  · refine F_iload_n dX1_textOf_0 rfl ?_
    refine F_tableIn (off := 86) (tgt := 87) dX1_textOf_1 (by decide) (by decide) (by decide +kernel) rfl ?_
    refine T_ldcS (j := 9) dX1_textOf_87 rfl (by decide) rfl ?_
    exact T_aretX dX1_textOf_89 rfl (Nat.le_refl _) (Nat.le_refl _) ⟨rfl, σ, rfl, hQ⟩
  · refine F_iload_n dX1_textOf_0 rfl ?_
    refine F_tableIn (off := 89) (tgt := 90) dX1_textOf_1 (by decide) (by decide) (by decide +kernel) rfl ?_
    refine T_ldcS (j := 10) dX1_textOf_90 rfl (by decide) rfl ?_
    exact T_aretX dX1_textOf_92 rfl (Nat.le_refl _) (Nat.le_refl _) ⟨rfl, σ, rfl, hQ⟩
  · refine F_iload_n dX1_textOf_0 rfl ?_
    refine F_tableOut (tgt := 93) dX1_textOf_1 (by decide) rfl ?_
    refine T_ldcS (j := 11) dX1_textOf_93 rfl (by decide) rfl ?_
    exact T_aretX dX1_textOf_95 rfl (Nat.le_refl _) (Nat.le_refl _) ⟨rfl, σ, rfl, hQ⟩
/-- the text j stands from a to e -/
def isTx (b : Nat → Int32) (a e j : Nat) : Prop := e - a = mSl.getD j 0 ∧ ∀ k, k < mSl.getD j 0 → (mSb.getD j []).getD k 0 = b (a + k)

theorem l_text {a e : Nat} (hj : j < 12) (hae : a ≤ e) (he : e ≤ 400) (hlen : e - a = mSl.getD j 0) (Q : Option Value → mS → Prop) (hT : isTx (σ 15) a e j → Q (some (.int 1)) σ) (hF : ¬ isTx (σ 15) a e j → Q (some (.int 0)) σ) : ∀ q k, k + q = mSl.getD j 0 → (∀ i, i < k → (mSb.getD j []).getD i 0 = σ 15 (a + i)) → mF G mX1_isTextAt (d + 4) 15 [some (.ref 14), some (.retAddr j), some (.int (nI a)), some (.int (nI e)), some (.int (nI k))] [] σ Q := by
  have h7 := sl_lt j hj
  intro q
  induction q with
  | zero =>
    intro k hk hm
    refine F_iload dX1_isTextAt_15 rfl ?_
    refine T_aloadX dX1_isTextAt_17 rfl ?_
    refine F_callVX (as := []) (v_length (d := d) hj) dX1_isTextAt_18 mJ_J0_length rfl (mG_t (by decide +kernel) (List.mem_of_getElem? (i := 276) (by decide +kernel))) (mG_t (by decide +kernel) (List.mem_of_getElem? (i := 277) (by decide +kernel))) (mG_t (by decide +kernel) (List.mem_of_getElem? (i := 278) (by decide +kernel))) hj rfl ⟨Nat.le_of_ble_eq_true rfl, Nat.le_of_ble_eq_true rfl⟩ (by intro v hv; cases hv) (Nat.le_of_ble_eq_true rfl) (by omega) ?_
    refine F_icmp_geN (tgt := 50) dX1_isTextAt_21 rfl (by omega) (by omega) (fun c21 => ?_) (fun c21 => ?_)
    · refine F_iconst (v := 1) dX1_isTextAt_50 rfl ?_
      exact F_zret dX1_isTextAt_51 rfl (Or.inr rfl) (hT ⟨hlen, fun i hi => hm i (by omega)⟩)
    · exact absurd c21 (by omega)
  | succ q ih =>
    intro k hk hm
    refine F_iload dX1_isTextAt_15 rfl ?_
    refine T_aloadX dX1_isTextAt_17 rfl ?_
    refine F_callVX (as := []) (v_length (d := d) hj) dX1_isTextAt_18 mJ_J0_length rfl (mG_t (by decide +kernel) (List.mem_of_getElem? (i := 276) (by decide +kernel))) (mG_t (by decide +kernel) (List.mem_of_getElem? (i := 277) (by decide +kernel))) (mG_t (by decide +kernel) (List.mem_of_getElem? (i := 278) (by decide +kernel))) hj rfl ⟨Nat.le_of_ble_eq_true rfl, Nat.le_of_ble_eq_true rfl⟩ (by intro v hv; cases hv) (Nat.le_of_ble_eq_true rfl) (by omega) ?_
    refine F_icmp_geN (tgt := 50) dX1_isTextAt_21 rfl (by omega) (by omega) (fun c21 => ?_) (fun c21 => ?_)
    · exact absurd c21 (by omega)
    · refine T_aloadX dX1_isTextAt_24 rfl ?_
      refine F_iload dX1_isTextAt_25 rfl ?_
      refine F_callVX (as := [.int (nI k)]) (v_charAt (d := d) hj (by omega)) dX1_isTextAt_27 mJ_J0_charAt rfl (mG_t (by decide +kernel) (List.mem_of_getElem? (i := 286) (by decide +kernel))) (mG_t (by decide +kernel) (List.mem_of_getElem? (i := 287) (by decide +kernel))) (mG_t (by decide +kernel) (List.mem_of_getElem? (i := 288) (by decide +kernel))) hj rfl ⟨Nat.le_of_ble_eq_true rfl, Nat.le_of_ble_eq_true rfl⟩ (by intro v hv; simp at hv; rw [hv]; rfl) (Nat.le_of_ble_eq_true rfl) (by omega) ?_
      refine F_aload_n dX1_isTextAt_30 rfl ?_
      refine F_getr dX1_isTextAt_31 rfl rfl rfl rfl ?_
      refine F_iload_n dX1_isTextAt_34 rfl ?_
      refine F_iload dX1_isTextAt_35 rfl ?_
      refine F_iaddN dX1_isTextAt_37 ?_
      refine F_bald dX1_isTextAt_38 rfl (by decide) (by omega) ?_
      refine F_icmp_eq (tgt := 44) dX1_isTextAt_39 rfl (fun c39 => ?_) (fun c39 => ?_)
      · refine F_iincN dX1_isTextAt_44 rfl ?_
        refine F_goto (tgt := 15) dX1_isTextAt_47 rfl ?_
        exact ih (k + 1) (by omega) (fun i hi => by
          by_cases e2 : i = k
          · rw [e2]; exact c39
          · exact hm i (by omega))
      · refine F_iconst (v := 0) dX1_isTextAt_42 rfl ?_
        exact F_zret dX1_isTextAt_43 rfl (Or.inl rfl) (hF fun z => c39 (z.2 k (by omega)))
theorem l_isText {a e : Nat} (hj : j < 12) (hae : a ≤ e) (he : e ≤ 400) (Q : Option Value → mS → Prop) (hT : isTx (σ 15) a e j → Q (some (.int 1)) σ) (hF : ¬ isTx (σ 15) a e j → Q (some (.int 0)) σ) : mF G mX1_isTextAt (d + 4) 0 [some (.ref 14), some (.retAddr j), some (.int (nI a)), some (.int (nI e)), none] [] σ Q := by
  have h7 := sl_lt j hj
  refine T_aloadX dX1_isTextAt_0 rfl ?_
  refine F_callVX (as := []) (v_length (d := d) hj) dX1_isTextAt_1 mJ_J0_length rfl (mG_t (by decide +kernel) (List.mem_of_getElem? (i := 276) (by decide +kernel))) (mG_t (by decide +kernel) (List.mem_of_getElem? (i := 277) (by decide +kernel))) (mG_t (by decide +kernel) (List.mem_of_getElem? (i := 278) (by decide +kernel))) hj rfl ⟨Nat.le_of_ble_eq_true rfl, Nat.le_of_ble_eq_true rfl⟩ (by intro v hv; cases hv) (Nat.le_of_ble_eq_true rfl) (by omega) ?_
  refine F_iload_n dX1_isTextAt_4 rfl ?_
  refine F_iload_n dX1_isTextAt_5 rfl ?_
  refine F_isubN dX1_isTextAt_6 (by omega) ?_
  refine F_icmp_eqN (tgt := 12) dX1_isTextAt_7 rfl (by omega) (by omega) (fun c7 => ?_) (fun c7 => ?_)
  · refine F_iconst (v := nI 0) dX1_isTextAt_12 rfl ?_
    refine F_istore dX1_isTextAt_13 (Nat.le_of_ble_eq_true rfl) ?_
    exact l_text hj hae he c7.symm Q hT hF (mSl.getD j 0) 0 (by omega) (fun i hi => absurd hi (by omega))
  · refine F_iconst (v := 0) dX1_isTextAt_10 rfl ?_
    exact F_zret dX1_isTextAt_11 rfl (Or.inl rfl) (hF fun z => c7 z.1.symm)
theorem v_isTextB {a e : Nat} (hj : j < 12) (hae : a ≤ e) (he : e ≤ 400) (h : isTx (σ 15) a e j) : mV G mX1_isTextAt (d + 4) [.ref 14, .retAddr j, .int (nI a), .int (nI e)] σ (some (.int 1)) σ := l_isText hj hae he _ (fun _ => ⟨rfl, rfl⟩) (fun z => absurd h z)
theorem v_isTextA {a e : Nat} (hj : j < 12) (hae : a ≤ e) (he : e ≤ 400) (h : ¬ isTx (σ 15) a e j) : mV G mX1_isTextAt (d + 4) [.ref 14, .retAddr j, .int (nI a), .int (nI e)] σ (some (.int 0)) σ := l_isText hj hae he _ (fun z => absurd z h) (fun _ => ⟨rfl, rfl⟩)
/-- what letters make, they make alone -/
theorem wv_inj {b f : Nat → Int32} {p q : Nat} : ∀ m n, m ≤ 6 → n ≤ 6 → (∀ k, k < m → isLt (b (p + k)) = true) → (∀ k, k < n → isLt (f (q + k)) = true) → wv b p m = wv f q n → m = n ∧ ∀ k, k < m → b (p + k) = f (q + k) := by
  intro m
  induction m with
  | zero =>
    intro n hm hn hb hf e
    cases n with
    | zero => exact ⟨rfl, fun k hk => absurd hk (by omega)⟩
    | succ n =>
      exfalso
      obtain ⟨t, t1, t2, -, et⟩ := lt_n (hf n (by omega))
      simp only [wv] at e
      rw [if_pos (by omega), et] at e
      omega
  | succ m ih =>
    intro n hm hn hb hf e
    obtain ⟨s, s1, s2, es0, es⟩ := lt_n (hb m (by omega))
    cases n with
    | zero =>
      exfalso
      simp only [wv] at e
      rw [if_pos (by omega), es] at e
      omega
    | succ n =>
      obtain ⟨t, t1, t2, et0, et⟩ := lt_n (hf n (by omega))
      simp only [wv] at e
      rw [if_pos (by omega), if_pos (by omega), es, et] at e
      obtain ⟨e1, e2⟩ := ih n (by omega) (by omega) (fun k hk => hb k (by omega)) (fun k hk => hf k (by omega)) (by omega)
      subst e1
      refine ⟨rfl, fun k hk => ?_⟩
      by_cases hkm : k = m
      · subst hkm
        have hst : s = t := by omega
        rw [es0, et0, hst]
      · exact e2 k (by omega)
theorem sb_w : ∀ j, j < 12 → wv (fun k => (mSb.getD j []).getD k 0) 0 (mSl.getD j 0) = wcd j ∧ wtok (wcd j) = j ∧ 0 < wcd j ∧ mSl.getD j 0 ≤ 6 ∧ ∀ k, k < mSl.getD j 0 → isLt ((mSb.getD j []).getD k 0) = true := by decide +kernel
theorem wv_7 (b : Nat → Int32) (p : Nat) {m : Nat} (h : 6 < m) : wv b p m = 0 := by
  cases m with
  | zero => omega
  | succ m => exact if_neg (by omega)
theorem isTx_iff {b : Nat → Int32} {a e : Nat} (hj : j < 12) (hl : ∀ k, a ≤ k → k < e → isLt (b k) = true) : isTx b a e j ↔ wv b a (e - a) = wcd j := by
  obtain ⟨h1, h2, h3, h4, h5⟩ := sb_w j hj
  constructor
  · intro h
    rw [h.1, ← h1]
    have : ∀ m, m ≤ mSl.getD j 0 → wv b a m = wv (fun k => (mSb.getD j []).getD k 0) 0 m := by
      intro m
      induction m with
      | zero => intro _; rfl
      | succ m ih =>
        intro hm
        simp only [wv]
        rw [ih (by omega), ← h.2 m (by omega), Nat.zero_add]
    exact this _ (Nat.le_refl _)
  · intro h
    have h6 : e - a ≤ 6 := by
      apply Nat.le_of_not_lt
      intro z
      rw [wv_7 _ _ z] at h
      omega
    rw [← h1] at h
    obtain ⟨e1, e2⟩ := wv_inj (e - a) (mSl.getD j 0) h6 h4 (fun k hk => hl _ (by omega) (by omega)) (fun k hk => by rw [Nat.zero_add]; exact h5 k hk) h
    exact ⟨e1, fun k hk => by have := e2 k (by omega); rw [Nat.zero_add] at this; exact this.symm⟩

theorem l_word {a e : Nat} (hae : a < e) (he : e ≤ 400) (hl : ∀ k, a ≤ k → k < e → isLt (σ 15 k) = true) (Q : Option Value → mS → Prop) (hQ : Q (some (.int (nI (wtok (wv (σ 15) a (e - a)))))) σ) : ∀ q w, w + q = 12 → (∀ i, i < w → ¬ isTx (σ 15) a e i) → mF G mX1_wordAt (d + 6) 2 [some (.ref 14), some (.int (nI a)), some (.int (nI e)), some (.int (nI w))] [] σ Q := by
  intro q
  induction q with
  | zero =>
    intro w hw hm
    have e12 : w = 12 := by omega
    subst e12
    have h17 : wtok (wv (σ 15) a (e - a)) = 17 := by
      rcases wtok_ne (wv (σ 15) a (e - a)) with h | h
      · exact absurd ((isTx_iff h hl).mpr (wtok_inv rfl h)) (hm _ h)
      · exact h
    rw [h17] at hQ
    refine F_iload_n dX1_wordAt_2 rfl ?_
    refine F_bipush (v := nI 12) dX1_wordAt_3 rfl ?_
    refine F_icmp_geN (tgt := 29) dX1_wordAt_5 rfl (by omega) (by omega) (fun c5 => ?_) (fun c5 => absurd (Nat.le_refl 12) c5)
    refine F_bipush (v := nI 17) dX1_wordAt_29 rfl ?_
    exact F_iret dX1_wordAt_31 rfl hQ
  | succ q ih =>
    intro w hw hm
    have hw12 : w < 12 := by omega
    refine F_iload_n dX1_wordAt_2 rfl ?_
    refine F_bipush (v := nI 12) dX1_wordAt_3 rfl ?_
    refine F_icmp_geN (tgt := 29) dX1_wordAt_5 rfl (by omega) (by omega) (fun c5 => absurd c5 (by omega)) (fun c5 => ?_)
    refine F_aload_n dX1_wordAt_8 rfl ?_
    refine F_iload_n dX1_wordAt_9 rfl ?_
    refine F_cS1i (v_textOf (d := d) hw12) dX1_wordAt_10 rfl rfl rfl (by decide) (Nat.le_of_ble_eq_true rfl) (by omega) ?_
    refine F_iload_n dX1_wordAt_13 rfl ?_
    refine F_iload_n dX1_wordAt_14 rfl ?_
    by_cases ht : isTx (σ 15) a e w
    · have hwt : wtok (wv (σ 15) a (e - a)) = w := by rw [(isTx_iff hw12 hl).mp ht]; exact (sb_w w hw12).2.1
      rw [hwt] at hQ
      refine F_callV (as := [.retAddr w, .int (nI a), .int (nI e)]) (v_isTextB (d := d) hw12 (by omega) he ht) dX1_wordAt_15 rfl rfl (by decide) rfl rfl rfl rfl ⟨Nat.le_of_ble_eq_true rfl, Nat.le_of_ble_eq_true rfl⟩ (by intro v hv; simp at hv; rcases hv with rfl | rfl | rfl <;> rfl) (Nat.le_of_ble_eq_true rfl) (by omega) ?_
      refine F_if_eq (tgt := 23) dX1_wordAt_18 rfl (fun c => absurd c (by decide)) (fun _ => ?_)
      refine F_iload_n dX1_wordAt_21 rfl ?_
      exact F_iret dX1_wordAt_22 rfl hQ
    · refine F_callV (as := [.retAddr w, .int (nI a), .int (nI e)]) (v_isTextA (d := d) hw12 (by omega) he ht) dX1_wordAt_15 rfl rfl (by decide) rfl rfl rfl rfl ⟨Nat.le_of_ble_eq_true rfl, Nat.le_of_ble_eq_true rfl⟩ (by intro v hv; simp at hv; rcases hv with rfl | rfl | rfl <;> rfl) (Nat.le_of_ble_eq_true rfl) (by omega) ?_
      refine F_if_eq (tgt := 23) dX1_wordAt_18 rfl (fun _ => ?_) (fun c => absurd rfl c)
      refine F_iincN dX1_wordAt_23 rfl ?_
      refine F_goto (tgt := 2) dX1_wordAt_26 rfl ?_
      exact ih (w + 1) (by omega) (fun i hi => by
        by_cases e2 : i = w
        · rw [e2]; exact ht
        · exact hm i (by omega))
theorem words_ok : wordOk G := fun d σ a e h4 hae he hl => mV_of fun Q hQ => by
  obtain ⟨d, rfl⟩ := Nat.exists_eq_add_of_le' h4
  refine F_iconst (v := nI 0) dX1_wordAt_0 rfl ?_
  refine F_istore_n dX1_wordAt_1 (Nat.le_of_ble_eq_true rfl) ?_
  exact l_word hae he hl Q hQ 12 0 (by omega) (fun i hi => absurd hi (by omega))
end WDS
