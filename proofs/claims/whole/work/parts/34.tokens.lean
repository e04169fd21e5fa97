/-! ===== tokens ===== -/
theorem dX1_split_0 : decode cX1_split 0 = .ok (.aload_n 0, 1) := by decide +kernel
theorem dX1_split_1 : decode cX1_split 1 = .ok (.iconst 0, 1) := by decide +kernel
theorem dX1_split_2 : decode cX1_split 2 = .ok (.putfield 29, 3) := by decide +kernel
theorem dX1_split_5 : decode cX1_split 5 = .ok (.iconst 0, 1) := by decide +kernel
theorem dX1_split_6 : decode cX1_split 6 = .ok (.istore_n 1, 1) := by decide +kernel
theorem dX1_split_7 : decode cX1_split 7 = .ok (.iconst 0, 1) := by decide +kernel
theorem dX1_split_8 : decode cX1_split 8 = .ok (.istore_n 2, 1) := by decide +kernel
theorem dX1_split_9 : decode cX1_split 9 = .ok (.iload_n 2, 1) := by decide +kernel
theorem dX1_split_10 : decode cX1_split 10 = .ok (.sipush 400, 3) := by decide +kernel
theorem dX1_split_13 : decode cX1_split 13 = .ok (.if_icmp .ge 117, 3) := by decide +kernel
theorem dX1_split_16 : decode cX1_split 16 = .ok (.iload_n 1, 1) := by decide +kernel
theorem dX1_split_17 : decode cX1_split 17 = .ok (.aload_n 0, 1) := by decide +kernel
theorem dX1_split_18 : decode cX1_split 18 = .ok (.getfield 25, 3) := by decide +kernel
theorem dX1_split_21 : decode cX1_split 21 = .ok (.if_icmp .ge 109, 3) := by decide +kernel
theorem dX1_split_24 : decode cX1_split 24 = .ok (.iload_n 1, 1) := by decide +kernel
theorem dX1_split_25 : decode cX1_split 25 = .ok (.iconst 1, 1) := by decide +kernel
theorem dX1_split_26 : decode cX1_split 26 = .ok (.iadd, 1) := by decide +kernel
theorem dX1_split_27 : decode cX1_split 27 = .ok (.istore_n 3, 1) := by decide +kernel
theorem dX1_split_28 : decode cX1_split 28 = .ok (.aload_n 0, 1) := by decide +kernel
theorem dX1_split_29 : decode cX1_split 29 = .ok (.getfield 9, 3) := by decide +kernel
theorem dX1_split_32 : decode cX1_split 32 = .ok (.iload_n 1, 1) := by decide +kernel
theorem dX1_split_33 : decode cX1_split 33 = .ok (.baload, 1) := by decide +kernel
theorem dX1_split_34 : decode cX1_split 34 = .ok (.invokestatic 32, 3) := by decide +kernel
theorem dX1_split_37 : decode cX1_split 37 = .ok (.ifCond .eq 24, 3) := by decide +kernel
theorem dX1_split_40 : decode cX1_split 40 = .ok (.aload_n 0, 1) := by decide +kernel
theorem dX1_split_41 : decode cX1_split 41 = .ok (.iload_n 3, 1) := by decide +kernel
theorem dX1_split_42 : decode cX1_split 42 = .ok (.invokevirtual 36, 3) := by decide +kernel
theorem dX1_split_45 : decode cX1_split 45 = .ok (.istore_n 3, 1) := by decide +kernel
theorem dX1_split_46 : decode cX1_split 46 = .ok (.aload_n 0, 1) := by decide +kernel
theorem dX1_split_47 : decode cX1_split 47 = .ok (.aload_n 0, 1) := by decide +kernel
theorem dX1_split_48 : decode cX1_split 48 = .ok (.iload_n 1, 1) := by decide +kernel
theorem dX1_split_49 : decode cX1_split 49 = .ok (.iload_n 3, 1) := by decide +kernel
theorem dX1_split_50 : decode cX1_split 50 = .ok (.invokevirtual 40, 3) := by decide +kernel
theorem dX1_split_53 : decode cX1_split 53 = .ok (.iload_n 1, 1) := by decide +kernel
theorem dX1_split_54 : decode cX1_split 54 = .ok (.iconst 0, 1) := by decide +kernel
theorem dX1_split_55 : decode cX1_split 55 = .ok (.invokevirtual 44, 3) := by decide +kernel
theorem dX1_split_58 : decode cX1_split 58 = .ok (.goto 64, 3) := by decide +kernel
theorem dX1_split_61 : decode cX1_split 61 = .ok (.aload_n 0, 1) := by decide +kernel
theorem dX1_split_62 : decode cX1_split 62 = .ok (.getfield 9, 3) := by decide +kernel
theorem dX1_split_65 : decode cX1_split 65 = .ok (.iload_n 1, 1) := by decide +kernel
theorem dX1_split_66 : decode cX1_split 66 = .ok (.baload, 1) := by decide +kernel
theorem dX1_split_67 : decode cX1_split 67 = .ok (.invokestatic 48, 3) := by decide +kernel
theorem dX1_split_70 : decode cX1_split 70 = .ok (.ifCond .eq 25, 3) := by decide +kernel
theorem dX1_split_73 : decode cX1_split 73 = .ok (.aload_n 0, 1) := by decide +kernel
theorem dX1_split_74 : decode cX1_split 74 = .ok (.iload_n 3, 1) := by decide +kernel
theorem dX1_split_75 : decode cX1_split 75 = .ok (.invokevirtual 51, 3) := by decide +kernel
theorem dX1_split_78 : decode cX1_split 78 = .ok (.istore_n 3, 1) := by decide +kernel
theorem dX1_split_79 : decode cX1_split 79 = .ok (.aload_n 0, 1) := by decide +kernel
theorem dX1_split_80 : decode cX1_split 80 = .ok (.bipush 12, 2) := by decide +kernel
theorem dX1_split_82 : decode cX1_split 82 = .ok (.iload_n 1, 1) := by decide +kernel
theorem dX1_split_83 : decode cX1_split 83 = .ok (.aload_n 0, 1) := by decide +kernel
theorem dX1_split_84 : decode cX1_split 84 = .ok (.iload_n 1, 1) := by decide +kernel
theorem dX1_split_85 : decode cX1_split 85 = .ok (.iload_n 3, 1) := by decide +kernel
theorem dX1_split_86 : decode cX1_split 86 = .ok (.invokevirtual 54, 3) := by decide +kernel
theorem dX1_split_89 : decode cX1_split 89 = .ok (.invokevirtual 44, 3) := by decide +kernel
theorem dX1_split_92 : decode cX1_split 92 = .ok (.goto 30, 3) := by decide +kernel
theorem dX1_split_95 : decode cX1_split 95 = .ok (.aload_n 0, 1) := by decide +kernel
theorem dX1_split_96 : decode cX1_split 96 = .ok (.getfield 9, 3) := by decide +kernel
theorem dX1_split_99 : decode cX1_split 99 = .ok (.iload_n 1, 1) := by decide +kernel
theorem dX1_split_100 : decode cX1_split 100 = .ok (.baload, 1) := by decide +kernel
theorem dX1_split_101 : decode cX1_split 101 = .ok (.invokestatic 57, 3) := by decide +kernel
theorem dX1_split_104 : decode cX1_split 104 = .ok (.ifCond .ne 18, 3) := by decide +kernel
theorem dX1_split_107 : decode cX1_split 107 = .ok (.aload_n 0, 1) := by decide +kernel
theorem dX1_split_108 : decode cX1_split 108 = .ok (.aload_n 0, 1) := by decide +kernel
theorem dX1_split_109 : decode cX1_split 109 = .ok (.getfield 9, 3) := by decide +kernel
theorem dX1_split_112 : decode cX1_split 112 = .ok (.iload_n 1, 1) := by decide +kernel
theorem dX1_split_113 : decode cX1_split 113 = .ok (.baload, 1) := by decide +kernel
theorem dX1_split_114 : decode cX1_split 114 = .ok (.invokestatic 60, 3) := by decide +kernel
theorem dX1_split_117 : decode cX1_split 117 = .ok (.iload_n 1, 1) := by decide +kernel
theorem dX1_split_118 : decode cX1_split 118 = .ok (.iconst 0, 1) := by decide +kernel
theorem dX1_split_119 : decode cX1_split 119 = .ok (.invokevirtual 44, 3) := by decide +kernel
theorem dX1_split_122 : decode cX1_split 122 = .ok (.iload_n 3, 1) := by decide +kernel
theorem dX1_split_123 : decode cX1_split 123 = .ok (.istore_n 1, 1) := by decide +kernel
theorem dX1_split_124 : decode cX1_split 124 = .ok (.iinc 2 1, 3) := by decide +kernel
theorem dX1_split_127 : decode cX1_split 127 = .ok (.goto (-118), 3) := by decide +kernel
theorem dX1_split_130 : decode cX1_split 130 = .ok (.aload_n 0, 1) := by decide +kernel
theorem dX1_split_131 : decode cX1_split 131 = .ok (.bipush 16, 2) := by decide +kernel
theorem dX1_split_133 : decode cX1_split 133 = .ok (.aload_n 0, 1) := by decide +kernel
theorem dX1_split_134 : decode cX1_split 134 = .ok (.getfield 25, 3) := by decide +kernel
theorem dX1_split_137 : decode cX1_split 137 = .ok (.iconst 0, 1) := by decide +kernel
theorem dX1_split_138 : decode cX1_split 138 = .ok (.invokevirtual 44, 3) := by decide +kernel
theorem dX1_split_141 : decode cX1_split 141 = .ok (.return_, 1) := by decide +kernel

/-- the token of a word, by its letters -/
def wtok (v : Nat) : Nat := if v = 595572 then 0 else if v = 165497 then 1 else if v = 658670745 then 2 else if v = 263748 then 3 else if v = 409031 then 4 else if v = 590949 then 5 else if v = 7945904 then 6 else if v = 408612 then 7 else if v = 99760 then 8 else if v = 19636 then 9 else if v = 536622 then 10 else if v = 1279278 then 11 else 17
def kdV (v : Nat) : Int32 := if wtok v < 6 then nI (wtok v) else -1
section TK
variable {G : mG} {d : Nat} {σ : mS}

theorem v_kindBy {v : Nat} (hv : v < 2 ^ 31) : mV G mX5_kindBy (d + 1) [.int (nI v)] σ (some (.int (kdV v))) σ := by
  refine mV_of fun Q hQ => ?_
  refine F_iload_n dX5_kindBy_0 rfl ?_
  refine F_iconst (v := nI 0) dX5_kindBy_1 rfl ?_
  refine F_iconst (v := nI 0) dX5_kindBy_2 rfl ?_
  refine F_bipush (v := nI 18) dX5_kindBy_3 rfl ?_
  refine F_iconst (v := nI 5) dX5_kindBy_5 rfl ?_
  refine F_bipush (v := nI 19) dX5_kindBy_6 rfl ?_
  refine F_bipush (v := nI 20) dX5_kindBy_8 rfl ?_
  refine F_cS6i (v_letters (d := d) _ _ _ _ _ _) dX5_kindBy_10 rfl rfl rfl (by decide) (Nat.le_of_ble_eq_true rfl) (by omega) ?_
  refine F_icmp_neN (tgt := 18) dX5_kindBy_13 rfl (by omega) (by omega) (fun c13 => ?_) (fun c13 => ?_)
  · refine F_iload_n dX5_kindBy_18 rfl ?_
    refine F_iconst (v := nI 0) dX5_kindBy_19 rfl ?_
    refine F_iconst (v := nI 0) dX5_kindBy_20 rfl ?_
    refine F_iconst (v := nI 5) dX5_kindBy_21 rfl ?_
    refine F_iconst (v := nI 1) dX5_kindBy_22 rfl ?_
    refine F_bipush (v := nI 19) dX5_kindBy_23 rfl ?_
    refine F_bipush (v := nI 25) dX5_kindBy_25 rfl ?_
    refine F_cS6i (v_letters (d := d) _ _ _ _ _ _) dX5_kindBy_27 rfl rfl rfl (by decide) (Nat.le_of_ble_eq_true rfl) (by omega) ?_
    refine F_icmp_neN (tgt := 35) dX5_kindBy_30 rfl (by omega) (by omega) (fun c30 => ?_) (fun c30 => ?_)
    · refine F_iload_n dX5_kindBy_35 rfl ?_
      refine F_bipush (v := nI 19) dX5_kindBy_36 rfl ?_
      refine F_bipush (v := nI 20) dX5_kindBy_38 rfl ?_
      refine F_iconst (v := nI 5) dX5_kindBy_40 rfl ?_
      refine F_iconst (v := nI 1) dX5_kindBy_41 rfl ?_
      refine F_iconst (v := nI 4) dX5_kindBy_42 rfl ?_
      refine F_bipush (v := nI 25) dX5_kindBy_43 rfl ?_
      refine F_cS6i (v_letters (d := d) _ _ _ _ _ _) dX5_kindBy_45 rfl rfl rfl (by decide) (Nat.le_of_ble_eq_true rfl) (by omega) ?_
      refine F_icmp_neN (tgt := 53) dX5_kindBy_48 rfl (by omega) (by omega) (fun c48 => ?_) (fun c48 => ?_)
      · refine F_iload_n dX5_kindBy_53 rfl ?_
        refine F_iconst (v := nI 0) dX5_kindBy_54 rfl ?_
        refine F_iconst (v := nI 0) dX5_kindBy_55 rfl ?_
        refine F_bipush (v := nI 8) dX5_kindBy_56 rfl ?_
        refine F_iconst (v := nI 1) dX5_kindBy_58 rfl ?_
        refine F_bipush (v := nI 18) dX5_kindBy_59 rfl ?_
        refine F_iconst (v := nI 4) dX5_kindBy_61 rfl ?_
        refine F_cS6i (v_letters (d := d) _ _ _ _ _ _) dX5_kindBy_62 rfl rfl rfl (by decide) (Nat.le_of_ble_eq_true rfl) (by omega) ?_
        refine F_icmp_neN (tgt := 70) dX5_kindBy_65 rfl (by omega) (by omega) (fun c65 => ?_) (fun c65 => ?_)
        · refine F_iload_n dX5_kindBy_70 rfl ?_
          refine F_iconst (v := nI 0) dX5_kindBy_71 rfl ?_
          refine F_iconst (v := nI 0) dX5_kindBy_72 rfl ?_
          refine F_bipush (v := nI 12) dX5_kindBy_73 rfl ?_
          refine F_bipush (v := nI 15) dX5_kindBy_75 rfl ?_
          refine F_bipush (v := nI 14) dX5_kindBy_77 rfl ?_
          refine F_bipush (v := nI 7) dX5_kindBy_79 rfl ?_
          refine F_cS6i (v_letters (d := d) _ _ _ _ _ _) dX5_kindBy_81 rfl rfl rfl (by decide) (Nat.le_of_ble_eq_true rfl) (by omega) ?_
          refine F_icmp_neN (tgt := 89) dX5_kindBy_84 rfl (by omega) (by omega) (fun c84 => ?_) (fun c84 => ?_)
          · refine F_iload_n dX5_kindBy_89 rfl ?_
            refine F_iconst (v := nI 0) dX5_kindBy_90 rfl ?_
            refine F_iconst (v := nI 0) dX5_kindBy_91 rfl ?_
            refine F_bipush (v := nI 18) dX5_kindBy_92 rfl ?_
            refine F_iconst (v := nI 1) dX5_kindBy_94 rfl ?_
            refine F_iconst (v := nI 3) dX5_kindBy_95 rfl ?_
            refine F_iconst (v := nI 5) dX5_kindBy_96 rfl ?_
            refine F_cS6i (v_letters (d := d) _ _ _ _ _ _) dX5_kindBy_97 rfl rfl rfl (by decide) (Nat.le_of_ble_eq_true rfl) (by omega) ?_
            refine F_icmp_neN (tgt := 107) dX5_kindBy_100 rfl (by omega) (by omega) (fun c100 => ?_) (fun c100 => ?_)
            · refine F_iconst (v := (-1)) dX5_kindBy_107 rfl ?_
              refine F_iret dX5_kindBy_108 rfl ?_
              first
                | (have e5 : v = 590949 := Decidable.not_not.mp c100
                   subst e5
                   exact hQ)
                | (have n0 : ¬ v = 595572 := c13
                   have n1 : ¬ v = 165497 := c30
                   have n2 : ¬ v = 658670745 := c48
                   have n3 : ¬ v = 263748 := c65
                   have n4 : ¬ v = 409031 := c84
                   have n5 : ¬ v = 590949 := c100
                   have e6 : ¬ wtok v < 6 := by
                     unfold wtok
                     rw [if_neg n0, if_neg n1, if_neg n2, if_neg n3, if_neg n4, if_neg n5]
                     (repeat' split) <;> decide
                   have e7 : kdV v = -1 := if_neg e6
                   rw [e7] at hQ
                   exact hQ)
            · refine F_iconst (v := nI 5) dX5_kindBy_103 rfl ?_
              refine F_goto (tgt := 108) dX5_kindBy_104 rfl ?_
              refine F_iret dX5_kindBy_108 rfl ?_
              first
                | (have e5 : v = 590949 := Decidable.not_not.mp c100
                   subst e5
                   exact hQ)
                | (have n0 : ¬ v = 595572 := c13
                   have n1 : ¬ v = 165497 := c30
                   have n2 : ¬ v = 658670745 := c48
                   have n3 : ¬ v = 263748 := c65
                   have n4 : ¬ v = 409031 := c84
                   have n5 : ¬ v = 590949 := c100
                   have e6 : ¬ wtok v < 6 := by
                     unfold wtok
                     rw [if_neg n0, if_neg n1, if_neg n2, if_neg n3, if_neg n4, if_neg n5]
                     (repeat' split) <;> decide
                   have e7 : kdV v = -1 := if_neg e6
                   rw [e7] at hQ
                   exact hQ)
          · refine F_iconst (v := nI 4) dX5_kindBy_87 rfl ?_
            refine F_iret dX5_kindBy_88 rfl ?_
            have e4 : v = 409031 := Decidable.not_not.mp c84
            subst e4
            exact hQ
        · refine F_iconst (v := nI 3) dX5_kindBy_68 rfl ?_
          refine F_iret dX5_kindBy_69 rfl ?_
          have e3 : v = 263748 := Decidable.not_not.mp c65
          subst e3
          exact hQ
      · refine F_iconst (v := nI 2) dX5_kindBy_51 rfl ?_
        refine F_iret dX5_kindBy_52 rfl ?_
        have e2 : v = 658670745 := Decidable.not_not.mp c48
        subst e2
        exact hQ
    · refine F_iconst (v := nI 1) dX5_kindBy_33 rfl ?_
      refine F_iret dX5_kindBy_34 rfl ?_
      have e1 : v = 165497 := Decidable.not_not.mp c30
      subst e1
      exact hQ
  · refine F_iconst (v := nI 0) dX5_kindBy_16 rfl ?_
    refine F_iret dX5_kindBy_17 rfl ?_
    have e0 : v = 595572 := Decidable.not_not.mp c13
    subst e0
    exact hQ

theorem wv_lt (b : Nat → Int32) (p : Nat) : ∀ m, (∀ k, k < m → isLt (b (p + k)) = true) → wv b p m < 32 ^ min m 6 := by
  intro m
  induction m with
  | zero => intro _; exact Nat.one_pos
  | succ m ih =>
    intro h
    by_cases h6 : m < 6
    · obtain ⟨t, t1, t2, et, ed⟩ := lt_n (h m (by omega))
      have := ih (fun k hk => h k (by omega))
      rw [wv_s _ _ h6, ed, show min (m + 1) 6 = min m 6 + 1 by omega, Nat.pow_succ]
      omega
    · rw [wv_big _ _ (by omega)]
      exact Nat.pow_pos (by decide)
theorem wv_lt2 (b : Nat → Int32) (p m : Nat) (h : ∀ k, k < m → isLt (b (p + k)) = true) : wv b p m < 2 ^ 31 := by
  have h1 := wv_lt b p m h
  have h2 : 32 ^ min m 6 ≤ 32 ^ 6 := Nat.pow_le_pow_right (by decide) (by omega)
  omega
/-- the token that begins at p, its number, its end, the next one's place -/
def tkn (b : Nat → Int32) (L p : Nat) : Nat := if p < L then (if isLt (b p) = true then wtok (wv b p (rn isLt b L p - p)) else if isDg (b p) = true then 12 else sgn (b p)) else 16
def tkv (b : Nat → Int32) (L p : Nat) : Nat := if p < L ∧ isDg (b p) = true then nv b p (rn isDg b L p - p) else 0
def ten (b : Nat → Int32) (L p : Nat) : Nat := if isLt (b p) = true then rn isLt b L p else if isDg (b p) = true then rn isDg b L p else p + 1
def nxt (b : Nat → Int32) (L p : Nat) : Nat := rn isBl b L (ten b L p)
def tps (b : Nat → Int32) (L : Nat) : Nat → Nat
  | 0 => rn isBl b L 0
  | i + 1 => if tps b L i < L then nxt b L (tps b L i) else tps b L i
theorem ten_gt {b : Nat → Int32} {L p : Nat} (h : p < L) : p < ten b L p ∧ ten b L p ≤ L := by
  unfold ten
  split
  · rename_i hp
    rw [rn_t h hp]
    exact ⟨by have := rn_ge (P := isLt) (b := b) (L := L) (a := p + 1); omega, rn_le (by omega)⟩
  · split
    · rename_i hp
      rw [rn_t h hp]
      exact ⟨by have := rn_ge (P := isDg) (b := b) (L := L) (a := p + 1); omega, rn_le (by omega)⟩
    · omega
theorem nxt_gt {b : Nat → Int32} {L p : Nat} (h : p < L) : p < nxt b L p ∧ nxt b L p ≤ L := by
  have h1 := ten_gt (b := b) h
  have h2 := rn_ge (P := isBl) (b := b) (L := L) (a := ten b L p)
  exact ⟨by unfold nxt; omega, rn_le h1.2⟩
theorem tps_le (b : Nat → Int32) (L : Nat) : ∀ i, tps b L i ≤ L := by
  intro i
  induction i with
  | zero => exact rn_le (Nat.zero_le L)
  | succ i ih =>
    simp only [tps]
    split
    · rename_i h; exact (nxt_gt h).2
    · exact ih
theorem lt_bl {v : Int32} (h : isLt v = true) : isBl v = false := by
  obtain ⟨t, t1, t2, et, -⟩ := lt_n h
  simp only [isBl, et, Bool.or_eq_false_iff, decide_eq_false_iff_not]
  exact ⟨fun z => by rw [nI_eq_iff (by omega) (by omega)] at z; omega, fun z => by rw [nI_eq_iff (by omega) (by omega)] at z; omega⟩
theorem dg_bl {v : Int32} (h : isDg v = true) : isBl v = false := by
  obtain ⟨t, t1, t2, et, -⟩ := dg_n h
  simp only [isBl, et, Bool.or_eq_false_iff, decide_eq_false_iff_not]
  exact ⟨fun z => by rw [nI_eq_iff (by omega) (by omega)] at z; omega, fun z => by rw [nI_eq_iff (by omega) (by omega)] at z; omega⟩
/-- what is noted of the first s tokens -/
def TK (τ : mS) (b : Nat → Int32) (L s : Nat) : Prop := ∀ i, i < s → τ 16 i = nI (tkn b L (tps b L i)) ∧ τ 17 i = nI (tps b L i) ∧ τ 18 i = nI (tkv b L (tps b L i))
def wordOk (G : mG) : Prop := ∀ (d : Nat) (σ : mS) (a e : Nat), 4 ≤ d → a < e → e ≤ 400 → (∀ k, a ≤ k → k < e → isLt (σ 15 k) = true) → mV G mX1_wordAt (d + 2) [.ref 14, .int (nI a), .int (nI e)] σ (some (.int (nI (wtok (wv (σ 15) a (e - a)))))) σ
theorem TK.note {τ : mS} {b : Nat → Int32} {L s : Nat} (h : TK τ b L s) : TK (up (up (up (up τ 16 s (nI (tkn b L (tps b L s)))) 17 s (nI (tps b L s))) 18 s (nI (tkv b L (tps b L s)))) 14 5 (nI (s + 1))) b L (s + 1) := by
  intro i hi
  show upd (τ 16) s _ i = _ ∧ upd (τ 17) s _ i = _ ∧ upd (τ 18) s _ i = _
  by_cases e : i = s
  · subst e; simp [upd]
  · simp only [upd, if_neg e]; exact h i (by omega)

theorem l_split (hW : wordOk G) (hd4 : 4 ≤ d) {L : Nat} (hL : σ 14 1 = nI L) (h4 : L ≤ 400) : ∀ q a n s τ l3, a + q = L → n ≤ a → s ≤ a → τ 14 5 = nI s → TK τ (σ 15) L s → tps (σ 15) L s = rn isBl (σ 15) L a → (∀ i, i < s → tps (σ 15) L i < L) → (∀ z, z ≠ 14 → z < 16 ∨ 18 < z → τ z = σ z) → (∀ z, z ≠ 5 → τ 14 z = σ 14 z) → ∃ υ s2, (∀ Q : Option Value → mS → Prop, Q none υ → mF G mX1_split (d + 3) 9 [some (.ref 14), some (.int (nI a)), some (.int (nI n)), l3] [] τ Q) ∧ υ 14 5 = nI (s2 + 1) ∧ s2 ≤ 400 ∧ TK υ (σ 15) L (s2 + 1) ∧ tps (σ 15) L s2 = L ∧ (∀ i, i < s2 → tps (σ 15) L i < L) ∧ (∀ z, z ≠ 14 → z < 16 ∨ 18 < z → υ z = σ z) ∧ (∀ z, z ≠ 5 → υ 14 z = σ 14 z) := by
  intro q
  induction q using Nat.strongRecOn with
  | ind q ih =>
    intro a n s τ l3 ha hn hs h5 hT hp hlt hz hz2
    have h15 : τ 15 = σ 15 := hz 15 (by omega) (by omega)
    have h1 : τ 14 1 = nI L := (hz2 1 (by omega)).trans hL
    by_cases hq : q = 0
    · have e1 : a = L := by omega
      subst e1
      rw [rn_end (Nat.le_refl a)] at hp
      have hT2 := hT.note
      rw [hp] at hT2
      have t16 : tkn (σ 15) a a = 16 := if_neg (Nat.lt_irrefl a)
      have t0 : tkv (σ 15) a a = 0 := if_neg (fun z => Nat.lt_irrefl a z.1)
      rw [t16, t0] at hT2
      refine ⟨_, s, fun Q hQ => ?_, rfl, by omega, hT2, hp, hlt, fun z z1 z2 => by rw [up_n _ _ _ z1, up_n _ _ _ (by omega), up_n _ _ _ (by omega), up_n _ _ _ (by omega)]; exact hz z z1 z2, fun z z1 => by rw [up_r _ _ _ z1, up_n _ _ _ (by omega), up_n _ _ _ (by omega), up_n _ _ _ (by omega)]; exact hz2 z z1⟩
      refine F_iload_n dX1_split_9 rfl ?_
      refine F_sipush (v := nI 400) dX1_split_10 rfl ?_
      refine F_icmp_geN (tgt := 130) dX1_split_13 rfl (by omega) (by omega) (fun c13 => ?_) (fun c13 => ?_)
      · refine F_aload_n dX1_split_130 rfl ?_
        refine F_bipush (v := nI 16) dX1_split_131 rfl ?_
        refine F_aload_n dX1_split_133 rfl ?_
        refine F_getE (v := nI a) dX1_split_134 rfl rfl rfl rfl h1 ?_
        refine F_iconst (v := nI 0) dX1_split_137 rfl ?_
        refine F_cV3v (v_note (d := d) _ _ _ h5 (by omega)) dX1_split_138 rfl rfl (by decide) rfl rfl rfl rfl (by decide) (Nat.le_of_ble_eq_true rfl) (by omega) ?_
        refine F_vret dX1_split_141 rfl ?_
        exact hQ
      · refine F_iload_n dX1_split_16 rfl ?_
        refine F_aload_n dX1_split_17 rfl ?_
        refine F_getE (v := nI a) dX1_split_18 rfl rfl rfl rfl h1 ?_
        refine F_icmp_geN (tgt := 130) dX1_split_21 rfl (by omega) (by omega) (fun c21 => ?_) (fun c21 => ?_)
        · refine F_aload_n dX1_split_130 rfl ?_
          refine F_bipush (v := nI 16) dX1_split_131 rfl ?_
          refine F_aload_n dX1_split_133 rfl ?_
          refine F_getE (v := nI a) dX1_split_134 rfl rfl rfl rfl h1 ?_
          refine F_iconst (v := nI 0) dX1_split_137 rfl ?_
          refine F_cV3v (v_note (d := d) _ _ _ h5 (by omega)) dX1_split_138 rfl rfl (by decide) rfl rfl rfl rfl (by decide) (Nat.le_of_ble_eq_true rfl) (by omega) ?_
          refine F_vret dX1_split_141 rfl ?_
          exact hQ
        · exact absurd c21 (by omega)
    · have haL : a < L := by omega
      have hg := ten_gt (b := σ 15) haL
      by_cases hl : isLt (σ 15 a) = true
      · have hb := lt_bl hl
        rw [rn_f hb] at hp
        have eE : ten (σ 15) L a = rn isLt (σ 15) L a := if_pos hl
        have eT : tkn (σ 15) L a = wtok (wv (σ 15) a (rn isLt (σ 15) L a - a)) := by unfold tkn; rw [if_pos haL, if_pos hl]
        have hnd : isDg (σ 15 a) = false := by
          obtain ⟨t, t1, t2, et, -⟩ := lt_n hl
          rw [et]
          simp only [isDg]
          rw [inR_nI (by decide) (by decide) (by omega), decide_eq_false (show ¬ t ≤ 57 by omega), Bool.and_false]
        have eV : tkv (σ 15) L a = 0 := if_neg (fun z => by rw [hnd] at z; cases z.2)
        have hT2 := hT.note
        rw [hp, eT, eV] at hT2
        rw [eE] at hg
        have hpn : tps (σ 15) L (s + 1) = rn isBl (σ 15) L (rn isLt (σ 15) L a) := by
          show (if tps (σ 15) L s < L then nxt (σ 15) L (tps (σ 15) L s) else _) = _
          rw [hp, if_pos haL]
          unfold nxt
          rw [eE]
        obtain ⟨υ, s2, k1, k2⟩ := ih (L - rn isLt (σ 15) L a) (by omega) (rn isLt (σ 15) L a) (n + 1) (s + 1) (up (up (up (up τ 16 s (nI (wtok (wv (σ 15) a (rn isLt (σ 15) L a - a))))) 17 s (nI a)) 18 s (nI 0)) 14 5 (nI (s + 1))) (some (.int (nI (rn isLt (σ 15) L a)))) (by omega) (by omega) (by omega) rfl hT2 hpn (fun i hi => by
          by_cases e : i = s
          · subst e; rw [hp]; exact haL
          · exact hlt i (by omega)) (fun z z1 z2 => by rw [up_n _ _ _ z1, up_n _ _ _ (by omega), up_n _ _ _ (by omega), up_n _ _ _ (by omega)]; exact hz z z1 z2) (fun z z1 => by rw [up_r _ _ _ z1, up_n _ _ _ (by omega), up_n _ _ _ (by omega), up_n _ _ _ (by omega)]; exact hz2 z z1)
        refine ⟨υ, s2, fun Q hQ => ?_, k2⟩
        have k1 := k1 Q hQ
        have hE := v_endOfWord (G := G) (d := d) (σ := τ) h1 h4 (a := a + 1) (by omega)
        rw [h15, ← rn_t haL hl] at hE
        have hWd := hW d τ a (rn isLt (σ 15) L a) hd4 hg.1 (by omega) (fun k k1 k2 => by rw [h15]; exact rn_in k1 k2)
        rw [h15] at hWd
        refine F_iload_n dX1_split_9 rfl ?_
        refine F_sipush (v := nI 400) dX1_split_10 rfl ?_
        refine F_icmp_geN (tgt := 130) dX1_split_13 rfl (by omega) (by omega) (fun c13 => ?_) (fun c13 => ?_)
        · exact absurd c13 (by omega)
        · refine F_iload_n dX1_split_16 rfl ?_
          refine F_aload_n dX1_split_17 rfl ?_
          refine F_getE (v := nI L) dX1_split_18 rfl rfl rfl rfl h1 ?_
          refine F_icmp_geN (tgt := 130) dX1_split_21 rfl (by omega) (by omega) (fun c21 => ?_) (fun c21 => ?_)
          · exact absurd c21 (by omega)
          · refine F_iload_n dX1_split_24 rfl ?_
            refine F_iconst (v := nI 1) dX1_split_25 rfl ?_
            refine F_iaddN dX1_split_26 ?_
            refine F_istore_n dX1_split_27 (Nat.le_of_ble_eq_true rfl) ?_
            refine F_aload_n dX1_split_28 rfl ?_
            refine F_getr dX1_split_29 rfl rfl rfl rfl ?_
            refine F_iload_n dX1_split_32 rfl ?_
            refine F_baldE (v := σ 15 a) dX1_split_33 rfl (by decide) (by omega) (by rw [h15]) ?_
            refine F_cS1i (v_isLetter (d := d) _) dX1_split_34 rfl rfl rfl (by decide) (Nat.le_of_ble_eq_true rfl) (by omega) ?_
            refine F_if_eqB (tgt := 61) dX1_split_37 rfl (fun c37 => ?_) (fun c37 => ?_)
            · rw [hl] at c37
              cases c37
            · refine F_aload_n dX1_split_40 rfl ?_
              refine F_iload_n dX1_split_41 rfl ?_
              refine F_cV1i (hE) dX1_split_42 rfl rfl (by decide) rfl rfl rfl rfl (by decide) (Nat.le_of_ble_eq_true rfl) (by omega) ?_
              refine F_istore_n dX1_split_45 (Nat.le_of_ble_eq_true rfl) ?_
              refine F_aload_n dX1_split_46 rfl ?_
              refine F_aload_n dX1_split_47 rfl ?_
              refine F_iload_n dX1_split_48 rfl ?_
              refine F_iload_n dX1_split_49 rfl ?_
              refine F_cV2i (hWd) dX1_split_50 rfl rfl (by decide) rfl rfl rfl rfl (by decide) (Nat.le_of_ble_eq_true rfl) (by omega) ?_
              refine F_iload_n dX1_split_53 rfl ?_
              refine F_iconst (v := nI 0) dX1_split_54 rfl ?_
              refine F_cV3v (v_note (d := d) _ _ _ h5 (by omega)) dX1_split_55 rfl rfl (by decide) rfl rfl rfl rfl (by decide) (Nat.le_of_ble_eq_true rfl) (by omega) ?_
              refine F_goto (tgt := 122) dX1_split_58 rfl ?_
              refine F_iload_n dX1_split_122 rfl ?_
              refine F_istore_n dX1_split_123 (Nat.le_of_ble_eq_true rfl) ?_
              refine F_iincN dX1_split_124 rfl ?_
              refine F_goto (tgt := 9) dX1_split_127 rfl ?_
              exact k1
      · have hl := Bool.not_eq_true _ ▸ hl
        by_cases hd : isDg (σ 15 a) = true
        · have hb := dg_bl hd
          rw [rn_f hb] at hp
          have eE : ten (σ 15) L a = rn isDg (σ 15) L a := by unfold ten; rw [if_neg (by rw [hl]; decide), if_pos hd]
          have eT : tkn (σ 15) L a = 12 := by unfold tkn; rw [if_pos haL, if_neg (by rw [hl]; decide), if_pos hd]
          have eV : tkv (σ 15) L a = nv (σ 15) a (rn isDg (σ 15) L a - a) := if_pos ⟨haL, hd⟩
          have hT2 := hT.note
          rw [hp, eT, eV] at hT2
          rw [eE] at hg
          have hpn : tps (σ 15) L (s + 1) = rn isBl (σ 15) L (rn isDg (σ 15) L a) := by
            show (if tps (σ 15) L s < L then nxt (σ 15) L (tps (σ 15) L s) else _) = _
            rw [hp, if_pos haL]
            unfold nxt
            rw [eE]
          obtain ⟨υ, s2, k1, k2⟩ := ih (L - rn isDg (σ 15) L a) (by omega) (rn isDg (σ 15) L a) (n + 1) (s + 1) (up (up (up (up τ 16 s (nI 12)) 17 s (nI a)) 18 s (nI (nv (σ 15) a (rn isDg (σ 15) L a - a)))) 14 5 (nI (s + 1))) (some (.int (nI (rn isDg (σ 15) L a)))) (by omega) (by omega) (by omega) rfl hT2 hpn (fun i hi => by
            by_cases e : i = s
            · subst e; rw [hp]; exact haL
            · exact hlt i (by omega)) (fun z z1 z2 => by rw [up_n _ _ _ z1, up_n _ _ _ (by omega), up_n _ _ _ (by omega), up_n _ _ _ (by omega)]; exact hz z z1 z2) (fun z z1 => by rw [up_r _ _ _ z1, up_n _ _ _ (by omega), up_n _ _ _ (by omega), up_n _ _ _ (by omega)]; exact hz2 z z1)
          refine ⟨υ, s2, fun Q hQ => ?_, k2⟩
          have k1 := k1 Q hQ
          have hE := v_endOfInt (G := G) (d := d) (σ := τ) h1 h4 (a := a + 1) (by omega)
          rw [h15, ← rn_t haL hd] at hE
          have hNm := v_numberAt (G := G) (d := d) (σ := τ) (a := a) (e := rn isDg (σ 15) L a) (by omega) (by omega) (fun k k1 k2 => by rw [h15]; exact rn_in k1 k2)
          rw [h15] at hNm
          refine F_iload_n dX1_split_9 rfl ?_
          refine F_sipush (v := nI 400) dX1_split_10 rfl ?_
          refine F_icmp_geN (tgt := 130) dX1_split_13 rfl (by omega) (by omega) (fun c13 => ?_) (fun c13 => ?_)
          · exact absurd c13 (by omega)
          · refine F_iload_n dX1_split_16 rfl ?_
            refine F_aload_n dX1_split_17 rfl ?_
            refine F_getE (v := nI L) dX1_split_18 rfl rfl rfl rfl h1 ?_
            refine F_icmp_geN (tgt := 130) dX1_split_21 rfl (by omega) (by omega) (fun c21 => ?_) (fun c21 => ?_)
            · exact absurd c21 (by omega)
            · refine F_iload_n dX1_split_24 rfl ?_
              refine F_iconst (v := nI 1) dX1_split_25 rfl ?_
              refine F_iaddN dX1_split_26 ?_
              refine F_istore_n dX1_split_27 (Nat.le_of_ble_eq_true rfl) ?_
              refine F_aload_n dX1_split_28 rfl ?_
              refine F_getr dX1_split_29 rfl rfl rfl rfl ?_
              refine F_iload_n dX1_split_32 rfl ?_
              refine F_baldE (v := σ 15 a) dX1_split_33 rfl (by decide) (by omega) (by rw [h15]) ?_
              refine F_cS1i (v_isLetter (d := d) _) dX1_split_34 rfl rfl rfl (by decide) (Nat.le_of_ble_eq_true rfl) (by omega) ?_
              refine F_if_eqB (tgt := 61) dX1_split_37 rfl (fun c37 => ?_) (fun c37 => ?_)
              · refine F_aload_n dX1_split_61 rfl ?_
                refine F_getr dX1_split_62 rfl rfl rfl rfl ?_
                refine F_iload_n dX1_split_65 rfl ?_
                refine F_baldE (v := σ 15 a) dX1_split_66 rfl (by decide) (by omega) (by rw [h15]) ?_
                refine F_cS1i (v_isDigit (d := d) _) dX1_split_67 rfl rfl rfl (by decide) (Nat.le_of_ble_eq_true rfl) (by omega) ?_
                refine F_if_eqB (tgt := 95) dX1_split_70 rfl (fun c70 => ?_) (fun c70 => ?_)
                · rw [hd] at c70
                  cases c70
                · refine F_aload_n dX1_split_73 rfl ?_
                  refine F_iload_n dX1_split_74 rfl ?_
                  refine F_cV1i (hE) dX1_split_75 rfl rfl (by decide) rfl rfl rfl rfl (by decide) (Nat.le_of_ble_eq_true rfl) (by omega) ?_
                  refine F_istore_n dX1_split_78 (Nat.le_of_ble_eq_true rfl) ?_
                  refine F_aload_n dX1_split_79 rfl ?_
                  refine F_bipush (v := nI 12) dX1_split_80 rfl ?_
                  refine F_iload_n dX1_split_82 rfl ?_
                  refine F_aload_n dX1_split_83 rfl ?_
                  refine F_iload_n dX1_split_84 rfl ?_
                  refine F_iload_n dX1_split_85 rfl ?_
                  refine F_cV2i (hNm) dX1_split_86 rfl rfl (by decide) rfl rfl rfl rfl (by decide) (Nat.le_of_ble_eq_true rfl) (by omega) ?_
                  refine F_cV3v (v_note (d := d) _ _ _ h5 (by omega)) dX1_split_89 rfl rfl (by decide) rfl rfl rfl rfl (by decide) (Nat.le_of_ble_eq_true rfl) (by omega) ?_
                  refine F_goto (tgt := 122) dX1_split_92 rfl ?_
                  refine F_iload_n dX1_split_122 rfl ?_
                  refine F_istore_n dX1_split_123 (Nat.le_of_ble_eq_true rfl) ?_
                  refine F_iincN dX1_split_124 rfl ?_
                  refine F_goto (tgt := 9) dX1_split_127 rfl ?_
                  exact k1
              · rw [hl] at c37
                cases c37
        · have hd := Bool.not_eq_true _ ▸ hd
          by_cases hb : isBl (σ 15 a) = true
          · rw [rn_t haL hb] at hp
            obtain ⟨υ, s2, k1, k2⟩ := ih (L - (a + 1)) (by omega) (a + 1) (n + 1) s τ (some (.int (nI (a + 1)))) (by omega) (by omega) (by omega) h5 hT hp hlt hz hz2
            refine ⟨υ, s2, fun Q hQ => ?_, k2⟩
            have k1 := k1 Q hQ
            refine F_iload_n dX1_split_9 rfl ?_
            refine F_sipush (v := nI 400) dX1_split_10 rfl ?_
            refine F_icmp_geN (tgt := 130) dX1_split_13 rfl (by omega) (by omega) (fun c13 => ?_) (fun c13 => ?_)
            · exact absurd c13 (by omega)
            · refine F_iload_n dX1_split_16 rfl ?_
              refine F_aload_n dX1_split_17 rfl ?_
              refine F_getE (v := nI L) dX1_split_18 rfl rfl rfl rfl h1 ?_
              refine F_icmp_geN (tgt := 130) dX1_split_21 rfl (by omega) (by omega) (fun c21 => ?_) (fun c21 => ?_)
              · exact absurd c21 (by omega)
              · refine F_iload_n dX1_split_24 rfl ?_
                refine F_iconst (v := nI 1) dX1_split_25 rfl ?_
                refine F_iaddN dX1_split_26 ?_
                refine F_istore_n dX1_split_27 (Nat.le_of_ble_eq_true rfl) ?_
                refine F_aload_n dX1_split_28 rfl ?_
                refine F_getr dX1_split_29 rfl rfl rfl rfl ?_
                refine F_iload_n dX1_split_32 rfl ?_
                refine F_baldE (v := σ 15 a) dX1_split_33 rfl (by decide) (by omega) (by rw [h15]) ?_
                refine F_cS1i (v_isLetter (d := d) _) dX1_split_34 rfl rfl rfl (by decide) (Nat.le_of_ble_eq_true rfl) (by omega) ?_
                refine F_if_eqB (tgt := 61) dX1_split_37 rfl (fun c37 => ?_) (fun c37 => ?_)
                · refine F_aload_n dX1_split_61 rfl ?_
                  refine F_getr dX1_split_62 rfl rfl rfl rfl ?_
                  refine F_iload_n dX1_split_65 rfl ?_
                  refine F_baldE (v := σ 15 a) dX1_split_66 rfl (by decide) (by omega) (by rw [h15]) ?_
                  refine F_cS1i (v_isDigit (d := d) _) dX1_split_67 rfl rfl rfl (by decide) (Nat.le_of_ble_eq_true rfl) (by omega) ?_
                  refine F_if_eqB (tgt := 95) dX1_split_70 rfl (fun c70 => ?_) (fun c70 => ?_)
                  · refine F_aload_n dX1_split_95 rfl ?_
                    refine F_getr dX1_split_96 rfl rfl rfl rfl ?_
                    refine F_iload_n dX1_split_99 rfl ?_
                    refine F_baldE (v := σ 15 a) dX1_split_100 rfl (by decide) (by omega) (by rw [h15]) ?_
                    refine F_cS1i (v_isBlank (d := d) _) dX1_split_101 rfl rfl rfl (by decide) (Nat.le_of_ble_eq_true rfl) (by omega) ?_
                    refine F_if_neB (tgt := 122) dX1_split_104 rfl (fun c104 => ?_) (fun c104 => ?_)
                    · refine F_iload_n dX1_split_122 rfl ?_
                      refine F_istore_n dX1_split_123 (Nat.le_of_ble_eq_true rfl) ?_
                      refine F_iincN dX1_split_124 rfl ?_
                      refine F_goto (tgt := 9) dX1_split_127 rfl ?_
                      exact k1
                    · rw [hb] at c104
                      cases c104
                  · rw [hd] at c70
                    cases c70
                · rw [hl] at c37
                  cases c37
          · have hb := Bool.not_eq_true _ ▸ hb
            rw [rn_f hb] at hp
            have eE : ten (σ 15) L a = a + 1 := by unfold ten; rw [if_neg (by rw [hl]; decide), if_neg (by rw [hd]; decide)]
            have eT : tkn (σ 15) L a = sgn (σ 15 a) := by unfold tkn; rw [if_pos haL, if_neg (by rw [hl]; decide), if_neg (by rw [hd]; decide)]
            have eV : tkv (σ 15) L a = 0 := if_neg (fun z => by rw [hd] at z; cases z.2)
            have hT2 := hT.note
            rw [hp, eT, eV] at hT2
            have hpn : tps (σ 15) L (s + 1) = rn isBl (σ 15) L (a + 1) := by
              show (if tps (σ 15) L s < L then nxt (σ 15) L (tps (σ 15) L s) else _) = _
              rw [hp, if_pos haL]
              unfold nxt
              rw [eE]
            obtain ⟨υ, s2, k1, k2⟩ := ih (L - (a + 1)) (by omega) (a + 1) (n + 1) (s + 1) (up (up (up (up τ 16 s (nI (sgn (σ 15 a)))) 17 s (nI a)) 18 s (nI 0)) 14 5 (nI (s + 1))) (some (.int (nI (a + 1)))) (by omega) (by omega) (by omega) rfl hT2 hpn (fun i hi => by
              by_cases e : i = s
              · subst e; rw [hp]; exact haL
              · exact hlt i (by omega)) (fun z z1 z2 => by rw [up_n _ _ _ z1, up_n _ _ _ (by omega), up_n _ _ _ (by omega), up_n _ _ _ (by omega)]; exact hz z z1 z2) (fun z z1 => by rw [up_r _ _ _ z1, up_n _ _ _ (by omega), up_n _ _ _ (by omega), up_n _ _ _ (by omega)]; exact hz2 z z1)
            refine ⟨υ, s2, fun Q hQ => ?_, k2⟩
            have k1 := k1 Q hQ
            refine F_iload_n dX1_split_9 rfl ?_
            refine F_sipush (v := nI 400) dX1_split_10 rfl ?_
            refine F_icmp_geN (tgt := 130) dX1_split_13 rfl (by omega) (by omega) (fun c13 => ?_) (fun c13 => ?_)
            · exact absurd c13 (by omega)
            · refine F_iload_n dX1_split_16 rfl ?_
              refine F_aload_n dX1_split_17 rfl ?_
              refine F_getE (v := nI L) dX1_split_18 rfl rfl rfl rfl h1 ?_
              refine F_icmp_geN (tgt := 130) dX1_split_21 rfl (by omega) (by omega) (fun c21 => ?_) (fun c21 => ?_)
              · exact absurd c21 (by omega)
              · refine F_iload_n dX1_split_24 rfl ?_
                refine F_iconst (v := nI 1) dX1_split_25 rfl ?_
                refine F_iaddN dX1_split_26 ?_
                refine F_istore_n dX1_split_27 (Nat.le_of_ble_eq_true rfl) ?_
                refine F_aload_n dX1_split_28 rfl ?_
                refine F_getr dX1_split_29 rfl rfl rfl rfl ?_
                refine F_iload_n dX1_split_32 rfl ?_
                refine F_baldE (v := σ 15 a) dX1_split_33 rfl (by decide) (by omega) (by rw [h15]) ?_
                refine F_cS1i (v_isLetter (d := d) _) dX1_split_34 rfl rfl rfl (by decide) (Nat.le_of_ble_eq_true rfl) (by omega) ?_
                refine F_if_eqB (tgt := 61) dX1_split_37 rfl (fun c37 => ?_) (fun c37 => ?_)
                · refine F_aload_n dX1_split_61 rfl ?_
                  refine F_getr dX1_split_62 rfl rfl rfl rfl ?_
                  refine F_iload_n dX1_split_65 rfl ?_
                  refine F_baldE (v := σ 15 a) dX1_split_66 rfl (by decide) (by omega) (by rw [h15]) ?_
                  refine F_cS1i (v_isDigit (d := d) _) dX1_split_67 rfl rfl rfl (by decide) (Nat.le_of_ble_eq_true rfl) (by omega) ?_
                  refine F_if_eqB (tgt := 95) dX1_split_70 rfl (fun c70 => ?_) (fun c70 => ?_)
                  · refine F_aload_n dX1_split_95 rfl ?_
                    refine F_getr dX1_split_96 rfl rfl rfl rfl ?_
                    refine F_iload_n dX1_split_99 rfl ?_
                    refine F_baldE (v := σ 15 a) dX1_split_100 rfl (by decide) (by omega) (by rw [h15]) ?_
                    refine F_cS1i (v_isBlank (d := d) _) dX1_split_101 rfl rfl rfl (by decide) (Nat.le_of_ble_eq_true rfl) (by omega) ?_
                    refine F_if_neB (tgt := 122) dX1_split_104 rfl (fun c104 => ?_) (fun c104 => ?_)
                    · rw [hb] at c104
                      cases c104
                    · refine F_aload_n dX1_split_107 rfl ?_
                      refine F_aload_n dX1_split_108 rfl ?_
                      refine F_getr dX1_split_109 rfl rfl rfl rfl ?_
                      refine F_iload_n dX1_split_112 rfl ?_
                      refine F_baldE (v := σ 15 a) dX1_split_113 rfl (by decide) (by omega) (by rw [h15]) ?_
                      refine F_cS1i (v_signOf (d := d) _) dX1_split_114 rfl rfl rfl (by decide) (Nat.le_of_ble_eq_true rfl) (by omega) ?_
                      refine F_iload_n dX1_split_117 rfl ?_
                      refine F_iconst (v := nI 0) dX1_split_118 rfl ?_
                      refine F_cV3v (v_note (d := d) _ _ _ h5 (by omega)) dX1_split_119 rfl rfl (by decide) rfl rfl rfl rfl (by decide) (Nat.le_of_ble_eq_true rfl) (by omega) ?_
                      refine F_iload_n dX1_split_122 rfl ?_
                      refine F_istore_n dX1_split_123 (Nat.le_of_ble_eq_true rfl) ?_
                      refine F_iincN dX1_split_124 rfl ?_
                      refine F_goto (tgt := 9) dX1_split_127 rfl ?_
                      exact k1
                  · rw [hd] at c70
                    cases c70
                · rw [hl] at c37
                  cases c37

theorem v_split (hW : wordOk G) (hd4 : 4 ≤ d) {L : Nat} (hL : σ 14 1 = nI L) (h4 : L ≤ 400) : ∃ υ s, mV G mX1_split (d + 3) [.ref 14] σ none υ ∧ υ 14 5 = nI (s + 1) ∧ s ≤ 400 ∧ TK υ (σ 15) L (s + 1) ∧ tps (σ 15) L s = L ∧ (∀ i, i < s → tps (σ 15) L i < L) ∧ (∀ z, z ≠ 14 → z < 16 ∨ 18 < z → υ z = σ z) ∧ (∀ z, z ≠ 5 → υ 14 z = σ 14 z) := by
  obtain ⟨υ, s2, k1, k2, k3, k4, k5, k6, k7, k8⟩ := l_split (G := G) (d := d) hW hd4 hL h4 L 0 0 0 (up σ 14 5 (nI 0)) none (by omega) (by omega) (by omega) rfl (fun i hi => absurd hi (Nat.not_lt_zero i)) rfl (fun i hi => absurd hi (Nat.not_lt_zero i)) (fun z z1 z2 => up_n _ _ _ z1) (fun z z1 => up_r _ _ _ z1)
  refine ⟨υ, s2, mV_of fun Q hQ => ?_, k2, k3, k4, k5, k6, k7, k8⟩
  have k1 := k1 Q hQ
  refine F_aload_n dX1_split_0 rfl ?_
  refine F_iconst (v := nI 0) dX1_split_1 rfl ?_
  refine F_put dX1_split_2 rfl rfl (by first | assumption | rfl) rfl rfl rfl rfl ?_
  refine F_iconst (v := nI 0) dX1_split_5 rfl ?_
  refine F_istore_n dX1_split_6 (Nat.le_of_ble_eq_true rfl) ?_
  refine F_iconst (v := nI 0) dX1_split_7 rfl ?_
  refine F_istore_n dX1_split_8 (Nat.le_of_ble_eq_true rfl) ?_
  exact k1

end TK
