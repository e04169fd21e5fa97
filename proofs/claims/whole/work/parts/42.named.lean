/-! ===== the reference: named, closes ===== -/
theorem dX5_named_0 : decode cX5_named 0 = .ok (.aload_n 0, 1) := by decide +kernel
theorem dX5_named_1 : decode cX5_named 1 = .ok (.getfield 149, 3) := by decide +kernel
theorem dX5_named_4 : decode cX5_named 4 = .ok (.iload_n 2, 1) := by decide +kernel
theorem dX5_named_5 : decode cX5_named 5 = .ok (.iadd, 1) := by decide +kernel
theorem dX5_named_6 : decode cX5_named 6 = .ok (.aload_n 0, 1) := by decide +kernel
theorem dX5_named_7 : decode cX5_named 7 = .ok (.getfield 152, 3) := by decide +kernel
theorem dX5_named_10 : decode cX5_named 10 = .ok (.if_icmp .le 13, 3) := by decide +kernel
theorem dX5_named_13 : decode cX5_named 13 = .ok (.aload_n 0, 1) := by decide +kernel
theorem dX5_named_14 : decode cX5_named 14 = .ok (.iconst 4, 1) := by decide +kernel
theorem dX5_named_15 : decode cX5_named 15 = .ok (.aload_n 0, 1) := by decide +kernel
theorem dX5_named_16 : decode cX5_named 16 = .ok (.getfield 139, 3) := by decide +kernel
theorem dX5_named_19 : decode cX5_named 19 = .ok (.invokevirtual 142, 3) := by decide +kernel
theorem dX5_named_22 : decode cX5_named 22 = .ok (.return_, 1) := by decide +kernel
theorem dX5_named_23 : decode cX5_named 23 = .ok (.iconst 0, 1) := by decide +kernel
theorem dX5_named_24 : decode cX5_named 24 = .ok (.istore_n 3, 1) := by decide +kernel
theorem dX5_named_25 : decode cX5_named 25 = .ok (.iload_n 3, 1) := by decide +kernel
theorem dX5_named_26 : decode cX5_named 26 = .ok (.iload_n 2, 1) := by decide +kernel
theorem dX5_named_27 : decode cX5_named 27 = .ok (.if_icmp .ge 21, 3) := by decide +kernel
theorem dX5_named_30 : decode cX5_named 30 = .ok (.aload_n 0, 1) := by decide +kernel
theorem dX5_named_31 : decode cX5_named 31 = .ok (.getfield 23, 3) := by decide +kernel
theorem dX5_named_34 : decode cX5_named 34 = .ok (.aload_n 0, 1) := by decide +kernel
theorem dX5_named_35 : decode cX5_named 35 = .ok (.getfield 149, 3) := by decide +kernel
theorem dX5_named_38 : decode cX5_named 38 = .ok (.iload_n 3, 1) := by decide +kernel
theorem dX5_named_39 : decode cX5_named 39 = .ok (.iadd, 1) := by decide +kernel
theorem dX5_named_40 : decode cX5_named 40 = .ok (.iload_n 1, 1) := by decide +kernel
theorem dX5_named_41 : decode cX5_named 41 = .ok (.iastore, 1) := by decide +kernel
theorem dX5_named_42 : decode cX5_named 42 = .ok (.iinc 3 1, 3) := by decide +kernel
theorem dX5_named_45 : decode cX5_named 45 = .ok (.goto (-20), 3) := by decide +kernel
theorem dX5_named_48 : decode cX5_named 48 = .ok (.aload_n 0, 1) := by decide +kernel
theorem dX5_named_49 : decode cX5_named 49 = .ok (.dup, 1) := by decide +kernel
theorem dX5_named_50 : decode cX5_named 50 = .ok (.getfield 149, 3) := by decide +kernel
theorem dX5_named_53 : decode cX5_named 53 = .ok (.iload_n 2, 1) := by decide +kernel
theorem dX5_named_54 : decode cX5_named 54 = .ok (.iadd, 1) := by decide +kernel
theorem dX5_named_55 : decode cX5_named 55 = .ok (.putfield 149, 3) := by decide +kernel
theorem dX5_named_58 : decode cX5_named 58 = .ok (.return_, 1) := by decide +kernel
theorem dX5_closes_0 : decode cX5_closes 0 = .ok (.aload_n 0, 1) := by decide +kernel
theorem dX5_closes_1 : decode cX5_closes 1 = .ok (.dup, 1) := by decide +kernel
theorem dX5_closes_2 : decode cX5_closes 2 = .ok (.getfield 155, 3) := by decide +kernel
theorem dX5_closes_5 : decode cX5_closes 5 = .ok (.iconst 1, 1) := by decide +kernel
theorem dX5_closes_6 : decode cX5_closes 6 = .ok (.isub, 1) := by decide +kernel
theorem dX5_closes_7 : decode cX5_closes 7 = .ok (.putfield 155, 3) := by decide +kernel
theorem dX5_closes_10 : decode cX5_closes 10 = .ok (.aload_n 0, 1) := by decide +kernel
theorem dX5_closes_11 : decode cX5_closes 11 = .ok (.getfield 26, 3) := by decide +kernel
theorem dX5_closes_14 : decode cX5_closes 14 = .ok (.aload_n 0, 1) := by decide +kernel
theorem dX5_closes_15 : decode cX5_closes 15 = .ok (.getfield 155, 3) := by decide +kernel
theorem dX5_closes_18 : decode cX5_closes 18 = .ok (.iaload, 1) := by decide +kernel
theorem dX5_closes_19 : decode cX5_closes 19 = .ok (.istore_n 1, 1) := by decide +kernel
theorem dX5_closes_20 : decode cX5_closes 20 = .ok (.aload_n 0, 1) := by decide +kernel
theorem dX5_closes_21 : decode cX5_closes 21 = .ok (.getfield 149, 3) := by decide +kernel
theorem dX5_closes_24 : decode cX5_closes 24 = .ok (.iload_n 1, 1) := by decide +kernel
theorem dX5_closes_25 : decode cX5_closes 25 = .ok (.isub, 1) := by decide +kernel
theorem dX5_closes_26 : decode cX5_closes 26 = .ok (.istore_n 2, 1) := by decide +kernel
theorem dX5_closes_27 : decode cX5_closes 27 = .ok (.iload_n 2, 1) := by decide +kernel
theorem dX5_closes_28 : decode cX5_closes 28 = .ok (.ifCond .ne 12, 3) := by decide +kernel
theorem dX5_closes_31 : decode cX5_closes 31 = .ok (.aload_n 0, 1) := by decide +kernel
theorem dX5_closes_32 : decode cX5_closes 32 = .ok (.iconst 1, 1) := by decide +kernel
theorem dX5_closes_33 : decode cX5_closes 33 = .ok (.aload_n 0, 1) := by decide +kernel
theorem dX5_closes_34 : decode cX5_closes 34 = .ok (.getfield 123, 3) := by decide +kernel
theorem dX5_closes_37 : decode cX5_closes 37 = .ok (.invokevirtual 142, 3) := by decide +kernel
theorem dX5_closes_40 : decode cX5_closes 40 = .ok (.aload_n 0, 1) := by decide +kernel
theorem dX5_closes_41 : decode cX5_closes 41 = .ok (.getfield 129, 3) := by decide +kernel
theorem dX5_closes_44 : decode cX5_closes 44 = .ok (.ifCond .eq 4, 3) := by decide +kernel
theorem dX5_closes_47 : decode cX5_closes 47 = .ok (.return_, 1) := by decide +kernel
theorem dX5_closes_48 : decode cX5_closes 48 = .ok (.aload_n 0, 1) := by decide +kernel
theorem dX5_closes_49 : decode cX5_closes 49 = .ok (.getfield 149, 3) := by decide +kernel
theorem dX5_closes_52 : decode cX5_closes 52 = .ok (.iload_n 2, 1) := by decide +kernel
theorem dX5_closes_53 : decode cX5_closes 53 = .ok (.aload_n 0, 1) := by decide +kernel
theorem dX5_closes_54 : decode cX5_closes 54 = .ok (.getfield 29, 3) := by decide +kernel
theorem dX5_closes_57 : decode cX5_closes 57 = .ok (.aload_n 0, 1) := by decide +kernel
theorem dX5_closes_58 : decode cX5_closes 58 = .ok (.getfield 155, 3) := by decide +kernel
theorem dX5_closes_61 : decode cX5_closes 61 = .ok (.iaload, 1) := by decide +kernel
theorem dX5_closes_62 : decode cX5_closes 62 = .ok (.iconst 1, 1) := by decide +kernel
theorem dX5_closes_63 : decode cX5_closes 63 = .ok (.isub, 1) := by decide +kernel
theorem dX5_closes_64 : decode cX5_closes 64 = .ok (.imul, 1) := by decide +kernel
theorem dX5_closes_65 : decode cX5_closes 65 = .ok (.iadd, 1) := by decide +kernel
theorem dX5_closes_66 : decode cX5_closes 66 = .ok (.aload_n 0, 1) := by decide +kernel
theorem dX5_closes_67 : decode cX5_closes 67 = .ok (.getfield 152, 3) := by decide +kernel
theorem dX5_closes_70 : decode cX5_closes 70 = .ok (.if_icmp .le 13, 3) := by decide +kernel
theorem dX5_closes_73 : decode cX5_closes 73 = .ok (.aload_n 0, 1) := by decide +kernel
theorem dX5_closes_74 : decode cX5_closes 74 = .ok (.iconst 4, 1) := by decide +kernel
theorem dX5_closes_75 : decode cX5_closes 75 = .ok (.aload_n 0, 1) := by decide +kernel
theorem dX5_closes_76 : decode cX5_closes 76 = .ok (.getfield 123, 3) := by decide +kernel
theorem dX5_closes_79 : decode cX5_closes 79 = .ok (.invokevirtual 142, 3) := by decide +kernel
theorem dX5_closes_82 : decode cX5_closes 82 = .ok (.return_, 1) := by decide +kernel
theorem dX5_closes_83 : decode cX5_closes 83 = .ok (.iconst 0, 1) := by decide +kernel
theorem dX5_closes_84 : decode cX5_closes 84 = .ok (.istore_n 3, 1) := by decide +kernel
theorem dX5_closes_85 : decode cX5_closes 85 = .ok (.iload_n 3, 1) := by decide +kernel
theorem dX5_closes_86 : decode cX5_closes 86 = .ok (.iload_n 2, 1) := by decide +kernel
theorem dX5_closes_87 : decode cX5_closes 87 = .ok (.aload_n 0, 1) := by decide +kernel
theorem dX5_closes_88 : decode cX5_closes 88 = .ok (.getfield 29, 3) := by decide +kernel
theorem dX5_closes_91 : decode cX5_closes 91 = .ok (.aload_n 0, 1) := by decide +kernel
theorem dX5_closes_92 : decode cX5_closes 92 = .ok (.getfield 155, 3) := by decide +kernel
theorem dX5_closes_95 : decode cX5_closes 95 = .ok (.iaload, 1) := by decide +kernel
theorem dX5_closes_96 : decode cX5_closes 96 = .ok (.iconst 1, 1) := by decide +kernel
theorem dX5_closes_97 : decode cX5_closes 97 = .ok (.isub, 1) := by decide +kernel
theorem dX5_closes_98 : decode cX5_closes 98 = .ok (.imul, 1) := by decide +kernel
theorem dX5_closes_99 : decode cX5_closes 99 = .ok (.if_icmp .ge 30, 3) := by decide +kernel
theorem dX5_closes_102 : decode cX5_closes 102 = .ok (.aload_n 0, 1) := by decide +kernel
theorem dX5_closes_103 : decode cX5_closes 103 = .ok (.getfield 23, 3) := by decide +kernel
theorem dX5_closes_106 : decode cX5_closes 106 = .ok (.aload_n 0, 1) := by decide +kernel
theorem dX5_closes_107 : decode cX5_closes 107 = .ok (.getfield 149, 3) := by decide +kernel
theorem dX5_closes_110 : decode cX5_closes 110 = .ok (.iload_n 3, 1) := by decide +kernel
theorem dX5_closes_111 : decode cX5_closes 111 = .ok (.iadd, 1) := by decide +kernel
theorem dX5_closes_112 : decode cX5_closes 112 = .ok (.aload_n 0, 1) := by decide +kernel
theorem dX5_closes_113 : decode cX5_closes 113 = .ok (.getfield 23, 3) := by decide +kernel
theorem dX5_closes_116 : decode cX5_closes 116 = .ok (.iload_n 1, 1) := by decide +kernel
theorem dX5_closes_117 : decode cX5_closes 117 = .ok (.iload_n 3, 1) := by decide +kernel
theorem dX5_closes_118 : decode cX5_closes 118 = .ok (.iload_n 2, 1) := by decide +kernel
theorem dX5_closes_119 : decode cX5_closes 119 = .ok (.irem, 1) := by decide +kernel
theorem dX5_closes_120 : decode cX5_closes 120 = .ok (.iadd, 1) := by decide +kernel
theorem dX5_closes_121 : decode cX5_closes 121 = .ok (.iaload, 1) := by decide +kernel
theorem dX5_closes_122 : decode cX5_closes 122 = .ok (.iastore, 1) := by decide +kernel
theorem dX5_closes_123 : decode cX5_closes 123 = .ok (.iinc 3 1, 3) := by decide +kernel
theorem dX5_closes_126 : decode cX5_closes 126 = .ok (.goto (-41), 3) := by decide +kernel
theorem dX5_closes_129 : decode cX5_closes 129 = .ok (.aload_n 0, 1) := by decide +kernel
theorem dX5_closes_130 : decode cX5_closes 130 = .ok (.dup, 1) := by decide +kernel
theorem dX5_closes_131 : decode cX5_closes 131 = .ok (.getfield 149, 3) := by decide +kernel
theorem dX5_closes_134 : decode cX5_closes 134 = .ok (.iload_n 2, 1) := by decide +kernel
theorem dX5_closes_135 : decode cX5_closes 135 = .ok (.aload_n 0, 1) := by decide +kernel
theorem dX5_closes_136 : decode cX5_closes 136 = .ok (.getfield 29, 3) := by decide +kernel
theorem dX5_closes_139 : decode cX5_closes 139 = .ok (.aload_n 0, 1) := by decide +kernel
theorem dX5_closes_140 : decode cX5_closes 140 = .ok (.getfield 155, 3) := by decide +kernel
theorem dX5_closes_143 : decode cX5_closes 143 = .ok (.iaload, 1) := by decide +kernel
theorem dX5_closes_144 : decode cX5_closes 144 = .ok (.iconst 1, 1) := by decide +kernel
theorem dX5_closes_145 : decode cX5_closes 145 = .ok (.isub, 1) := by decide +kernel
theorem dX5_closes_146 : decode cX5_closes 146 = .ok (.imul, 1) := by decide +kernel
theorem dX5_closes_147 : decode cX5_closes 147 = .ok (.iadd, 1) := by decide +kernel
theorem dX5_closes_148 : decode cX5_closes 148 = .ok (.putfield 149, 3) := by decide +kernel
theorem dX5_closes_151 : decode cX5_closes 151 = .ok (.aload_n 0, 1) := by decide +kernel
theorem dX5_closes_152 : decode cX5_closes 152 = .ok (.dup, 1) := by decide +kernel
theorem dX5_closes_153 : decode cX5_closes 153 = .ok (.getfield 123, 3) := by decide +kernel
theorem dX5_closes_156 : decode cX5_closes 156 = .ok (.iconst 1, 1) := by decide +kernel
theorem dX5_closes_157 : decode cX5_closes 157 = .ok (.iadd, 1) := by decide +kernel
theorem dX5_closes_158 : decode cX5_closes 158 = .ok (.putfield 123, 3) := by decide +kernel
theorem dX5_closes_161 : decode cX5_closes 161 = .ok (.return_, 1) := by decide +kernel

section NC
variable {G : mG} {d : Nat} {σ : mS}
theorem v_namedA {m k r : Nat} (hm : σ 116 14 = nI m) (hr : σ 116 16 = nI r) (hr7 : r ≤ 70) (hm7 : m ≤ 70) (hk7 : k ≤ 70) {p : Nat} (hp : σ 116 10 = nI p) (h0 : σ 116 7 = nI 0) (kd : Int32) (h : r < m + k) : mV G mX5_named (d + 1) [.ref 116, .int kd, .int (nI k)] σ none (up σ 116 7 (nI (4 + 8 * p))) := by
  refine mV_of fun Q hQ => ?_
  refine F_aload_n dX5_named_0 rfl ?_
  refine F_getE (v := nI m) dX5_named_1 rfl rfl rfl rfl hm ?_
  refine F_iload_n dX5_named_4 rfl ?_
  refine F_iaddN dX5_named_5 ?_
  refine F_aload_n dX5_named_6 rfl ?_
  refine F_getE (v := nI r) dX5_named_7 rfl rfl rfl rfl hr ?_
  refine F_icmp_leN (tgt := 23) dX5_named_10 rfl (by omega) (by omega) (fun c10 => ?_) (fun c10 => ?_)
  · exact absurd c10 (by omega)
  · refine F_aload_n dX5_named_13 rfl ?_
    refine F_iconst (v := nI 4) dX5_named_14 rfl ?_
    refine F_aload_n dX5_named_15 rfl ?_
    refine F_getE (v := nI p) dX5_named_16 rfl rfl rfl rfl hp ?_
    refine F_cV2v (v_failsB (d := d) 4 p h0) dX5_named_19 rfl rfl (by decide) rfl rfl rfl rfl (by decide) (Nat.le_of_ble_eq_true rfl) (by omega) ?_
    refine F_vret dX5_named_22 rfl ?_
    exact hQ

theorem v_namedB {m k r : Nat} (hm : σ 116 14 = nI m) (hr : σ 116 16 = nI r) (hr7 : r ≤ 70) (hm7 : m ≤ 70) (hk7 : k ≤ 70) (kd : Int32) (h : m + k ≤ r) : mV G mX5_named (d + 1) [.ref 116, .int kd, .int (nI k)] σ none (up (upR σ 121 (fillR (σ 121) m (m + k) kd)) 116 14 (nI (m + k))) := by
  refine mV_of fun Q hQ => ?_
  have hl : ∀ e, e ≤ k → mF G mX5_named (d + 1) 25 [some (.ref 116), some (.int kd), some (.int (nI k)), some (.int (nI e))] [] (upR σ 121 (fillR (σ 121) m (m + e) kd)) Q := by
    refine loopUp k (fun e he ih => ?_)
    by_cases hek : e = k
    · subst hek
      refine F_iload_n dX5_named_25 rfl ?_
      refine F_iload_n dX5_named_26 rfl ?_
      refine F_icmp_geN (tgt := 48) dX5_named_27 rfl (by omega) (by omega) (fun c27 => ?_) (fun c27 => ?_)
      · refine F_aload_n dX5_named_48 rfl ?_
        refine F_dup dX5_named_49 rfl ?_
        refine F_getE (v := nI m) dX5_named_50 rfl rfl rfl rfl hm ?_
        refine F_iload_n dX5_named_53 rfl ?_
        refine F_iaddN dX5_named_54 ?_
        refine F_put dX5_named_55 rfl rfl rfl rfl rfl rfl rfl ?_
        refine F_vret dX5_named_58 rfl ?_
        exact hQ
      · exact absurd c27 (by omega)
    · have ih := ih (by omega)
      rw [show m + (e + 1) = m + e + 1 by omega] at ih
      refine F_iload_n dX5_named_25 rfl ?_
      refine F_iload_n dX5_named_26 rfl ?_
      refine F_icmp_geN (tgt := 48) dX5_named_27 rfl (by omega) (by omega) (fun c27 => ?_) (fun c27 => ?_)
      · exact absurd c27 (by omega)
      · refine F_aload_n dX5_named_30 rfl ?_
        refine F_getr dX5_named_31 rfl rfl rfl rfl ?_
        refine F_aload_n dX5_named_34 rfl ?_
        refine F_getE (v := nI m) dX5_named_35 rfl rfl rfl rfl hm ?_
        refine F_iload_n dX5_named_38 rfl ?_
        refine F_iaddN dX5_named_39 ?_
        refine F_iload_n dX5_named_40 rfl ?_
        refine F_iast dX5_named_41 rfl (by decide) (by omega) ?_
        refine F_iincN dX5_named_42 rfl ?_
        refine F_goto (tgt := 25) dX5_named_45 rfl ?_
        refine F_sg (up_fill _ _ _ _ (by omega)) ih
  refine F_aload_n dX5_named_0 rfl ?_
  refine F_getE (v := nI m) dX5_named_1 rfl rfl rfl rfl hm ?_
  refine F_iload_n dX5_named_4 rfl ?_
  refine F_iaddN dX5_named_5 ?_
  refine F_aload_n dX5_named_6 rfl ?_
  refine F_getE (v := nI r) dX5_named_7 rfl rfl rfl rfl hr ?_
  refine F_icmp_leN (tgt := 23) dX5_named_10 rfl (by omega) (by omega) (fun c10 => ?_) (fun c10 => ?_)
  · refine F_iconst (v := nI 0) dX5_named_23 rfl ?_
    refine F_istore_n dX5_named_24 (Nat.le_of_ble_eq_true rfl) ?_
    refine F_sg (fill0 σ 121 m kd).symm ?_
    exact hl 0 (by omega)
  · exact absurd h c10

theorem v_closesA {o a m t r p : Nat} (ho : σ 116 15 = nI (o + 1)) (ho4 : o < 4) (ha : σ 122 o = nI a) (hm : σ 116 14 = nI m) (ham : a ≤ m) (hm7 : m ≤ 70) (htt : σ 123 o = nI t) (ht1 : 1 ≤ t) (ht7 : t ≤ 70) (hr : σ 116 16 = nI r) (hr7 : r ≤ 70) (hp : σ 116 9 = nI p) (hp4 : p ≤ 400) (h0 : σ 116 7 = nI 0) (h : m = a) : mV G mX5_closes (d + 1) [.ref 116] σ none (up (up σ 116 15 (nI o)) 116 7 (nI (1 + 8 * p))) := by
  refine mV_of fun Q hQ => ?_
  have hmul : (m - a) * (t - 1) ≤ 70 * 69 := Nat.mul_le_mul (by omega) (by omega)
  refine F_aload_n dX5_closes_0 rfl ?_
  refine F_dup dX5_closes_1 rfl ?_
  refine F_getE (v := nI (o + 1)) dX5_closes_2 rfl rfl rfl rfl ho ?_
  refine F_iconst (v := nI 1) dX5_closes_5 rfl ?_
  refine F_isubN dX5_closes_6 (by omega) ?_
  refine F_put dX5_closes_7 rfl rfl rfl rfl rfl rfl rfl ?_
  refine F_aload_n dX5_closes_10 rfl ?_
  refine F_getr dX5_closes_11 rfl rfl rfl rfl ?_
  refine F_aload_n dX5_closes_14 rfl ?_
  refine F_getE (v := nI o) dX5_closes_15 rfl rfl rfl rfl rfl ?_
  refine F_ialdE (v := nI a) dX5_closes_18 rfl (by decide) (by omega) ha ?_
  refine F_istore_n dX5_closes_19 (Nat.le_of_ble_eq_true rfl) ?_
  refine F_aload_n dX5_closes_20 rfl ?_
  refine F_getE (v := nI m) dX5_closes_21 rfl rfl rfl rfl hm ?_
  refine F_iload_n dX5_closes_24 rfl ?_
  refine F_isubN dX5_closes_25 (by omega) ?_
  refine F_istore_n dX5_closes_26 (Nat.le_of_ble_eq_true rfl) ?_
  refine F_iload_n dX5_closes_27 rfl ?_
  refine F_if_neN (tgt := 40) dX5_closes_28 rfl (by omega) (fun c28 => ?_) (fun c28 => ?_)
  · exact absurd (show m - a = 0 by omega) c28
  · refine F_aload_n dX5_closes_31 rfl ?_
    refine F_iconst (v := nI 1) dX5_closes_32 rfl ?_
    refine F_aload_n dX5_closes_33 rfl ?_
    refine F_getE (v := nI p) dX5_closes_34 rfl rfl rfl rfl hp ?_
    refine F_cV2v (v_failsB (d := d) 1 p h0) dX5_closes_37 rfl rfl (by decide) rfl rfl rfl rfl (by decide) (Nat.le_of_ble_eq_true rfl) (by omega) ?_
    refine F_aload_n dX5_closes_40 rfl ?_
    refine F_getE (v := nI (1 + 8 * p)) dX5_closes_41 rfl rfl rfl rfl rfl ?_
    refine F_if_eqN (tgt := 48) dX5_closes_44 rfl (by omega) (fun c44 => ?_) (fun c44 => ?_)
    · exact absurd c44 (by omega)
    · refine F_vret dX5_closes_47 rfl ?_
      exact hQ

theorem v_closesB {o a m t r p : Nat} (ho : σ 116 15 = nI (o + 1)) (ho4 : o < 4) (ha : σ 122 o = nI a) (hm : σ 116 14 = nI m) (ham : a ≤ m) (hm7 : m ≤ 70) (htt : σ 123 o = nI t) (ht1 : 1 ≤ t) (ht7 : t ≤ 70) (hr : σ 116 16 = nI r) (hr7 : r ≤ 70) (hp : σ 116 9 = nI p) (hp4 : p ≤ 400) (h0 : σ 116 7 = nI 0) (h : a < m) (h2 : r < m + (m - a) * (t - 1)) : mV G mX5_closes (d + 1) [.ref 116] σ none (up (up σ 116 15 (nI o)) 116 7 (nI (4 + 8 * p))) := by
  refine mV_of fun Q hQ => ?_
  have hmul : (m - a) * (t - 1) ≤ 70 * 69 := Nat.mul_le_mul (by omega) (by omega)
  refine F_aload_n dX5_closes_0 rfl ?_
  refine F_dup dX5_closes_1 rfl ?_
  refine F_getE (v := nI (o + 1)) dX5_closes_2 rfl rfl rfl rfl ho ?_
  refine F_iconst (v := nI 1) dX5_closes_5 rfl ?_
  refine F_isubN dX5_closes_6 (by omega) ?_
  refine F_put dX5_closes_7 rfl rfl rfl rfl rfl rfl rfl ?_
  refine F_aload_n dX5_closes_10 rfl ?_
  refine F_getr dX5_closes_11 rfl rfl rfl rfl ?_
  refine F_aload_n dX5_closes_14 rfl ?_
  refine F_getE (v := nI o) dX5_closes_15 rfl rfl rfl rfl rfl ?_
  refine F_ialdE (v := nI a) dX5_closes_18 rfl (by decide) (by omega) ha ?_
  refine F_istore_n dX5_closes_19 (Nat.le_of_ble_eq_true rfl) ?_
  refine F_aload_n dX5_closes_20 rfl ?_
  refine F_getE (v := nI m) dX5_closes_21 rfl rfl rfl rfl hm ?_
  refine F_iload_n dX5_closes_24 rfl ?_
  refine F_isubN dX5_closes_25 (by omega) ?_
  refine F_istore_n dX5_closes_26 (Nat.le_of_ble_eq_true rfl) ?_
  refine F_iload_n dX5_closes_27 rfl ?_
  refine F_if_neN (tgt := 40) dX5_closes_28 rfl (by omega) (fun c28 => ?_) (fun c28 => ?_)
  · refine F_aload_n dX5_closes_40 rfl ?_
    refine F_getE (v := nI 0) dX5_closes_41 rfl rfl rfl rfl h0 ?_
    refine F_if_eqN (tgt := 48) dX5_closes_44 rfl (by omega) (fun c44 => ?_) (fun c44 => ?_)
    · refine F_aload_n dX5_closes_48 rfl ?_
      refine F_getE (v := nI m) dX5_closes_49 rfl rfl rfl rfl hm ?_
      refine F_iload_n dX5_closes_52 rfl ?_
      refine F_aload_n dX5_closes_53 rfl ?_
      refine F_getr dX5_closes_54 rfl rfl rfl rfl ?_
      refine F_aload_n dX5_closes_57 rfl ?_
      refine F_getE (v := nI o) dX5_closes_58 rfl rfl rfl rfl rfl ?_
      refine F_ialdE (v := nI t) dX5_closes_61 rfl (by decide) (by omega) htt ?_
      refine F_iconst (v := nI 1) dX5_closes_62 rfl ?_
      refine F_isubN dX5_closes_63 (by omega) ?_
      refine F_imulN dX5_closes_64 ?_
      refine F_iaddN dX5_closes_65 ?_
      refine F_aload_n dX5_closes_66 rfl ?_
      refine F_getE (v := nI r) dX5_closes_67 rfl rfl rfl rfl hr ?_
      refine F_icmp_leN (tgt := 83) dX5_closes_70 rfl (by omega) (by omega) (fun c70 => ?_) (fun c70 => ?_)
      · exact absurd c70 (by omega)
      · refine F_aload_n dX5_closes_73 rfl ?_
        refine F_iconst (v := nI 4) dX5_closes_74 rfl ?_
        refine F_aload_n dX5_closes_75 rfl ?_
        refine F_getE (v := nI p) dX5_closes_76 rfl rfl rfl rfl hp ?_
        refine F_cV2v (v_failsB (d := d) 4 p h0) dX5_closes_79 rfl rfl (by decide) rfl rfl rfl rfl (by decide) (Nat.le_of_ble_eq_true rfl) (by omega) ?_
        refine F_vret dX5_closes_82 rfl ?_
        exact hQ
    · exact absurd rfl c44
  · exfalso
    omega

theorem v_closesC {o a m t r p : Nat} (ho : σ 116 15 = nI (o + 1)) (ho4 : o < 4) (ha : σ 122 o = nI a) (hm : σ 116 14 = nI m) (ham : a ≤ m) (hm7 : m ≤ 70) (htt : σ 123 o = nI t) (ht1 : 1 ≤ t) (ht7 : t ≤ 70) (hr : σ 116 16 = nI r) (hr7 : r ≤ 70) (hp : σ 116 9 = nI p) (hp4 : p ≤ 400) (h0 : σ 116 7 = nI 0) (h : a < m) (h2 : m + (m - a) * (t - 1) ≤ r) : mV G mX5_closes (d + 1) [.ref 116] σ none (up (up (upR (up σ 116 15 (nI o)) 121 (rpK (σ 121) a (m - a) (m - a + (m - a) * (t - 1)))) 116 14 (nI (m + (m - a) * (t - 1)))) 116 9 (nI (p + 1))) := by
  refine mV_of fun Q hQ => ?_
  have hmul : (m - a) * (t - 1) ≤ 70 * 69 := Nat.mul_le_mul (by omega) (by omega)
  have hl : ∀ e, e ≤ (m - a) * (t - 1) → mF G mX5_closes (d + 1) 85 [some (.ref 116), some (.int (nI a)), some (.int (nI (m - a))), some (.int (nI e))] [] (upR (up σ 116 15 (nI o)) 121 (rpK (σ 121) a (m - a) (m - a + e))) Q := by
    refine loopUp ((m - a) * (t - 1)) (fun e he ih => ?_)
    by_cases hek : e = (m - a) * (t - 1)
    · subst hek
      refine F_iload_n dX5_closes_85 rfl ?_
      refine F_iload_n dX5_closes_86 rfl ?_
      refine F_aload_n dX5_closes_87 rfl ?_
      refine F_getr dX5_closes_88 rfl rfl rfl rfl ?_
      refine F_aload_n dX5_closes_91 rfl ?_
      refine F_getE (v := nI o) dX5_closes_92 rfl rfl rfl rfl rfl ?_
      refine F_ialdE (v := nI t) dX5_closes_95 rfl (by decide) (by omega) htt ?_
      refine F_iconst (v := nI 1) dX5_closes_96 rfl ?_
      refine F_isubN dX5_closes_97 (by omega) ?_
      refine F_imulN dX5_closes_98 ?_
      refine F_icmp_geN (tgt := 129) dX5_closes_99 rfl (by omega) (by omega) (fun c99 => ?_) (fun c99 => ?_)
      · refine F_aload_n dX5_closes_129 rfl ?_
        refine F_dup dX5_closes_130 rfl ?_
        refine F_getE (v := nI m) dX5_closes_131 rfl rfl rfl rfl hm ?_
        refine F_iload_n dX5_closes_134 rfl ?_
        refine F_aload_n dX5_closes_135 rfl ?_
        refine F_getr dX5_closes_136 rfl rfl rfl rfl ?_
        refine F_aload_n dX5_closes_139 rfl ?_
        refine F_getE (v := nI o) dX5_closes_140 rfl rfl rfl rfl rfl ?_
        refine F_ialdE (v := nI t) dX5_closes_143 rfl (by decide) (by omega) htt ?_
        refine F_iconst (v := nI 1) dX5_closes_144 rfl ?_
        refine F_isubN dX5_closes_145 (by omega) ?_
        refine F_imulN dX5_closes_146 ?_
        refine F_iaddN dX5_closes_147 ?_
        refine F_put dX5_closes_148 rfl rfl rfl rfl rfl rfl rfl ?_
        refine F_aload_n dX5_closes_151 rfl ?_
        refine F_dup dX5_closes_152 rfl ?_
        refine F_getE (v := nI p) dX5_closes_153 rfl rfl rfl rfl hp ?_
        refine F_iconst (v := nI 1) dX5_closes_156 rfl ?_
        refine F_iaddN dX5_closes_157 ?_
        refine F_put dX5_closes_158 rfl rfl rfl rfl rfl rfl rfl ?_
        refine F_vret dX5_closes_161 rfl ?_
        exact hQ
      · exact absurd c99 (by omega)
    · have ih := ih (by omega)
      have hmod : e % (m - a) < m - a := Nat.mod_lt _ (by omega)
      have hstep : upd (rpK (σ 121) a (m - a) (m - a + e)) (m + e) ((rpK (σ 121) a (m - a) (m - a + e)) (a + e % (m - a))) = (rpK (σ 121) a (m - a) (m - a + (e + 1))) := by
        have e1 := rpK_s (σ 121) (a := a) (len := m - a) (m := e) (by omega)
        rw [← e1, show a + (m - a) + e = m + e by omega]
        congr 1
        simp only [rpK]
        rw [if_pos (by omega), if_pos (by omega), show a + e % (m - a) - a = e % (m - a) by omega, show a + e - a = e by omega, Nat.mod_mod]
      rw [← hstep, ← up_upR] at ih
      refine F_iload_n dX5_closes_85 rfl ?_
      refine F_iload_n dX5_closes_86 rfl ?_
      refine F_aload_n dX5_closes_87 rfl ?_
      refine F_getr dX5_closes_88 rfl rfl rfl rfl ?_
      refine F_aload_n dX5_closes_91 rfl ?_
      refine F_getE (v := nI o) dX5_closes_92 rfl rfl rfl rfl rfl ?_
      refine F_ialdE (v := nI t) dX5_closes_95 rfl (by decide) (by omega) htt ?_
      refine F_iconst (v := nI 1) dX5_closes_96 rfl ?_
      refine F_isubN dX5_closes_97 (by omega) ?_
      refine F_imulN dX5_closes_98 ?_
      refine F_icmp_geN (tgt := 129) dX5_closes_99 rfl (by omega) (by omega) (fun c99 => ?_) (fun c99 => ?_)
      · exact absurd c99 (by omega)
      · refine F_aload_n dX5_closes_102 rfl ?_
        refine F_getr dX5_closes_103 rfl rfl rfl rfl ?_
        refine F_aload_n dX5_closes_106 rfl ?_
        refine F_getE (v := nI m) dX5_closes_107 rfl rfl rfl rfl hm ?_
        refine F_iload_n dX5_closes_110 rfl ?_
        refine F_iaddN dX5_closes_111 ?_
        refine F_aload_n dX5_closes_112 rfl ?_
        refine F_getr dX5_closes_113 rfl rfl rfl rfl ?_
        refine F_iload_n dX5_closes_116 rfl ?_
        refine F_iload_n dX5_closes_117 rfl ?_
        refine F_iload_n dX5_closes_118 rfl ?_
        refine F_irem dX5_closes_119 (nI_ne0 (by omega) (by omega)) ?_
        refine F_top (y := nI (e % (m - a))) (nI_rem (by omega) (by omega)) ?_
        refine F_iaddN dX5_closes_120 ?_
        refine F_ialdE (v := (rpK (σ 121) a (m - a) (m - a + e)) (a + e % (m - a))) dX5_closes_121 rfl (by decide) (by omega) (by rw [upR_s]) ?_
        refine F_iast dX5_closes_122 rfl (by decide) (by omega) ?_
        refine F_iincN dX5_closes_123 rfl ?_
        refine F_goto (tgt := 85) dX5_closes_126 rfl ?_
        exact ih
  refine F_aload_n dX5_closes_0 rfl ?_
  refine F_dup dX5_closes_1 rfl ?_
  refine F_getE (v := nI (o + 1)) dX5_closes_2 rfl rfl rfl rfl ho ?_
  refine F_iconst (v := nI 1) dX5_closes_5 rfl ?_
  refine F_isubN dX5_closes_6 (by omega) ?_
  refine F_put dX5_closes_7 rfl rfl rfl rfl rfl rfl rfl ?_
  refine F_aload_n dX5_closes_10 rfl ?_
  refine F_getr dX5_closes_11 rfl rfl rfl rfl ?_
  refine F_aload_n dX5_closes_14 rfl ?_
  refine F_getE (v := nI o) dX5_closes_15 rfl rfl rfl rfl rfl ?_
  refine F_ialdE (v := nI a) dX5_closes_18 rfl (by decide) (by omega) ha ?_
  refine F_istore_n dX5_closes_19 (Nat.le_of_ble_eq_true rfl) ?_
  refine F_aload_n dX5_closes_20 rfl ?_
  refine F_getE (v := nI m) dX5_closes_21 rfl rfl rfl rfl hm ?_
  refine F_iload_n dX5_closes_24 rfl ?_
  refine F_isubN dX5_closes_25 (by omega) ?_
  refine F_istore_n dX5_closes_26 (Nat.le_of_ble_eq_true rfl) ?_
  refine F_iload_n dX5_closes_27 rfl ?_
  refine F_if_neN (tgt := 40) dX5_closes_28 rfl (by omega) (fun c28 => ?_) (fun c28 => ?_)
  · refine F_aload_n dX5_closes_40 rfl ?_
    refine F_getE (v := nI 0) dX5_closes_41 rfl rfl rfl rfl h0 ?_
    refine F_if_eqN (tgt := 48) dX5_closes_44 rfl (by omega) (fun c44 => ?_) (fun c44 => ?_)
    · refine F_aload_n dX5_closes_48 rfl ?_
      refine F_getE (v := nI m) dX5_closes_49 rfl rfl rfl rfl hm ?_
      refine F_iload_n dX5_closes_52 rfl ?_
      refine F_aload_n dX5_closes_53 rfl ?_
      refine F_getr dX5_closes_54 rfl rfl rfl rfl ?_
      refine F_aload_n dX5_closes_57 rfl ?_
      refine F_getE (v := nI o) dX5_closes_58 rfl rfl rfl rfl rfl ?_
      refine F_ialdE (v := nI t) dX5_closes_61 rfl (by decide) (by omega) htt ?_
      refine F_iconst (v := nI 1) dX5_closes_62 rfl ?_
      refine F_isubN dX5_closes_63 (by omega) ?_
      refine F_imulN dX5_closes_64 ?_
      refine F_iaddN dX5_closes_65 ?_
      refine F_aload_n dX5_closes_66 rfl ?_
      refine F_getE (v := nI r) dX5_closes_67 rfl rfl rfl rfl hr ?_
      refine F_icmp_leN (tgt := 83) dX5_closes_70 rfl (by omega) (by omega) (fun c70 => ?_) (fun c70 => ?_)
      · refine F_iconst (v := nI 0) dX5_closes_83 rfl ?_
        refine F_istore_n dX5_closes_84 (Nat.le_of_ble_eq_true rfl) ?_
        have h00 := hl 0 (by omega)
        rw [Nat.add_zero (m - a), rpK_0 _ (by omega)] at h00
        have e9 : upR (up σ 116 15 (nI o)) 121 (σ 121) = (up σ 116 15 (nI o)) := upR_self (up σ 116 15 (nI o)) 121
        rw [e9] at h00
        exact h00
      · exact absurd h2 c70
    · exact absurd rfl c44
  · exfalso
    omega

end NC
