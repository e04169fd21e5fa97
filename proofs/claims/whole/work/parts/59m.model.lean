section CT2
variable {G : mG} {d : Nat}
def row0 : Nat → Int32 := (upd (upd (upd (upd (upd (upd (upd (upd (upd (upd (upd (upd (upd (upd (fun _ => 0) 0 (nI 0)) 1 (nI 30)) 2 (nI 60)) 3 (nI 90)) 4 (nI 120)) 5 (nI 200)) 6 (nI 42)) 7 (nI 7)) 8 (nI 1)) 9 (nI 2)) 10 (nI 150)) 11 (nI 5)) 12 (nI 2100)) 13 (nI 150))
theorem m_fill {μ0 B : List va_E} {x : va_E} {rf : Nat → Int32} {fs : List Value} {nc ns : Nat} {Q : mQ} (hx : x = .inr (5, fs)) (hf : fs[1]? = some (.ref (μ0.length + 1 + 3))) (hQ : Q none (μ0 ++ (x :: ([] ++ .inl (0, 460, .inl (pcp (fun _ => 0) rf 0 14)) :: (B ++ [.inl (0, 14, .inl rf)])))) true) (hB : B.length = 13 := by rfl) : ∀ q k, k + q = 14 → mT G mX5_init d nc ns 213 [some (.ref (μ0.length + 3)), some (.ref (μ0.length + 15 + 3)), some (.int (nI k))] [] (μ0 ++ (x :: ([] ++ .inl (0, 460, .inl (pcp (fun _ => 0) rf 0 k)) :: (B ++ [.inl (0, 14, .inl rf)])))) true nc ns Q := by
  subst hx
  intro q
  induction q with
  | zero =>
    intro k hk
    have e : k = 14 := by omega
    subst e
    refine T_iload_n dX5_init_213 rfl ?_
    refine T_bipush (v := nI 14) dX5_init_214 rfl ?_
    refine T_icmp_ge (tgt := 236) dX5_init_216 rfl (fun _ => ?_) (fun z => absurd (by decide) z)
    exact T_vret dX5_init_236 rfl (Nat.le_refl _) (Nat.le_refl _) hQ
  | succ q ih =>
    intro k hk
    have k1 := ih (k + 1) (by omega)
    rw [← pcp_s0] at k1
    refine T_iload_n dX5_init_213 rfl ?_
    refine T_bipush (v := nI 14) dX5_init_214 rfl ?_
    refine T_icmp_ge (tgt := 236) dX5_init_216 rfl (fun z => ?_) (fun _ => ?_)
    · rw [nI_le_iff (by omega) (by omega)] at z
      omega
    refine T_aload_n dX5_init_219 rfl ?_
    refine O_get dX5_init_220 rfl rfl hf ?_
    refine T_iconst (v := nI 0) dX5_init_223 rfl ?_
    refine T_iload_n dX5_init_224 rfl ?_
    refine T_iadd dX5_init_225 ?_
    rw [show nI 0 + nI k = nI k by rw [show nI 0 + nI k = nI (0 + k) by simp [nI, Int32.ofNat_add], Nat.zero_add]]
    refine T_aload_n dX5_init_226 rfl ?_
    refine T_iload_n dX5_init_227 rfl ?_
    refine O_liald (k0 := 15) (j := k) (R := [] ++ .inl (0, 460, .inl (pcp (fun _ => 0) rf 0 k)) :: B) (by show B.length + 1 + 1 = 15; omega) rfl dX5_init_228 (by decide) (by omega) ?_
    refine O_piast (A := []) (k0 := 1) (j := k) rfl dX5_init_229 (by decide) (by omega) ?_
    refine T_iinc (v := nI (k + 1)) dX5_init_230 rfl (by rw [nI_succ]; rfl) ?_
    refine T_goto (tgt := 213) dX5_init_233 rfl ?_
    exact k1
def n_model (b : Nat) : List va_E := .inr (5, [.int 0, .ref (b + 1 + 3), .ref (b + 2 + 3), .ref (b + 3 + 3), .int 0, .ref (b + 4 + 3), .int 0, .int 0, .int 0, .int 0, .int 0, .ref (b + 5 + 3), .ref (b + 6 + 3), .ref (b + 7 + 3), .int 0, .int 0, .int 0, .ref (b + 8 + 3), .ref (b + 9 + 3), .ref (b + 10 + 3), .ref (b + 11 + 3), .ref (b + 12 + 3), .ref (b + 13 + 3), .int (-1), .int (-1), .int 0, .ref (b + 14 + 3)]) :: ([] ++ .inl (0, 460, .inl (pcp (fun _ => 0) row0 0 14)) :: (((((((((((((([] ++ [.inl (0, 3680, .inl (fun _ => 0))]) ++ [.inl (0, 460, .inl (fun _ => 0))]) ++ [.inl (1, 400, .inl (fun _ => 0))]) ++ [.inl (0, 70, .inl (fun _ => 0))]) ++ [.inl (0, 5, .inl (fun _ => 0))]) ++ [.inl (0, 5, .inl (fun _ => 0))]) ++ [.inl (0, 70, .inl (fun _ => 0))]) ++ [.inl (0, 70, .inl (fun _ => 0))]) ++ [.inl (0, 70, .inl (fun _ => 0))]) ++ [.inl (0, 71, .inl (fun _ => 0))]) ++ [.inl (2, 70, .inl (fun _ => 0))]) ++ [.inl (2, 70, .inl (fun _ => 0))]) ++ [.inl (0, 70, .inl (fun _ => 0))]) ++ [.inl (0, 14, .inl row0)]))
theorem l_model : ∀ b, (n_model b).length = 15 + 1 := fun b => rfl
theorem c_model (μ0 : List va_E) : mC G mX5_init d 15 5585 [.ref (μ0.length + 3)] (μ0 ++ [.inr (5, [.int 0, .null, .null, .null, .int 0, .null, .int 0, .int 0, .int 0, .int 0, .int 0, .null, .null, .null, .int 0, .int 0, .int 0, .null, .null, .null, .null, .null, .null, .int 0, .int 0, .int 0, .null])]) true (fun r μ1 ex1 => r = none ∧ ex1 = true ∧ μ1 = μ0 ++ n_model μ0.length) := by
  refine T_aload_n dX5_init_0 rfl ?_
  refine T_objInit dX5_init_1 rfl rfl (Nat.le_of_ble_eq_true rfl) ?_
  refine T_aload_n dX5_init_4 rfl ?_
  refine T_sipush (v := nI 460) dX5_init_5 rfl ?_
  refine O_new_int (k0 := 1) dX5_init_8 (Nat.le_of_ble_eq_true rfl) (by simp only [List.nil_append, List.length_append, List.length_cons, List.length_nil]) rfl (Nat.le_of_ble_eq_true rfl) (Nat.le_of_ble_eq_true rfl) ?_
  rw [show ([] ++ [.inl (0, 460, .inl (fun _ => 0))] : List va_E) = [] ++ .inl (0, 460, .inl (fun _ => 0)) :: [] from rfl]
  refine O_putF (fs2 := [.int 0, .ref (μ0.length + 1 + 3), .null, .null, .int 0, .null, .int 0, .int 0, .int 0, .int 0, .int 0, .null, .null, .null, .int 0, .int 0, .int 0, .null, .null, .null, .null, .null, .null, .int 0, .int 0, .int 0, .null]) dX5_init_10 rfl rfl rfl rfl rfl rfl (ty := tyX5 1) rfl (Or.inr ⟨_, rfl⟩) (Nat.le_of_ble_eq_true rfl) rfl ?_
  refine T_aload_n dX5_init_13 rfl ?_
  refine T_sipush (v := nI 3680) dX5_init_14 rfl ?_
  refine O_new_int (k0 := 2) dX5_init_17 (Nat.le_of_ble_eq_true rfl) (by simp only [List.nil_append, List.length_append, List.length_cons, List.length_nil]) app2 (Nat.le_of_ble_eq_true rfl) (Nat.le_of_ble_eq_true rfl) ?_
  refine O_putF (fs2 := [.int 0, .ref (μ0.length + 1 + 3), .ref (μ0.length + 2 + 3), .null, .int 0, .null, .int 0, .int 0, .int 0, .int 0, .int 0, .null, .null, .null, .int 0, .int 0, .int 0, .null, .null, .null, .null, .null, .null, .int 0, .int 0, .int 0, .null]) dX5_init_19 rfl rfl rfl rfl rfl rfl (ty := tyX5 2) rfl (Or.inr ⟨_, rfl⟩) (Nat.le_of_ble_eq_true rfl) rfl ?_
  refine T_aload_n dX5_init_22 rfl ?_
  refine T_sipush (v := nI 460) dX5_init_23 rfl ?_
  refine O_new_int (k0 := 3) dX5_init_26 (Nat.le_of_ble_eq_true rfl) (by simp only [List.nil_append, List.length_append, List.length_cons, List.length_nil]) app2 (Nat.le_of_ble_eq_true rfl) (Nat.le_of_ble_eq_true rfl) ?_
  refine O_putF (fs2 := [.int 0, .ref (μ0.length + 1 + 3), .ref (μ0.length + 2 + 3), .ref (μ0.length + 3 + 3), .int 0, .null, .int 0, .int 0, .int 0, .int 0, .int 0, .null, .null, .null, .int 0, .int 0, .int 0, .null, .null, .null, .null, .null, .null, .int 0, .int 0, .int 0, .null]) dX5_init_28 rfl rfl rfl rfl rfl rfl (ty := tyX5 3) rfl (Or.inr ⟨_, rfl⟩) (Nat.le_of_ble_eq_true rfl) rfl ?_
  refine T_aload_n dX5_init_31 rfl ?_
  refine T_sipush (v := nI 400) dX5_init_32 rfl ?_
  refine O_new_byte (k0 := 4) dX5_init_35 (Nat.le_of_ble_eq_true rfl) (by simp only [List.nil_append, List.length_append, List.length_cons, List.length_nil]) app2 (Nat.le_of_ble_eq_true rfl) (Nat.le_of_ble_eq_true rfl) ?_
  refine O_putF (fs2 := [.int 0, .ref (μ0.length + 1 + 3), .ref (μ0.length + 2 + 3), .ref (μ0.length + 3 + 3), .int 0, .ref (μ0.length + 4 + 3), .int 0, .int 0, .int 0, .int 0, .int 0, .null, .null, .null, .int 0, .int 0, .int 0, .null, .null, .null, .null, .null, .null, .int 0, .int 0, .int 0, .null]) dX5_init_37 rfl rfl rfl rfl rfl rfl (ty := tyX5 5) rfl (Or.inr ⟨_, rfl⟩) (Nat.le_of_ble_eq_true rfl) rfl ?_
  refine T_aload_n dX5_init_40 rfl ?_
  refine T_bipush (v := nI 70) dX5_init_41 rfl ?_
  refine O_new_int (k0 := 5) dX5_init_43 (Nat.le_of_ble_eq_true rfl) (by simp only [List.nil_append, List.length_append, List.length_cons, List.length_nil]) app2 (Nat.le_of_ble_eq_true rfl) (Nat.le_of_ble_eq_true rfl) ?_
  refine O_putF (fs2 := [.int 0, .ref (μ0.length + 1 + 3), .ref (μ0.length + 2 + 3), .ref (μ0.length + 3 + 3), .int 0, .ref (μ0.length + 4 + 3), .int 0, .int 0, .int 0, .int 0, .int 0, .ref (μ0.length + 5 + 3), .null, .null, .int 0, .int 0, .int 0, .null, .null, .null, .null, .null, .null, .int 0, .int 0, .int 0, .null]) dX5_init_45 rfl rfl rfl rfl rfl rfl (ty := tyX5 11) rfl (Or.inr ⟨_, rfl⟩) (Nat.le_of_ble_eq_true rfl) rfl ?_
  refine T_aload_n dX5_init_48 rfl ?_
  refine T_iconst (v := nI 5) dX5_init_49 rfl ?_
  refine O_new_int (k0 := 6) dX5_init_50 (Nat.le_of_ble_eq_true rfl) (by simp only [List.nil_append, List.length_append, List.length_cons, List.length_nil]) app2 (Nat.le_of_ble_eq_true rfl) (Nat.le_of_ble_eq_true rfl) ?_
  refine O_putF (fs2 := [.int 0, .ref (μ0.length + 1 + 3), .ref (μ0.length + 2 + 3), .ref (μ0.length + 3 + 3), .int 0, .ref (μ0.length + 4 + 3), .int 0, .int 0, .int 0, .int 0, .int 0, .ref (μ0.length + 5 + 3), .ref (μ0.length + 6 + 3), .null, .int 0, .int 0, .int 0, .null, .null, .null, .null, .null, .null, .int 0, .int 0, .int 0, .null]) dX5_init_52 rfl rfl rfl rfl rfl rfl (ty := tyX5 12) rfl (Or.inr ⟨_, rfl⟩) (Nat.le_of_ble_eq_true rfl) rfl ?_
  refine T_aload_n dX5_init_55 rfl ?_
  refine T_iconst (v := nI 5) dX5_init_56 rfl ?_
  refine O_new_int (k0 := 7) dX5_init_57 (Nat.le_of_ble_eq_true rfl) (by simp only [List.nil_append, List.length_append, List.length_cons, List.length_nil]) app2 (Nat.le_of_ble_eq_true rfl) (Nat.le_of_ble_eq_true rfl) ?_
  refine O_putF (fs2 := [.int 0, .ref (μ0.length + 1 + 3), .ref (μ0.length + 2 + 3), .ref (μ0.length + 3 + 3), .int 0, .ref (μ0.length + 4 + 3), .int 0, .int 0, .int 0, .int 0, .int 0, .ref (μ0.length + 5 + 3), .ref (μ0.length + 6 + 3), .ref (μ0.length + 7 + 3), .int 0, .int 0, .int 0, .null, .null, .null, .null, .null, .null, .int 0, .int 0, .int 0, .null]) dX5_init_59 rfl rfl rfl rfl rfl rfl (ty := tyX5 13) rfl (Or.inr ⟨_, rfl⟩) (Nat.le_of_ble_eq_true rfl) rfl ?_
  refine T_aload_n dX5_init_62 rfl ?_
  refine T_bipush (v := nI 70) dX5_init_63 rfl ?_
  refine O_new_int (k0 := 8) dX5_init_65 (Nat.le_of_ble_eq_true rfl) (by simp only [List.nil_append, List.length_append, List.length_cons, List.length_nil]) app2 (Nat.le_of_ble_eq_true rfl) (Nat.le_of_ble_eq_true rfl) ?_
  refine O_putF (fs2 := [.int 0, .ref (μ0.length + 1 + 3), .ref (μ0.length + 2 + 3), .ref (μ0.length + 3 + 3), .int 0, .ref (μ0.length + 4 + 3), .int 0, .int 0, .int 0, .int 0, .int 0, .ref (μ0.length + 5 + 3), .ref (μ0.length + 6 + 3), .ref (μ0.length + 7 + 3), .int 0, .int 0, .int 0, .ref (μ0.length + 8 + 3), .null, .null, .null, .null, .null, .int 0, .int 0, .int 0, .null]) dX5_init_67 rfl rfl rfl rfl rfl rfl (ty := tyX5 17) rfl (Or.inr ⟨_, rfl⟩) (Nat.le_of_ble_eq_true rfl) rfl ?_
  refine T_aload_n dX5_init_70 rfl ?_
  refine T_bipush (v := nI 70) dX5_init_71 rfl ?_
  refine O_new_int (k0 := 9) dX5_init_73 (Nat.le_of_ble_eq_true rfl) (by simp only [List.nil_append, List.length_append, List.length_cons, List.length_nil]) app2 (Nat.le_of_ble_eq_true rfl) (Nat.le_of_ble_eq_true rfl) ?_
  refine O_putF (fs2 := [.int 0, .ref (μ0.length + 1 + 3), .ref (μ0.length + 2 + 3), .ref (μ0.length + 3 + 3), .int 0, .ref (μ0.length + 4 + 3), .int 0, .int 0, .int 0, .int 0, .int 0, .ref (μ0.length + 5 + 3), .ref (μ0.length + 6 + 3), .ref (μ0.length + 7 + 3), .int 0, .int 0, .int 0, .ref (μ0.length + 8 + 3), .ref (μ0.length + 9 + 3), .null, .null, .null, .null, .int 0, .int 0, .int 0, .null]) dX5_init_75 rfl rfl rfl rfl rfl rfl (ty := tyX5 18) rfl (Or.inr ⟨_, rfl⟩) (Nat.le_of_ble_eq_true rfl) rfl ?_
  refine T_aload_n dX5_init_78 rfl ?_
  refine T_bipush (v := nI 70) dX5_init_79 rfl ?_
  refine O_new_int (k0 := 10) dX5_init_81 (Nat.le_of_ble_eq_true rfl) (by simp only [List.nil_append, List.length_append, List.length_cons, List.length_nil]) app2 (Nat.le_of_ble_eq_true rfl) (Nat.le_of_ble_eq_true rfl) ?_
  refine O_putF (fs2 := [.int 0, .ref (μ0.length + 1 + 3), .ref (μ0.length + 2 + 3), .ref (μ0.length + 3 + 3), .int 0, .ref (μ0.length + 4 + 3), .int 0, .int 0, .int 0, .int 0, .int 0, .ref (μ0.length + 5 + 3), .ref (μ0.length + 6 + 3), .ref (μ0.length + 7 + 3), .int 0, .int 0, .int 0, .ref (μ0.length + 8 + 3), .ref (μ0.length + 9 + 3), .ref (μ0.length + 10 + 3), .null, .null, .null, .int 0, .int 0, .int 0, .null]) dX5_init_83 rfl rfl rfl rfl rfl rfl (ty := tyX5 19) rfl (Or.inr ⟨_, rfl⟩) (Nat.le_of_ble_eq_true rfl) rfl ?_
  refine T_aload_n dX5_init_86 rfl ?_
  refine T_bipush (v := nI 71) dX5_init_87 rfl ?_
  refine O_new_int (k0 := 11) dX5_init_89 (Nat.le_of_ble_eq_true rfl) (by simp only [List.nil_append, List.length_append, List.length_cons, List.length_nil]) app2 (Nat.le_of_ble_eq_true rfl) (Nat.le_of_ble_eq_true rfl) ?_
  refine O_putF (fs2 := [.int 0, .ref (μ0.length + 1 + 3), .ref (μ0.length + 2 + 3), .ref (μ0.length + 3 + 3), .int 0, .ref (μ0.length + 4 + 3), .int 0, .int 0, .int 0, .int 0, .int 0, .ref (μ0.length + 5 + 3), .ref (μ0.length + 6 + 3), .ref (μ0.length + 7 + 3), .int 0, .int 0, .int 0, .ref (μ0.length + 8 + 3), .ref (μ0.length + 9 + 3), .ref (μ0.length + 10 + 3), .ref (μ0.length + 11 + 3), .null, .null, .int 0, .int 0, .int 0, .null]) dX5_init_91 rfl rfl rfl rfl rfl rfl (ty := tyX5 20) rfl (Or.inr ⟨_, rfl⟩) (Nat.le_of_ble_eq_true rfl) rfl ?_
  refine T_aload_n dX5_init_94 rfl ?_
  refine T_bipush (v := nI 70) dX5_init_95 rfl ?_
  refine O_new_boolean (k0 := 12) dX5_init_97 (Nat.le_of_ble_eq_true rfl) (by simp only [List.nil_append, List.length_append, List.length_cons, List.length_nil]) app2 (Nat.le_of_ble_eq_true rfl) (Nat.le_of_ble_eq_true rfl) ?_
  refine O_putF (fs2 := [.int 0, .ref (μ0.length + 1 + 3), .ref (μ0.length + 2 + 3), .ref (μ0.length + 3 + 3), .int 0, .ref (μ0.length + 4 + 3), .int 0, .int 0, .int 0, .int 0, .int 0, .ref (μ0.length + 5 + 3), .ref (μ0.length + 6 + 3), .ref (μ0.length + 7 + 3), .int 0, .int 0, .int 0, .ref (μ0.length + 8 + 3), .ref (μ0.length + 9 + 3), .ref (μ0.length + 10 + 3), .ref (μ0.length + 11 + 3), .ref (μ0.length + 12 + 3), .null, .int 0, .int 0, .int 0, .null]) dX5_init_99 rfl rfl rfl rfl rfl rfl (ty := tyX5 21) rfl (Or.inr ⟨_, rfl⟩) (Nat.le_of_ble_eq_true rfl) rfl ?_
  refine T_aload_n dX5_init_102 rfl ?_
  refine T_bipush (v := nI 70) dX5_init_103 rfl ?_
  refine O_new_boolean (k0 := 13) dX5_init_105 (Nat.le_of_ble_eq_true rfl) (by simp only [List.nil_append, List.length_append, List.length_cons, List.length_nil]) app2 (Nat.le_of_ble_eq_true rfl) (Nat.le_of_ble_eq_true rfl) ?_
  refine O_putF (fs2 := [.int 0, .ref (μ0.length + 1 + 3), .ref (μ0.length + 2 + 3), .ref (μ0.length + 3 + 3), .int 0, .ref (μ0.length + 4 + 3), .int 0, .int 0, .int 0, .int 0, .int 0, .ref (μ0.length + 5 + 3), .ref (μ0.length + 6 + 3), .ref (μ0.length + 7 + 3), .int 0, .int 0, .int 0, .ref (μ0.length + 8 + 3), .ref (μ0.length + 9 + 3), .ref (μ0.length + 10 + 3), .ref (μ0.length + 11 + 3), .ref (μ0.length + 12 + 3), .ref (μ0.length + 13 + 3), .int 0, .int 0, .int 0, .null]) dX5_init_107 rfl rfl rfl rfl rfl rfl (ty := tyX5 22) rfl (Or.inr ⟨_, rfl⟩) (Nat.le_of_ble_eq_true rfl) rfl ?_
  refine T_aload_n dX5_init_110 rfl ?_
  refine T_iconst (v := -1) dX5_init_111 rfl ?_
  refine O_put (fs2 := [.int 0, .ref (μ0.length + 1 + 3), .ref (μ0.length + 2 + 3), .ref (μ0.length + 3 + 3), .int 0, .ref (μ0.length + 4 + 3), .int 0, .int 0, .int 0, .int 0, .int 0, .ref (μ0.length + 5 + 3), .ref (μ0.length + 6 + 3), .ref (μ0.length + 7 + 3), .int 0, .int 0, .int 0, .ref (μ0.length + 8 + 3), .ref (μ0.length + 9 + 3), .ref (μ0.length + 10 + 3), .ref (μ0.length + 11 + 3), .ref (μ0.length + 12 + 3), .ref (μ0.length + 13 + 3), .int (-1), .int 0, .int 0, .null]) dX5_init_112 rfl rfl rfl rfl rfl (Nat.le_of_ble_eq_true rfl) rfl ?_
  refine T_aload_n dX5_init_115 rfl ?_
  refine T_iconst (v := -1) dX5_init_116 rfl ?_
  refine O_put (fs2 := [.int 0, .ref (μ0.length + 1 + 3), .ref (μ0.length + 2 + 3), .ref (μ0.length + 3 + 3), .int 0, .ref (μ0.length + 4 + 3), .int 0, .int 0, .int 0, .int 0, .int 0, .ref (μ0.length + 5 + 3), .ref (μ0.length + 6 + 3), .ref (μ0.length + 7 + 3), .int 0, .int 0, .int 0, .ref (μ0.length + 8 + 3), .ref (μ0.length + 9 + 3), .ref (μ0.length + 10 + 3), .ref (μ0.length + 11 + 3), .ref (μ0.length + 12 + 3), .ref (μ0.length + 13 + 3), .int (-1), .int (-1), .int 0, .null]) dX5_init_117 rfl rfl rfl rfl rfl (Nat.le_of_ble_eq_true rfl) rfl ?_
  refine T_aload_n dX5_init_120 rfl ?_
  refine T_bipush (v := nI 70) dX5_init_121 rfl ?_
  refine O_new_int (k0 := 14) dX5_init_123 (Nat.le_of_ble_eq_true rfl) (by simp only [List.nil_append, List.length_append, List.length_cons, List.length_nil]) app2 (Nat.le_of_ble_eq_true rfl) (Nat.le_of_ble_eq_true rfl) ?_
  refine O_putF (fs2 := [.int 0, .ref (μ0.length + 1 + 3), .ref (μ0.length + 2 + 3), .ref (μ0.length + 3 + 3), .int 0, .ref (μ0.length + 4 + 3), .int 0, .int 0, .int 0, .int 0, .int 0, .ref (μ0.length + 5 + 3), .ref (μ0.length + 6 + 3), .ref (μ0.length + 7 + 3), .int 0, .int 0, .int 0, .ref (μ0.length + 8 + 3), .ref (μ0.length + 9 + 3), .ref (μ0.length + 10 + 3), .ref (μ0.length + 11 + 3), .ref (μ0.length + 12 + 3), .ref (μ0.length + 13 + 3), .int (-1), .int (-1), .int 0, .ref (μ0.length + 14 + 3)]) dX5_init_125 rfl rfl rfl rfl rfl rfl (ty := tyX5 26) rfl (Or.inr ⟨_, rfl⟩) (Nat.le_of_ble_eq_true rfl) rfl ?_
  refine T_bipush (v := nI 14) dX5_init_128 rfl ?_
  refine O_new_int (k0 := 15) dX5_init_130 (Nat.le_of_ble_eq_true rfl) (by simp only [List.nil_append, List.length_append, List.length_cons, List.length_nil]) app2 (Nat.le_of_ble_eq_true rfl) (Nat.le_of_ble_eq_true rfl) ?_
  refine T_dup dX5_init_132 rfl ?_
  refine T_iconst (v := nI 0) dX5_init_133 rfl ?_
  refine T_iconst (v := nI 0) dX5_init_134 rfl ?_
  refine O_liast (k0 := 15) (j := 0) (by simp only [List.nil_append, List.length_append, List.length_cons, List.length_nil]) app2 app2 dX5_init_135 (by decide) (by decide) ?_
  refine T_dup dX5_init_136 rfl ?_
  refine T_iconst (v := nI 1) dX5_init_137 rfl ?_
  refine T_bipush (v := nI 30) dX5_init_138 rfl ?_
  refine O_liast (k0 := 15) (j := 1) (by simp only [List.nil_append, List.length_append, List.length_cons, List.length_nil]) app2 app2 dX5_init_140 (by decide) (by decide) ?_
  refine T_dup dX5_init_141 rfl ?_
  refine T_iconst (v := nI 2) dX5_init_142 rfl ?_
  refine T_bipush (v := nI 60) dX5_init_143 rfl ?_
  refine O_liast (k0 := 15) (j := 2) (by simp only [List.nil_append, List.length_append, List.length_cons, List.length_nil]) app2 app2 dX5_init_145 (by decide) (by decide) ?_
  refine T_dup dX5_init_146 rfl ?_
  refine T_iconst (v := nI 3) dX5_init_147 rfl ?_
  refine T_bipush (v := nI 90) dX5_init_148 rfl ?_
  refine O_liast (k0 := 15) (j := 3) (by simp only [List.nil_append, List.length_append, List.length_cons, List.length_nil]) app2 app2 dX5_init_150 (by decide) (by decide) ?_
  refine T_dup dX5_init_151 rfl ?_
  refine T_iconst (v := nI 4) dX5_init_152 rfl ?_
  refine T_bipush (v := nI 120) dX5_init_153 rfl ?_
  refine O_liast (k0 := 15) (j := 4) (by simp only [List.nil_append, List.length_append, List.length_cons, List.length_nil]) app2 app2 dX5_init_155 (by decide) (by decide) ?_
  refine T_dup dX5_init_156 rfl ?_
  refine T_iconst (v := nI 5) dX5_init_157 rfl ?_
  refine T_sipush (v := nI 200) dX5_init_158 rfl ?_
  refine O_liast (k0 := 15) (j := 5) (by simp only [List.nil_append, List.length_append, List.length_cons, List.length_nil]) app2 app2 dX5_init_161 (by decide) (by decide) ?_
  refine T_dup dX5_init_162 rfl ?_
  refine T_bipush (v := nI 6) dX5_init_163 rfl ?_
  refine T_bipush (v := nI 42) dX5_init_165 rfl ?_
  refine O_liast (k0 := 15) (j := 6) (by simp only [List.nil_append, List.length_append, List.length_cons, List.length_nil]) app2 app2 dX5_init_167 (by decide) (by decide) ?_
  refine T_dup dX5_init_168 rfl ?_
  refine T_bipush (v := nI 7) dX5_init_169 rfl ?_
  refine T_bipush (v := nI 7) dX5_init_171 rfl ?_
  refine O_liast (k0 := 15) (j := 7) (by simp only [List.nil_append, List.length_append, List.length_cons, List.length_nil]) app2 app2 dX5_init_173 (by decide) (by decide) ?_
  refine T_dup dX5_init_174 rfl ?_
  refine T_bipush (v := nI 8) dX5_init_175 rfl ?_
  refine T_iconst (v := nI 1) dX5_init_177 rfl ?_
  refine O_liast (k0 := 15) (j := 8) (by simp only [List.nil_append, List.length_append, List.length_cons, List.length_nil]) app2 app2 dX5_init_178 (by decide) (by decide) ?_
  refine T_dup dX5_init_179 rfl ?_
  refine T_bipush (v := nI 9) dX5_init_180 rfl ?_
  refine T_iconst (v := nI 2) dX5_init_182 rfl ?_
  refine O_liast (k0 := 15) (j := 9) (by simp only [List.nil_append, List.length_append, List.length_cons, List.length_nil]) app2 app2 dX5_init_183 (by decide) (by decide) ?_
  refine T_dup dX5_init_184 rfl ?_
  refine T_bipush (v := nI 10) dX5_init_185 rfl ?_
  refine T_sipush (v := nI 150) dX5_init_187 rfl ?_
  refine O_liast (k0 := 15) (j := 10) (by simp only [List.nil_append, List.length_append, List.length_cons, List.length_nil]) app2 app2 dX5_init_190 (by decide) (by decide) ?_
  refine T_dup dX5_init_191 rfl ?_
  refine T_bipush (v := nI 11) dX5_init_192 rfl ?_
  refine T_iconst (v := nI 5) dX5_init_194 rfl ?_
  refine O_liast (k0 := 15) (j := 11) (by simp only [List.nil_append, List.length_append, List.length_cons, List.length_nil]) app2 app2 dX5_init_195 (by decide) (by decide) ?_
  refine T_dup dX5_init_196 rfl ?_
  refine T_bipush (v := nI 12) dX5_init_197 rfl ?_
  refine T_sipush (v := nI 2100) dX5_init_199 rfl ?_
  refine O_liast (k0 := 15) (j := 12) (by simp only [List.nil_append, List.length_append, List.length_cons, List.length_nil]) app2 app2 dX5_init_202 (by decide) (by decide) ?_
  refine T_dup dX5_init_203 rfl ?_
  refine T_bipush (v := nI 13) dX5_init_204 rfl ?_
  refine T_sipush (v := nI 150) dX5_init_206 rfl ?_
  refine O_liast (k0 := 15) (j := 13) (by simp only [List.nil_append, List.length_append, List.length_cons, List.length_nil]) app2 app2 dX5_init_209 (by decide) (by decide) ?_
  refine T_astore_n dX5_init_210 (Nat.le_of_ble_eq_true rfl) ?_
  refine T_iconst (v := nI 0) dX5_init_211 rfl ?_
  refine T_istore_n dX5_init_212 (Nat.le_of_ble_eq_true rfl) ?_
  have hmm : μ0 ++ (.inr (5, [.int 0, .ref (μ0.length + 1 + 3), .ref (μ0.length + 2 + 3), .ref (μ0.length + 3 + 3), .int 0, .ref (μ0.length + 4 + 3), .int 0, .int 0, .int 0, .int 0, .int 0, .ref (μ0.length + 5 + 3), .ref (μ0.length + 6 + 3), .ref (μ0.length + 7 + 3), .int 0, .int 0, .int 0, .ref (μ0.length + 8 + 3), .ref (μ0.length + 9 + 3), .ref (μ0.length + 10 + 3), .ref (μ0.length + 11 + 3), .ref (μ0.length + 12 + 3), .ref (μ0.length + 13 + 3), .int (-1), .int (-1), .int 0, .ref (μ0.length + 14 + 3)]) :: ([] ++ .inl (0, 460, .inl (pcp (fun _ => 0) row0 0 14)) :: (((((((((((((([] ++ [.inl (0, 3680, .inl (fun _ => 0))]) ++ [.inl (0, 460, .inl (fun _ => 0))]) ++ [.inl (1, 400, .inl (fun _ => 0))]) ++ [.inl (0, 70, .inl (fun _ => 0))]) ++ [.inl (0, 5, .inl (fun _ => 0))]) ++ [.inl (0, 5, .inl (fun _ => 0))]) ++ [.inl (0, 70, .inl (fun _ => 0))]) ++ [.inl (0, 70, .inl (fun _ => 0))]) ++ [.inl (0, 70, .inl (fun _ => 0))]) ++ [.inl (0, 71, .inl (fun _ => 0))]) ++ [.inl (2, 70, .inl (fun _ => 0))]) ++ [.inl (2, 70, .inl (fun _ => 0))]) ++ [.inl (0, 70, .inl (fun _ => 0))]) ++ [.inl (0, 14, .inl row0)]))) = μ0 ++ n_model μ0.length := rfl
  have k1 := m_fill (G := G) (d := d) (μ0 := μ0) (nc := 15) (ns := 5585) (B := ((((((((((((([] ++ [.inl (0, 3680, .inl (fun _ => 0))]) ++ [.inl (0, 460, .inl (fun _ => 0))]) ++ [.inl (1, 400, .inl (fun _ => 0))]) ++ [.inl (0, 70, .inl (fun _ => 0))]) ++ [.inl (0, 5, .inl (fun _ => 0))]) ++ [.inl (0, 5, .inl (fun _ => 0))]) ++ [.inl (0, 70, .inl (fun _ => 0))]) ++ [.inl (0, 70, .inl (fun _ => 0))]) ++ [.inl (0, 70, .inl (fun _ => 0))]) ++ [.inl (0, 71, .inl (fun _ => 0))]) ++ [.inl (2, 70, .inl (fun _ => 0))]) ++ [.inl (2, 70, .inl (fun _ => 0))]) ++ [.inl (0, 70, .inl (fun _ => 0))])) (x := .inr (5, [.int 0, .ref (μ0.length + 1 + 3), .ref (μ0.length + 2 + 3), .ref (μ0.length + 3 + 3), .int 0, .ref (μ0.length + 4 + 3), .int 0, .int 0, .int 0, .int 0, .int 0, .ref (μ0.length + 5 + 3), .ref (μ0.length + 6 + 3), .ref (μ0.length + 7 + 3), .int 0, .int 0, .int 0, .ref (μ0.length + 8 + 3), .ref (μ0.length + 9 + 3), .ref (μ0.length + 10 + 3), .ref (μ0.length + 11 + 3), .ref (μ0.length + 12 + 3), .ref (μ0.length + 13 + 3), .int (-1), .int (-1), .int 0, .ref (μ0.length + 14 + 3)])) (rf := row0) (Q := fun r μ1 ex1 => r = none ∧ ex1 = true ∧ μ1 = μ0 ++ n_model μ0.length) rfl rfl (by refine ⟨rfl, rfl, ?_⟩; with_reducible exact hmm) (by simp only [List.nil_append, List.length_append, List.length_cons, List.length_nil]) 14 0 (by decide)
  rw [pcp_0] at k1
  exact k1
end CT2
