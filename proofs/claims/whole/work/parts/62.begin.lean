/-! ===== how the law begins ===== -/
def loads0 : Nat → Int32 := (upd (upd (upd (upd (upd (upd (fun _ => 0) 0 (nI 0)) 1 (nI 30)) 2 (nI 60)) 3 (nI 90)) 4 (nI 120)) 5 (nI 200))
def sets0 : Nat → Int32 := (upd (upd (upd (upd (upd (upd (upd (upd (fun _ => 0) 0 (nI 42)) 1 (nI 7)) 2 (nI 1)) 3 (nI 2)) 4 (nI 150)) 5 (nI 5)) 6 (nI 2100)) 7 (nI 150))
/-- the memory where the law's loop begins -/
def σ0 : mS := fun a => if a = 116 then (fun i => if i = 23 then -1 else if i = 24 then -1 else 0) else if a = 117 then pcp (fun _ => 0) row0 0 14 else if a = 131 then row0 else if a = 10 then loads0 else if a = 25 then loads0 else if a = 58 then loads0 else if a = 66 then loads0 else if a = 74 then loads0 else if a = 82 then loads0 else if a = 90 then loads0 else if a = 98 then loads0 else if a = 106 then loads0 else if a = 114 then loads0 else if a = 11 then sets0 else if a = 26 then sets0 else if a = 59 then sets0 else if a = 67 then sets0 else if a = 75 then sets0 else if a = 83 then sets0 else if a = 91 then sets0 else if a = 99 then sets0 else if a = 107 then sets0 else if a = 115 then sets0 else fun _ => 0
theorem pa0 (b : Nat) (hb : b = 0) : (va_up (va_up (va_up (va_up (va_up (va_up (va_up (va_up (fun _ => none) 0 (some (b + 49 + 3))) 1 (some (b + 57 + 3))) 2 (some (b + 65 + 3))) 3 (some (b + 73 + 3))) 4 (some (b + 81 + 3))) 5 (some (b + 89 + 3))) 6 (some (b + 97 + 3))) 7 (some (b + 105 + 3))) = fun j => ([52, 60, 68, 76, 84, 92, 100, 108] : List Nat)[j]? := by
  subst hb
  funext j
  match j with
  | 0 => rfl
  | 1 => rfl
  | 2 => rfl
  | 3 => rfl
  | 4 => rfl
  | 5 => rfl
  | 6 => rfl
  | 7 => rfl
  | n + 8 => simp [va_up]
theorem nb0 (b : Nat) (hb : b = 0) : n_book b = .inr (4, [.ref (b + 1 + 3), .ref (b + 9 + 3), .int 0, .int 0, .ref (b + 10 + 3), .ref (b + 26 + 3), .ref (b + 37 + 3), .ref (b + 48 + 3)]) :: (([] ++ n_told (b + 1)) ++ .inl (4, 8, .inr (.inr (.inr (.inr (fun j => ([52, 60, 68, 76, 84, 92, 100, 108] : List Nat)[j]?))))) :: (((((((((((([] ++ n_teller (b + 10)) ++ n_course (b + 26)) ++ n_course (b + 37)) ++ [.inl (0, 6, .inl (fun _ => 0))]) ++ n_told (b + 49)) ++ n_told (b + 57)) ++ n_told (b + 65)) ++ n_told (b + 73)) ++ n_told (b + 81)) ++ n_told (b + 89)) ++ n_told (b + 97)) ++ n_told (b + 105))) := by
  unfold n_book
  rw [pa0 b hb]
set_option maxRecDepth 100000 in
set_option maxHeartbeats 4000000 in
theorem fz0 : ([] : List va_E) ++ ([] ++ n_book (([] : List va_E).length + 0) ++ n_model (([] : List va_E).length + 113) ++ [.inl (3, 1, .inr (.inl (fun _ => 0)))]) = mFz σ0 := by
  rw [nb0 (([] : List va_E).length + 0) rfl]
  rfl
theorem now_6 : ∀ k, k < 6 → σ0 117 k = nI ([0, 30, 60, 90, 120, 200].getD k 0) ∧ [0, 30, 60, 90, 120, 200].getD k 0 ≤ 300 ∧ σ0 10 k = σ0 117 k := by decide +kernel
theorem now_8 : ∀ k, k < 8 → inR (σ0 117 (6 + k)) (mLeast.getD k 0) (mMost.getD k 0) = true ∧ σ0 11 k = σ0 117 (6 + k) := by decide +kernel
theorem now_n : σ0 117 23 = nI 0 ∧ σ0 117 14 = nI 0 ∧ σ0 117 0 = nI 0 := by decide +kernel
theorem rel0 : Rel σ0 := by
  refine ⟨0, 0, 0, 0, 0, ⟨⟨by omega, by omega, now_n.1, now_n.2.1, fun k hk => (now_8 k hk).1, fun k hk => ⟨_, (now_6 k hk).2.1, (now_6 k hk).1⟩, now_n.2.2, fun i hi => absurd hi (by omega), fun g hg => absurd hg (by omega)⟩, rfl, rfl, fun k hk => (now_8 k hk).2, fun k hk => (now_6 k hk).2.2, fun i hi => absurd hi (by omega), fun g hg => absurd hg (by omega), fun j _ _ => rfl⟩, ⟨rfl, rfl, rfl, ⟨rfl, rfl, fun _ _ => rfl⟩, ⟨rfl, rfl, fun _ _ => rfl⟩⟩, ⟨by omega, by omega, rfl, rfl, rfl, fun i hi => absurd hi (by omega)⟩, ⟨by omega, rfl, rfl, fun i hi => absurd hi (by omega)⟩, rfl⟩
section LBG
variable {G : mG} {Q : mQ}
theorem T_exF {I : mI} {d mc ms pc nc ns : Nat} {lo : List (Option Value)} {st : List Value} {μ : List va_E} (k : mT G I d mc ms pc lo st μ false nc ns Q) : mT G I d mc ms pc lo st μ true nc ns Q := fun p e s m args below meth c H locs ls F hP hS _ hl hn hc => k p e s m args below meth c H locs ls F hP hS (fun z => by cases z) hl hn hc
theorem lw_begin (hl : (gL G).stackTraces = false) (hN : gN G ≤ 3072) (hQ : ∀ μ, Q (some (.int (nI 1))) μ false) : mT G mL_law 1399 601024 7293034 0 [some (.ref 2), none, none, none, none, none, none] [] ([] ++ []) true 0 0 Q := by
  have k1 := lw_loop hl hN hQ (gN G + 6) 0 σ0 130 13071 none none (by omega) (by omega) (by omega) (by omega) rel0
  have hk : (([] : List va_E) ++ n_book (([] : List va_E).length + 0)).length = 113 := by rw [List.nil_append, l_book]
  have hk2 : (([] : List va_E) ++ n_book (([] : List va_E).length + 0) ++ n_model (([] : List va_E).length + 113)).length = 129 := by rw [List.length_append, hk, l_model]
  refine N_new (k0 := 0) (fs := [.null, .null, .int 0, .int 0, .null, .null, .null, .null]) dL_law_0 rfl rfl rfl tyX4_ok (by decide +kernel) rfl rfl (Nat.le_of_ble_eq_true rfl) (Nat.le_of_ble_eq_true rfl) ?_
  refine T_dup dL_law_3 rfl ?_
  refine N_call (k0 := 0) (c_book (G := G) (d := 0)) l_book rfl rfl dL_law_4 rfl rfl (by decide) rfl rfl ⟨(Nat.le_of_ble_eq_true rfl), (Nat.le_of_ble_eq_true rfl)⟩ (Nat.le_of_ble_eq_true rfl) (Nat.le_of_ble_eq_true rfl) (Nat.le_of_ble_eq_true rfl) (Nat.le_of_ble_eq_true rfl) ?_
  refine T_astore_n dL_law_7 (Nat.le_of_ble_eq_true rfl) ?_
  refine N_new (k0 := 113) (fs := [.int 0, .null, .null, .null, .int 0, .null, .int 0, .int 0, .int 0, .int 0, .int 0, .null, .null, .null, .int 0, .int 0, .int 0, .null, .null, .null, .null, .null, .null, .int 0, .int 0, .int 0, .null]) dL_law_8 rfl rfl rfl tyX5_ok (by decide +kernel) rfl hk (Nat.le_of_ble_eq_true rfl) (Nat.le_of_ble_eq_true rfl) ?_
  refine T_dup dL_law_11 rfl ?_
  refine N_call (k0 := 113) (c_model (G := G) (d := 0)) l_model hk rfl dL_law_12 rfl rfl (by decide) rfl rfl ⟨(Nat.le_of_ble_eq_true rfl), (Nat.le_of_ble_eq_true rfl)⟩ (Nat.le_of_ble_eq_true rfl) (Nat.le_of_ble_eq_true rfl) (Nat.le_of_ble_eq_true rfl) (Nat.le_of_ble_eq_true rfl) ?_
  refine T_astore_n dL_law_15 (Nat.le_of_ble_eq_true rfl) ?_
  refine T_iconst (v := nI 1) dL_law_16 rfl ?_
  refine N_new_long (k0 := 129) dL_law_17 (Nat.le_of_ble_eq_true rfl) hk2 (Nat.le_of_ble_eq_true rfl) (Nat.le_of_ble_eq_true rfl) ?_
  refine T_astore_n dL_law_19 (Nat.le_of_ble_eq_true rfl) ?_
  refine T_iconst (v := nI 0) dL_law_20 rfl ?_
  refine T_istore dL_law_21 (Nat.le_of_ble_eq_true rfl) ?_
  refine T_exF ?_
  rw [fz0]
  exact k1
end LBG
