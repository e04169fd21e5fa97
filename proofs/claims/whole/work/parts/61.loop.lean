/-! ===== the law: camped, its loop, its beginning ===== -/
section LC
variable {G : mG} {pc i nc ns : Nat} {l5 l6 : Option Value} {st : List Value} {σ : mS} {Q : mQ}
theorem lc_w : Cond.codeWith mL_camped.1 mL_camped.2.1 mL_camped.2.2.1 mL_camped.2.2.2.1 [(0, 10, 13, 13)] ∈ mGood := mG_t (by decide +kernel) (List.mem_of_getElem? (i := 640) (by decide +kernel))
theorem lc_i : Cond.initialized mL_camped.1.cls ∈ mGood := mG_t (by decide +kernel) (List.mem_of_getElem? (i := 0) (by decide +kernel))
theorem lc_l : Cond.methodLink mL_law.1.cls 74 mL_camped.1 ∈ mGood := mG_t (by decide +kernel) (List.mem_of_getElem? (i := 638) (by decide +kernel))
theorem lc_s : Cond.static mL_camped.1 ∈ mGood := mG_t (by decide +kernel) (List.mem_of_getElem? (i := 639) (by decide +kernel))
theorem lc_d : mL_camped.1.cls ≠ "java/lang/invoke/MethodHandle" ∧ mL_camped.1.cls ≠ "java/lang/invoke/VarHandle" ∧ (parseMethodDescriptor mL_camped.1.desc).map (fun d => d.parameters.length) = some mL_camped.2.2.2.2.2 := ⟨by decide +kernel, by decide +kernel, by decide +kernel⟩
theorem lc_p : plainName mL_camped.1.cls = true := by decide
theorem L_campR {lo : List (Option Value)} {j c : Nat} {z : Int32} (hcm : σ 4 4 = nI c) (hj : j < c) (h4 : c ≤ 4) (hc : nc ≤ 601024) (hs : ns ≤ 7293034) (k : mE G (578 + 3) lo (.int (nI 0) :: st) (up σ 132 0 (if z = 0 then σ 8 j else σ 9 j)) nc ns Q) (hst : (st.map fun v => v.category).sum ≤ 8) : mE G 578 lo (.ref 132 :: .int z :: .int (nI j) :: .ref 3 :: st) σ nc ns Q := by
  have hv := v_LcampedR (G := G) (d := 0) (σ := σ) (z := z) hcm hj h4
  have hM := mMetW (G := G) (J := mL_camped) (hh := [(0, 10, 13, 13)]) (as := [.ref 3, .int (nI j), .int z, .ref 132]) lc_p (Nat.le_of_ble_eq_true rfl) (by intro v hv; simp at hv; rcases hv with rfl | rfl | rfl | rfl <;> rfl) (mU_of hv)
  refine T_callSW (I := mL_law) (mc1 := 0) (ms1 := 0) (d1 := 0 + 2) (as := [.ref 3, .int (nI j), .int z, .ref 132]) dL_law_578 lc_w lc_i lc_d lc_l lc_s rfl ⟨(Nat.le_of_ble_eq_true rfl), (Nat.le_of_ble_eq_true rfl)⟩ (by intro v hv; simp at hv; rcases hv with rfl | rfl | rfl | rfl <;> rfl) hst (Nat.le_of_ble_eq_true rfl) hc hs hM ?_ ?_
  · intro r1 μ1 ex1 h1 h2
    rw [h1.1] at h2
    cases h2
  · intro r1 μ1 ex1 h1
    obtain ⟨h2, σ2, h3, h4, h5⟩ := h1
    rw [h2, h3, h4, h5]
    exact k
theorem L_campX {lo : List (Option Value)} {k0 z : Int32} (hl : (gL G).stackTraces = false) (hC : (decide (nI 0 ≤ k0) && decide (k0 < σ 4 4)) = false) (hc : nc + 1 ≤ 601024) (hs : ns + 6 ≤ 7293034) (k : mE G (578 + 3) lo (.int (nI 1) :: st) σ (nc + 1) (ns + 6) Q) (hst : (st.map fun v => v.category).sum ≤ 8) : mE G 578 lo (.ref 132 :: .int z :: .int k0 :: .ref 3 :: st) σ nc ns Q := by
  have hv := u_Lcamped (G := G) (d := 0) (σ := σ) (k := k0) (z := z) hl hC
  have hM := mMetW (G := G) (J := mL_camped) (hh := [(0, 10, 13, 13)]) (as := [.ref 3, .int k0, .int z, .ref 132]) lc_p (Nat.le_of_ble_eq_true rfl) (by intro v hv; simp at hv; rcases hv with rfl | rfl | rfl | rfl <;> rfl) hv
  refine T_callSW (I := mL_law) (mc1 := 1) (ms1 := 6) (d1 := 0 + 10) (as := [.ref 3, .int k0, .int z, .ref 132]) dL_law_578 lc_w lc_i lc_d lc_l lc_s rfl ⟨(Nat.le_of_ble_eq_true rfl), (Nat.le_of_ble_eq_true rfl)⟩ (by intro v hv; simp at hv; rcases hv with rfl | rfl | rfl | rfl <;> rfl) hst (Nat.le_of_ble_eq_true rfl) hc hs hM ?_ ?_
  · intro r1 μ1 ex1 h1 h2
    rw [h1.1] at h2
    cases h2
  · intro r1 μ1 ex1 h1
    obtain ⟨h2, σ2, h3, h4, h5⟩ := h1
    rw [h2, h3, h4, h5]
    exact k
theorem lg_same (x : Int64) : lg_cmp x x = 0 := by
  unfold lg_cmp
  rw [if_neg Int64.lt_irrefl, if_pos rfl]
theorem Rel.out {σ : mS} (h : Rel σ) (v : Int32) : Rel (up σ 132 0 v) := by
  have hc : RC σ := by obtain ⟨n, c, k, j, m, hT, hC, -⟩ := h; exact hC
  exact h.frame (fun a ha => up_n σ _ _ (by omega)) rfl rfl rfl hc

theorem lw_12_0 (hl : (gL G).stackTraces = false) (hN : gN G < 2 ^ 31) (hi : i + 5 < gN G) (h : Rel σ) (hc1 : nc + 1 ≤ 601024) (hs1 : ns + 6 ≤ 7293034) (k1 : ∀ σ2 nc2 ns2 l5 l6, Rel σ2 → nc2 ≤ nc + 1 → ns2 ≤ ns + 6 → mE G 1241 (lwL i l5 l6) [] σ2 nc2 ns2 Q) (hz : gS G (i + 2) = 0) : mE G 556 (lwL i l5 l6) [] σ nc ns Q := by
  have hc : nc ≤ 601024 := by omega
  have hs : ns ≤ 7293034 := by omega
  obtain ⟨n, c, k, j0, m, hT, hC, hU, hP, hF⟩ := id h
  have h4 : c ≤ 4 := hT.1.2.1
  have hcm : σ 4 4 = nI c := hT.2.2.1
  have hmm : σ 117 14 = nI c := hT.1.2.2.2.1
  refine T_aload_n dL_law_556 rfl ?_
  refine L_arg (j := 1) hN (by omega) dL_law_557 dL_law_558 dL_law_560 rfl dL_law_561 dL_law_562 ?_
  refine L_arg (j := 2) hN (by omega) dL_law_563 dL_law_564 dL_law_566 rfl dL_law_567 dL_law_568 ?_
  refine T_if_eq (tgt := 576) dL_law_569 rfl (fun _ => ?_) (fun y => absurd hz y)
  refine T_iconst (v := nI 0) dL_law_576 rfl ?_
  refine T_aload_n dL_law_577 rfl ?_
  by_cases hin : (decide (nI 0 ≤ gS G (i + 1)) && decide (gS G (i + 1) < σ 4 4)) = true
  · obtain ⟨j, hj, ej⟩ := grB_n (x := σ 4 4) (g := gS G (i + 1)) hcm (by omega) hin
    have hm := m_campedB (G := G) (d := 0) (σ := up σ 132 0 (if nI 0 = 0 then σ 8 j else σ 9 j)) (nI 0) hmm hj h4
    have hcv := (hT.2.2.2.2.2.1 j hj).1
    have hcv : σ 8 j = σ 117 (15 + 2 * j + 0) := hcv
    have hcmp : lg_cmp (up (up σ 132 0 (if nI 0 = 0 then σ 8 j else σ 9 j)) 116 0 (nI 0) 132 0).toInt64 (up σ 132 0 (if nI 0 = 0 then σ 8 j else σ 9 j) 117 (15 + 2 * j + if nI 0 = 0 then 0 else 1)).toInt64 = 0 := by
      rw [up_n _ _ _ (by decide), up_s, up_n _ _ _ (by decide)]
      rw [if_pos (by decide), if_pos (by decide), hcv]
      exact lg_same _
    rw [ej]
    refine L_campR (j := j) hcm hj h4 hc hs ?_ (Nat.le_of_ble_eq_true rfl)
    refine T_istore dL_law_581 (Nat.le_of_ble_eq_true rfl) ?_
    refine T_aload_n dL_law_583 rfl ?_
    refine L_arg (j := 1) hN (by omega) dL_law_584 dL_law_585 dL_law_587 rfl dL_law_588 dL_law_589 ?_
    refine L_arg (j := 2) hN (by omega) dL_law_590 dL_law_591 dL_law_593 rfl dL_law_594 dL_law_595 ?_
    refine T_if_eq (tgt := 603) dL_law_596 rfl (fun _ => ?_) (fun y => absurd hz y)
    refine T_iconst (v := nI 0) dL_law_603 rfl ?_
    rw [ej]
    refine L_call (as := [.int (nI j), .int (nI 0)]) hm dL_law_604 rfl (by decide) rfl rfl rfl rfl ⟨(Nat.le_of_ble_eq_true rfl), (Nat.le_of_ble_eq_true rfl)⟩ (by intro v hv; simp at hv; rcases hv with rfl | rfl <;> rfl) (Nat.le_of_ble_eq_true rfl) (Nat.le_of_ble_eq_true rfl) hc hs ?_
    refine T_istore dL_law_607 (Nat.le_of_ble_eq_true rfl) ?_
    refine T_aload_n dL_law_609 rfl ?_
    refine L_call (as := []) (v_thrown (d := 0)) dL_law_610 rfl (by decide) rfl rfl rfl rfl ⟨(Nat.le_of_ble_eq_true rfl), (Nat.le_of_ble_eq_true rfl)⟩ (by intro v hv; cases hv) (Nat.le_of_ble_eq_true rfl) (Nat.le_of_ble_eq_true rfl) hc hs ?_
    refine T_iload dL_law_613 rfl ?_
    refine T_icmp_eq (tgt := 620) dL_law_615 rfl (fun _ => ?_) (fun y => absurd rfl y)
    refine T_iload dL_law_620 rfl ?_
    refine T_if_ne (tgt := 637) dL_law_622 rfl (fun y => absurd rfl y) (fun _ => ?_)
    refine T_aload_n dL_law_625 rfl ?_
    refine T_iconst (v := nI 0) dL_law_626 rfl ?_
    refine T_laload (a := 129) (n := 1) dL_law_627 (mFz_get (k := 129) (e := .inr (.inl (3, 1))) rfl) (nI_in2 (by decide) (by decide)) ?_
    refine T_iload dL_law_628 rfl ?_
    refine T_i2l dL_law_630 ?_
    refine T_lcmp dL_law_631 ?_
    refine T_if_eq (tgt := 637) dL_law_632 rfl (fun _ => ?_) (fun y => absurd hcmp y)
    refine T_goto (tgt := 1241) dL_law_637 rfl ?_
    exact k1 _ _ _ _ _ (Rel.thrown (h.out _) _) (by omega) (by omega)
  · have hin := Bool.not_eq_true _ ▸ hin
    have hgr : grB (σ 117 14) (gS G (i + 1)) = false := by
      rw [hmm, ← hcm]
      exact hin
    have hm := m_campedA (G := G) (d := 0) (σ := σ) (gS G (i + 1)) (nI 0) hmm h4 hgr
    refine L_campX hl hin hc1 hs1 ?_ (Nat.le_of_ble_eq_true rfl)
    refine T_istore dL_law_581 (Nat.le_of_ble_eq_true rfl) ?_
    refine T_aload_n dL_law_583 rfl ?_
    refine L_arg (j := 1) hN (by omega) dL_law_584 dL_law_585 dL_law_587 rfl dL_law_588 dL_law_589 ?_
    refine L_arg (j := 2) hN (by omega) dL_law_590 dL_law_591 dL_law_593 rfl dL_law_594 dL_law_595 ?_
    refine T_if_eq (tgt := 603) dL_law_596 rfl (fun _ => ?_) (fun y => absurd hz y)
    refine T_iconst (v := nI 0) dL_law_603 rfl ?_
    refine L_call (as := [.int (gS G (i + 1)), .int (nI 0)]) hm dL_law_604 rfl (by decide) rfl rfl rfl rfl ⟨(Nat.le_of_ble_eq_true rfl), (Nat.le_of_ble_eq_true rfl)⟩ (by intro v hv; simp at hv; rcases hv with rfl | rfl <;> rfl) (Nat.le_of_ble_eq_true rfl) (Nat.le_of_ble_eq_true rfl) hc1 hs1 ?_
    refine T_istore dL_law_607 (Nat.le_of_ble_eq_true rfl) ?_
    refine T_aload_n dL_law_609 rfl ?_
    refine L_call (as := []) (v_thrown (d := 0)) dL_law_610 rfl (by decide) rfl rfl rfl rfl ⟨(Nat.le_of_ble_eq_true rfl), (Nat.le_of_ble_eq_true rfl)⟩ (by intro v hv; cases hv) (Nat.le_of_ble_eq_true rfl) (Nat.le_of_ble_eq_true rfl) hc1 hs1 ?_
    refine T_iload dL_law_613 rfl ?_
    refine T_icmp_eq (tgt := 620) dL_law_615 rfl (fun _ => ?_) (fun y => absurd rfl y)
    refine T_iload dL_law_620 rfl ?_
    refine T_if_ne (tgt := 637) dL_law_622 rfl (fun _ => ?_) (fun y => absurd y (by decide))
    refine T_goto (tgt := 1241) dL_law_637 rfl ?_
    exact k1 _ _ _ _ _ (h.thrown _) (by omega) (by omega)
theorem lw_12_1 (hl : (gL G).stackTraces = false) (hN : gN G < 2 ^ 31) (hi : i + 5 < gN G) (h : Rel σ) (hc1 : nc + 1 ≤ 601024) (hs1 : ns + 6 ≤ 7293034) (k1 : ∀ σ2 nc2 ns2 l5 l6, Rel σ2 → nc2 ≤ nc + 1 → ns2 ≤ ns + 6 → mE G 1241 (lwL i l5 l6) [] σ2 nc2 ns2 Q) (hz : gS G (i + 2) ≠ 0) : mE G 556 (lwL i l5 l6) [] σ nc ns Q := by
  have hc : nc ≤ 601024 := by omega
  have hs : ns ≤ 7293034 := by omega
  obtain ⟨n, c, k, j0, m, hT, hC, hU, hP, hF⟩ := id h
  have h4 : c ≤ 4 := hT.1.2.1
  have hcm : σ 4 4 = nI c := hT.2.2.1
  have hmm : σ 117 14 = nI c := hT.1.2.2.2.1
  refine T_aload_n dL_law_556 rfl ?_
  refine L_arg (j := 1) hN (by omega) dL_law_557 dL_law_558 dL_law_560 rfl dL_law_561 dL_law_562 ?_
  refine L_arg (j := 2) hN (by omega) dL_law_563 dL_law_564 dL_law_566 rfl dL_law_567 dL_law_568 ?_
  refine T_if_eq (tgt := 576) dL_law_569 rfl (fun y => absurd y hz) (fun _ => ?_)
  refine T_iconst (v := nI 1) dL_law_572 rfl ?_
  refine T_goto (tgt := 577) dL_law_573 rfl ?_
  refine T_aload_n dL_law_577 rfl ?_
  by_cases hin : (decide (nI 0 ≤ gS G (i + 1)) && decide (gS G (i + 1) < σ 4 4)) = true
  · obtain ⟨j, hj, ej⟩ := grB_n (x := σ 4 4) (g := gS G (i + 1)) hcm (by omega) hin
    have hm := m_campedB (G := G) (d := 0) (σ := up σ 132 0 (if nI 1 = 0 then σ 8 j else σ 9 j)) (nI 1) hmm hj h4
    have hcv := (hT.2.2.2.2.2.1 j hj).2
    have hcv : σ 9 j = σ 117 (15 + 2 * j + 1) := hcv
    have hcmp : lg_cmp (up (up σ 132 0 (if nI 1 = 0 then σ 8 j else σ 9 j)) 116 0 (nI 0) 132 0).toInt64 (up σ 132 0 (if nI 1 = 0 then σ 8 j else σ 9 j) 117 (15 + 2 * j + if nI 1 = 0 then 0 else 1)).toInt64 = 0 := by
      rw [up_n _ _ _ (by decide), up_s, up_n _ _ _ (by decide)]
      rw [if_neg (by decide), if_neg (by decide), hcv]
      exact lg_same _
    rw [ej]
    refine L_campR (j := j) hcm hj h4 hc hs ?_ (Nat.le_of_ble_eq_true rfl)
    refine T_istore dL_law_581 (Nat.le_of_ble_eq_true rfl) ?_
    refine T_aload_n dL_law_583 rfl ?_
    refine L_arg (j := 1) hN (by omega) dL_law_584 dL_law_585 dL_law_587 rfl dL_law_588 dL_law_589 ?_
    refine L_arg (j := 2) hN (by omega) dL_law_590 dL_law_591 dL_law_593 rfl dL_law_594 dL_law_595 ?_
    refine T_if_eq (tgt := 603) dL_law_596 rfl (fun y => absurd y hz) (fun _ => ?_)
    refine T_iconst (v := nI 1) dL_law_599 rfl ?_
    refine T_goto (tgt := 604) dL_law_600 rfl ?_
    rw [ej]
    refine L_call (as := [.int (nI j), .int (nI 1)]) hm dL_law_604 rfl (by decide) rfl rfl rfl rfl ⟨(Nat.le_of_ble_eq_true rfl), (Nat.le_of_ble_eq_true rfl)⟩ (by intro v hv; simp at hv; rcases hv with rfl | rfl <;> rfl) (Nat.le_of_ble_eq_true rfl) (Nat.le_of_ble_eq_true rfl) hc hs ?_
    refine T_istore dL_law_607 (Nat.le_of_ble_eq_true rfl) ?_
    refine T_aload_n dL_law_609 rfl ?_
    refine L_call (as := []) (v_thrown (d := 0)) dL_law_610 rfl (by decide) rfl rfl rfl rfl ⟨(Nat.le_of_ble_eq_true rfl), (Nat.le_of_ble_eq_true rfl)⟩ (by intro v hv; cases hv) (Nat.le_of_ble_eq_true rfl) (Nat.le_of_ble_eq_true rfl) hc hs ?_
    refine T_iload dL_law_613 rfl ?_
    refine T_icmp_eq (tgt := 620) dL_law_615 rfl (fun _ => ?_) (fun y => absurd rfl y)
    refine T_iload dL_law_620 rfl ?_
    refine T_if_ne (tgt := 637) dL_law_622 rfl (fun y => absurd rfl y) (fun _ => ?_)
    refine T_aload_n dL_law_625 rfl ?_
    refine T_iconst (v := nI 0) dL_law_626 rfl ?_
    refine T_laload (a := 129) (n := 1) dL_law_627 (mFz_get (k := 129) (e := .inr (.inl (3, 1))) rfl) (nI_in2 (by decide) (by decide)) ?_
    refine T_iload dL_law_628 rfl ?_
    refine T_i2l dL_law_630 ?_
    refine T_lcmp dL_law_631 ?_
    refine T_if_eq (tgt := 637) dL_law_632 rfl (fun _ => ?_) (fun y => absurd hcmp y)
    refine T_goto (tgt := 1241) dL_law_637 rfl ?_
    exact k1 _ _ _ _ _ (Rel.thrown (h.out _) _) (by omega) (by omega)
  · have hin := Bool.not_eq_true _ ▸ hin
    have hgr : grB (σ 117 14) (gS G (i + 1)) = false := by
      rw [hmm, ← hcm]
      exact hin
    have hm := m_campedA (G := G) (d := 0) (σ := σ) (gS G (i + 1)) (nI 1) hmm h4 hgr
    refine L_campX hl hin hc1 hs1 ?_ (Nat.le_of_ble_eq_true rfl)
    refine T_istore dL_law_581 (Nat.le_of_ble_eq_true rfl) ?_
    refine T_aload_n dL_law_583 rfl ?_
    refine L_arg (j := 1) hN (by omega) dL_law_584 dL_law_585 dL_law_587 rfl dL_law_588 dL_law_589 ?_
    refine L_arg (j := 2) hN (by omega) dL_law_590 dL_law_591 dL_law_593 rfl dL_law_594 dL_law_595 ?_
    refine T_if_eq (tgt := 603) dL_law_596 rfl (fun y => absurd y hz) (fun _ => ?_)
    refine T_iconst (v := nI 1) dL_law_599 rfl ?_
    refine T_goto (tgt := 604) dL_law_600 rfl ?_
    refine L_call (as := [.int (gS G (i + 1)), .int (nI 1)]) hm dL_law_604 rfl (by decide) rfl rfl rfl rfl ⟨(Nat.le_of_ble_eq_true rfl), (Nat.le_of_ble_eq_true rfl)⟩ (by intro v hv; simp at hv; rcases hv with rfl | rfl <;> rfl) (Nat.le_of_ble_eq_true rfl) (Nat.le_of_ble_eq_true rfl) hc1 hs1 ?_
    refine T_istore dL_law_607 (Nat.le_of_ble_eq_true rfl) ?_
    refine T_aload_n dL_law_609 rfl ?_
    refine L_call (as := []) (v_thrown (d := 0)) dL_law_610 rfl (by decide) rfl rfl rfl rfl ⟨(Nat.le_of_ble_eq_true rfl), (Nat.le_of_ble_eq_true rfl)⟩ (by intro v hv; cases hv) (Nat.le_of_ble_eq_true rfl) (Nat.le_of_ble_eq_true rfl) hc1 hs1 ?_
    refine T_iload dL_law_613 rfl ?_
    refine T_icmp_eq (tgt := 620) dL_law_615 rfl (fun _ => ?_) (fun y => absurd rfl y)
    refine T_iload dL_law_620 rfl ?_
    refine T_if_ne (tgt := 637) dL_law_622 rfl (fun _ => ?_) (fun y => absurd y (by decide))
    refine T_goto (tgt := 1241) dL_law_637 rfl ?_
    exact k1 _ _ _ _ _ (h.thrown _) (by omega) (by omega)
theorem sub6 {L i : Nat} (hL : L ≤ 3072) (hi : i ≤ 3072) : nI L - nI 6 < nI i ↔ L < i + 6 := by
  rw [Int32.lt_iff_toInt_lt, Int32.toInt_sub, nI_toInt (by omega), nI_toInt (by omega), nI_toInt (by omega), Int.bmod_eq_of_le (by omega) (by omega)]
  omega
theorem lw_switch (hl : (gL G).stackTraces = false) (hN2 : gN G < 2 ^ 31) (hi : i + 5 < gN G) (h : Rel σ) (hc : nc + 1 ≤ 601024) (hs : ns + 6 ≤ 7293034) (k1 : ∀ σ2 nc2 ns2 l5 l6, Rel σ2 → nc2 ≤ nc + 1 → ns2 ≤ ns + 6 → mE G 1241 (lwL i l5 l6) [] σ2 nc2 ns2 Q) {t : Nat} (ht : t < 32) : mE G 40 (lwL i l5 l6) [.int (nI t)] σ nc ns Q := by
  match t, ht with
  | 0, _ =>
    refine T_tableIn (off := 120) (tgt := 160) dL_law_40 (by decide) (by decide) (by decide +kernel) rfl ?_
    exact lw_0 hN2 hi h (by omega) (by omega) k1
  | 1, _ =>
    refine T_tableIn (off := 193) (tgt := 233) dL_law_40 (by decide) (by decide) (by decide +kernel) rfl ?_
    exact lw_1 hN2 hi h (by omega) (by omega) k1
  | 2, _ =>
    refine T_tableIn (off := 218) (tgt := 258) dL_law_40 (by decide) (by decide) (by decide +kernel) rfl ?_
    exact lw_2 hN2 hi h (by omega) (by omega) k1
  | 3, _ =>
    refine T_tableIn (off := 231) (tgt := 271) dL_law_40 (by decide) (by decide) (by decide +kernel) rfl ?_
    exact lw_3 hN2 hi h (by omega) (by omega) k1
  | 4, _ =>
    refine T_tableIn (off := 244) (tgt := 284) dL_law_40 (by decide) (by decide) (by decide +kernel) rfl ?_
    exact lw_4 hN2 hi h (by omega) (by omega) k1
  | 5, _ =>
    refine T_tableIn (off := 281) (tgt := 321) dL_law_40 (by decide) (by decide) (by decide +kernel) rfl ?_
    exact lw_5 hN2 hi h (by omega) (by omega) k1
  | 6, _ =>
    refine T_tableIn (off := 318) (tgt := 358) dL_law_40 (by decide) (by decide) (by decide +kernel) rfl ?_
    exact lw_6 hN2 hi h (by omega) (by omega) k1
  | 7, _ =>
    refine T_tableIn (off := 355) (tgt := 395) dL_law_40 (by decide) (by decide) (by decide +kernel) rfl ?_
    exact lw_7 hN2 hi h (by omega) (by omega) k1
  | 8, _ =>
    refine T_tableIn (off := 392) (tgt := 432) dL_law_40 (by decide) (by decide) (by decide +kernel) rfl ?_
    exact lw_8 hN2 hi h (by omega) (by omega) k1
  | 9, _ =>
    refine T_tableIn (off := 417) (tgt := 457) dL_law_40 (by decide) (by decide) (by decide +kernel) rfl ?_
    exact lw_9 hN2 hi h (by omega) (by omega) k1
  | 10, _ =>
    refine T_tableIn (off := 478) (tgt := 518) dL_law_40 (by decide) (by decide) (by decide +kernel) rfl ?_
    exact lw_10 hN2 hi h (by omega) (by omega) k1
  | 11, _ =>
    refine T_tableIn (off := 491) (tgt := 531) dL_law_40 (by decide) (by decide) (by decide +kernel) rfl ?_
    exact lw_11 hN2 hi h (by omega) (by omega) k1
  | 12, _ =>
    refine T_tableIn (off := 516) (tgt := 556) dL_law_40 (by decide) (by decide) (by decide +kernel) rfl ?_
    exact (if hz : gS G (i + 2) = 0 then lw_12_0 hl hN2 hi h (by omega) (by omega) k1 hz else lw_12_1 hl hN2 hi h (by omega) (by omega) k1 hz)
  | 13, _ =>
    refine T_tableIn (off := 600) (tgt := 640) dL_law_40 (by decide) (by decide) (by decide +kernel) rfl ?_
    exact lw_13 hN2 hi h (by omega) (by omega) k1
  | 14, _ =>
    refine T_tableIn (off := 649) (tgt := 689) dL_law_40 (by decide) (by decide) (by decide +kernel) rfl ?_
    exact lw_14 hN2 hi h (by omega) (by omega) k1
  | 15, _ =>
    refine T_tableIn (off := 686) (tgt := 726) dL_law_40 (by decide) (by decide) (by decide +kernel) rfl ?_
    exact lw_15 hN2 hi h (by omega) (by omega) k1
  | 16, _ =>
    refine T_tableIn (off := 723) (tgt := 763) dL_law_40 (by decide) (by decide) (by decide +kernel) rfl ?_
    exact lw_16 hN2 hi h (by omega) (by omega) k1
  | 17, _ =>
    refine T_tableIn (off := 772) (tgt := 812) dL_law_40 (by decide) (by decide) (by decide +kernel) rfl ?_
    exact lw_17 hN2 hi h (by omega) (by omega) k1
  | 18, _ =>
    refine T_tableIn (off := 821) (tgt := 861) dL_law_40 (by decide) (by decide) (by decide +kernel) rfl ?_
    exact lw_18 hN2 hi h (by omega) (by omega) k1
  | 19, _ =>
    refine T_tableIn (off := 858) (tgt := 898) dL_law_40 (by decide) (by decide) (by decide +kernel) rfl ?_
    exact lw_19 hN2 hi h (by omega) (by omega) k1
  | 20, _ =>
    refine T_tableIn (off := 919) (tgt := 959) dL_law_40 (by decide) (by decide) (by decide +kernel) rfl ?_
    exact lw_20 hN2 hi h (by omega) (by omega) k1
  | 21, _ =>
    refine T_tableIn (off := 956) (tgt := 996) dL_law_40 (by decide) (by decide) (by decide +kernel) rfl ?_
    exact lw_21 hN2 hi h (by omega) (by omega) k1
  | 22, _ =>
    refine T_tableIn (off := 993) (tgt := 1033) dL_law_40 (by decide) (by decide) (by decide +kernel) rfl ?_
    exact lw_22 hN2 hi h (by omega) (by omega) k1
  | 23, _ =>
    refine T_tableIn (off := 1042) (tgt := 1082) dL_law_40 (by decide) (by decide) (by decide +kernel) rfl ?_
    exact lw_23 hN2 hi h (by omega) (by omega) k1
  | 24, _ =>
    refine T_tableIn (off := 1103) (tgt := 1143) dL_law_40 (by decide) (by decide) (by decide +kernel) rfl ?_
    exact lw_24 hN2 hi h (by omega) (by omega) k1
  | 25, _ =>
    refine T_tableIn (off := 1152) (tgt := 1192) dL_law_40 (by decide) (by decide) (by decide +kernel) rfl ?_
    exact lw_25 hN2 hi h (by omega) (by omega) k1
  | t + 26, ht =>
    refine T_tableOut (tgt := 1241) dL_law_40 (by rw [nI_toInt (by omega)]; omega) rfl ?_
    exact k1 σ nc ns l5 l6 h (by omega) (by omega)

theorem lw_loop (hl : (gL G).stackTraces = false) (hN : gN G ≤ 3072) (hQ : ∀ μ, Q (some (.int (nI 1))) μ false) : ∀ q i σ nc ns l5 l6, gN G + 6 ≤ i + q → i ≤ gN G → nc ≤ 130 + i → ns ≤ 13071 + i → Rel σ → mE G 23 (lwL i l5 l6) [] σ nc ns Q := by
  have hN2 : gN G < 2 ^ 31 := by omega
  intro q
  induction q using Nat.strongRecOn with
  | _ q ih =>
  intro i σ nc ns l5 l6 hq hiN hnc hns h
  refine T_iload dL_law_23 rfl ?_
  refine T_aload_n dL_law_25 rfl ?_
  refine T_alenX dL_law_26 ?_
  refine T_bipush (v := nI 6) dL_law_27 rfl ?_
  refine T_isub dL_law_29 ?_
  refine T_icmp_gt (tgt := 1247) dL_law_30 rfl (fun c30 => ?_) (fun c30 => ?_)
  · refine T_iconst (v := nI 1) dL_law_1247 rfl ?_
    exact T_zret dL_law_1248 rfl (Or.inr rfl) (by omega) (by omega) (hQ _)
  · have hi : i + 5 < gN G := by
      have := mt (sub6 (i := i) hN (by omega)).mpr c30
      omega
    refine T_aload_n dL_law_33 rfl ?_
    refine T_iload dL_law_34 rfl ?_
    refine T_ialoadX (a := 2) dL_law_36 (by decide) (vp_in_nI (show i < gN G by omega) hN2) ?_
    refine T_bipush (v := nI 31) dL_law_37 rfl ?_
    refine T_iand dL_law_39 ?_
    obtain ⟨t, ht, et⟩ := pk_andE ((mXr G 2).2 (nI i).toNatClampNeg) (m := nI 31) 5 (by decide +kernel)
    rw [et]
    refine lw_switch hl hN2 hi h (by omega) (by omega) (fun σ2 nc2 ns2 l5 l6 h2 hn2 hs2 => ?_) (show t < 32 from ht)
    refine T_iinc (v := nI (i + 6)) dL_law_1241 rfl ?_ ?_
    · show nI i + nI 6 = nI (i + 6)
      exact nI_add2 i 6
    refine T_goto (tgt := 23) dL_law_1244 rfl ?_
    exact ih (q - 6) (by omega) (i + 6) σ2 nc2 ns2 l5 l6 (by omega) (by omega) (by omega) (by omega) h2
end LC
