/-! ===== the small machine: the library, new cells, calls ===== -/
section CA
variable {G : mG} {I : mI} {d mc ms pc : Nat} {lo : List (Option Value)} {st : List Value} {μ : List va_E} {ex : Bool} {nc ns : Nat} {Q : mQ}
theorem mCatSum (G : mG) (st : List Value) : ((st.map (mTr G)).map fun v => v.category).sum = (st.map fun v => v.category).sum := by
  rw [List.map_map]
  congr 1
  exact List.map_congr_left (fun v _ => mTr_cat G v)
theorem T_objInit {i a : Nat} (hd : decode I.2.1 pc = .ok (.invokespecial i, 3)) (ho : mOwn.getD I.2.2.2.2.1 "" = I.1.cls) (hf : (mLi I.2.2.2.2.1).lookup i = some 0) (hst : (st.map fun v => v.category).sum ≤ 8) (k : mT G I d mc ms (pc + 3) lo st μ ex nc ns Q) : mT G I d mc ms pc lo (.ref a :: st) μ ex nc ns Q := by
  intro p e s m args below meth c H locs ls F hP hS hX hl hn hc
  exact W.objInit F.1 F.2.1 (F.own ho) (F.ts _ (mLi_ok _ _ (mLk hf))) (F.ts _ mW_oi) (F.ts _ mW_oc) rfl (by rw [F.2.2.2.2.1]; exact hl.1) rfl hd (by simp [mRoom]) (by rw [mCatSum]; show 2 * 0 + _ + 12 ≤ 60 * (d + 1); omega) (k p e s m args below meth c H locs ls F hP hS hX hl hn hc)
theorem T_min {i : Nat} {x y : Int32} (hd : decode I.2.1 pc = .ok (.invokestatic i, 3)) (ho : mOwn.getD I.2.2.2.2.1 "" = I.1.cls) (hf : (mLi I.2.2.2.2.1).lookup i = some 1) (hst : (st.map fun v => v.category).sum ≤ 8) (hc1 : nc ≤ mc) (hs1 : ns ≤ ms) (k : mT G I d mc ms (pc + 3) lo (.int (if y < x then y else x) :: st) μ ex nc ns Q) : mT G I d mc ms pc lo (.int y :: .int x :: st) μ ex nc ns Q := by
  intro p e s m args below meth c H locs ls F hP hS hX hl hn hc
  exact va_mmin F.1 F.2.1 (by rw [F.2.2.2.2.1]; exact hl.1.symm) (F.own ho) (F.ts _ (mLi_ok _ _ (mLk hf))) (F.ts _ mW_mins) (F.ts _ mW_math) (F.ts _ mW_minc) (by simp [mRoom]) (by rw [mCatSum]; show _ + 13 ≤ 60 * (d + 1); omega) hc1 hs1 hd (k p e s m args below meth c H locs ls F hP hS hX hl hn hc)
theorem T_max {i : Nat} {x y : Int32} (hd : decode I.2.1 pc = .ok (.invokestatic i, 3)) (ho : mOwn.getD I.2.2.2.2.1 "" = I.1.cls) (hf : (mLi I.2.2.2.2.1).lookup i = some 2) (hst : (st.map fun v => v.category).sum ≤ 8) (hc1 : nc ≤ mc) (hs1 : ns ≤ ms) (k : mT G I d mc ms (pc + 3) lo (.int (if x < y then y else x) :: st) μ ex nc ns Q) : mT G I d mc ms pc lo (.int y :: .int x :: st) μ ex nc ns Q := by
  intro p e s m args below meth c H locs ls F hP hS hX hl hn hc
  exact va_mmax F.1 F.2.1 (by rw [F.2.2.2.2.1]; exact hl.1.symm) (F.own ho) (F.ts _ (mLi_ok _ _ (mLk hf))) (F.ts _ mW_maxs) (F.ts _ mW_math) (F.ts _ mW_maxc) (by simp [mRoom]) (by rw [mCatSum]; show _ + 13 ≤ 60 * (d + 1); omega) hc1 hs1 hd (k p e s m args below meth c H locs ls F hP hS hX hl hn hc)
theorem T_copy {i a b n0 n1 : Nat} {f g : Nat → Int32} {sp dp n : Int32} (hd : decode I.2.1 pc = .ok (.invokestatic i, 3)) (ho : mOwn.getD I.2.2.2.2.1 "" = I.1.cls) (hf : (mLi I.2.2.2.2.1).lookup i = some 3) (hst : (st.map fun v => v.category).sum ≤ 8) (ha : μ[a]? = some (.inl (0, n0, .inl f))) (hb : μ[b]? = some (.inl (0, n1, .inl g))) (h1 : ¬ sp < 0) (h2 : ¬ dp < 0) (h3 : ¬ n < 0) (h4 : sp.toNatClampNeg + n.toNatClampNeg ≤ n0) (h5 : dp.toNatClampNeg + n.toNatClampNeg ≤ n1) (k : mT G I d mc ms (pc + 3) lo st (μ.set b (.inl (0, n1, .inl (va_cpy f g sp.toNatClampNeg dp.toNatClampNeg n.toNatClampNeg)))) ex nc ns Q) : mT G I d mc ms pc lo (.int n :: .int dp :: .ref (b + 3) :: .int sp :: .ref (a + 3) :: st) μ ex nc ns Q := by
  intro p e s m args below meth c H locs ls F hP hS hX hl hn hc
  have he : (mWs G μ)[a]? = some (mAd G (a + 3), .inl (gC G 0, n0, .inl f)) := by rw [mAd_c]; exact mWs_at ha
  have he2 : (mWs G μ)[b]? = some (mAd G (b + 3), .inl (gC G 0, n1, .inl g)) := by rw [mAd_c]; exact mWs_at hb
  have h9 : nativeFrameWords "java/lang/System" "arraycopy" 5 + 11 ≤ 40 := by decide +kernel
  have h8 : ((st.map (mTr G)).map fun v => v.category).sum + (nativeFrameWords "java/lang/System" "arraycopy" 5 + 11) ≤ (mRoom d mc ms).locals := by
    rw [mCatSum]
    show _ + _ ≤ 60 * (d + 1)
    omega
  have h7 : 1 ≤ (mRoom d mc ms).frames := Nat.le_add_left 1 d
  exact va_copyi F.1 F.2.1 (by rw [F.2.2.2.2.1]; exact hl.1.symm) (F.own ho) (F.ts _ (mLi_ok _ _ (mLk hf))) (F.ts _ mW_acn) (F.ts _ mW_acs) (F.ts _ mW_sys) F.wd.1 hP (mWs_D G μ) (mHS hS) a b 0 0 he he2 rfl rfl rfl h1 h2 h3 h4 h5 (fun _ _ => rfl) h7 h8 hd (fun H1 locs1 hP1 _ hS1 => mWsz fun hz => k p e s m args below meth c H1 locs1 ls F (mSetP hP1) (mHS2 hS hS1) (mSz hX hS1 hz (List.length_set ..)) hl hn hc)
/-- a new cell lies at the end -/
theorem mNew {s : State} {H H1 : Heap} {q : Nat} {e : va_E} {n0 : Nat} (hX : H.size = gB G + μ.length ∧ H.size = s.heap.size + n0) (hP1 : va_P (gD G) mCl (mWs G μ ++ [(q, e)]) H1) (hD1 : va_D (mA G) (mWs G μ ++ [(q, e)])) (hz : H1.size ≤ s.heap.size + (n0 + 1)) : q = mAd G (μ.length + 3) ∧ H1.size = gB G + (μ.length + 1) ∧ H1.size = s.heap.size + (n0 + 1) := by
  have hq : (mWs G μ ++ [(q, e)])[μ.length]? = some (q, e) := by rw [List.getElem?_append_right (by rw [mWs_len]; exact Nat.le_refl _), mWs_len]; simp
  have h1 : q < H1.size := (hP1 _ _ hq).lt
  have h2 : gB G ≤ q := hD1.2 _ _ hq
  rw [mAd_c]
  have h3 : ¬ q < gB G + μ.length := by
    intro h
    have hk : q - gB G < μ.length := by omega
    have h4 : (mWs G μ ++ [(q, e)])[q - gB G]? = some (gB G + (q - gB G), mTrE G μ[q - gB G]) := by
      rw [List.getElem?_append_left (by rw [mWs_len]; exact hk)]
      exact mWs_at (List.getElem?_eq_getElem hk)
    have h5 := hD1.1 _ _ _ _ h4 hq (show gB G + (q - gB G) = q by omega)
    omega
  omega
theorem mNewP {H1 : Heap} {q : Nat} {e : va_E} (hq : q = mAd G (μ.length + 3)) (hP1 : va_P (gD G) mCl (mWs G μ ++ [(q, mTrE G e)]) H1) : va_P (gD G) mCl (mWs G (μ ++ [e])) H1 := by
  rw [mWs_push, ← mAd_c, ← hq]
  exact hP1
theorem T_new_int {n : Int32} {N : Nat} (hd : decode I.2.1 pc = .ok (.newarray .int, 2)) (hx : ex = true) (hn0 : ¬ n < 0) (hN : n.toNatClampNeg = N) (hb : N ≤ 100000) (hc1 : nc + 1 ≤ mc) (hs1 : ns + N ≤ ms) (k : mT G I d mc ms (pc + 2) lo (.ref (μ.length + 3) :: st) (μ ++ [.inl (0, N, .inl (fun _ => 0))]) ex (nc + 1) (ns + N) Q) : mT G I d mc ms pc lo (.int n :: st) μ ex nc ns Q := by
  intro p e s m args below meth c H locs ls F hP hS hX hl hn hc
  refine va_newa (atype := .int) F.1 F.2.1 (F.ts _ mW_aint) (ty := .int) rfl F.wd.1 hP (mWs_D G μ) (mHS hS) (fun q h => Nat.le_trans (by rw [(hX hx).1]; exact Nat.le_add_right _ _) h) (a0 := (N, .inl (fun _ => 0))) (fun _ => rfl) hn0 hN (by show N * 4 ≤ 536870912; omega) hc1 hs1 hd (fun q cA H1 hK1 hP1 hD1 hS1 => mWsz fun hz => ?_)
  have hcA : cA = gC G 0 := by
    have h1 := (hK1.2 5 (cA, .int) rfl).2
    have h2 := (F.wd.1.2 0 (gC G 0, .int) rfl).2
    exact Option.some.inj (h1.symm.trans h2)
  subst hcA
  obtain ⟨hq, hz1, hz2⟩ := mNew (n0 := nc) (hX hx) hP1 hD1 hz
  have hk := k p e s m args below meth c H1 locs ls F (mNewP (e := .inl (0, N, .inl (fun _ => 0))) hq hP1) (mHS2 hS hS1) (fun _ => by rw [List.length_append]; exact ⟨hz1, hz2⟩) hl hn hc
  rw [hq]
  exact hk
theorem T_new_byte {n : Int32} {N : Nat} (hd : decode I.2.1 pc = .ok (.newarray .byte, 2)) (hx : ex = true) (hn0 : ¬ n < 0) (hN : n.toNatClampNeg = N) (hb : N ≤ 100000) (hc1 : nc + 1 ≤ mc) (hs1 : ns + N ≤ ms) (k : mT G I d mc ms (pc + 2) lo (.ref (μ.length + 3) :: st) (μ ++ [.inl (1, N, .inl (fun _ => 0))]) ex (nc + 1) (ns + N) Q) : mT G I d mc ms pc lo (.int n :: st) μ ex nc ns Q := by
  intro p e s m args below meth c H locs ls F hP hS hX hl hn hc
  refine va_newa (atype := .byte) F.1 F.2.1 (F.ts _ mW_abyte) (ty := .byte) rfl F.wd.1 hP (mWs_D G μ) (mHS hS) (fun q h => Nat.le_trans (by rw [(hX hx).1]; exact Nat.le_add_right _ _) h) (a0 := (N, .inl (fun _ => 0))) (fun _ => rfl) hn0 hN (by show N * 1 ≤ 536870912; omega) hc1 hs1 hd (fun q cA H1 hK1 hP1 hD1 hS1 => mWsz fun hz => ?_)
  have hcA : cA = gC G 1 := by
    have h1 := (hK1.2 5 (cA, .byte) rfl).2
    have h2 := (F.wd.1.2 1 (gC G 1, .byte) rfl).2
    exact Option.some.inj (h1.symm.trans h2)
  subst hcA
  obtain ⟨hq, hz1, hz2⟩ := mNew (n0 := nc) (hX hx) hP1 hD1 hz
  have hk := k p e s m args below meth c H1 locs ls F (mNewP (e := .inl (1, N, .inl (fun _ => 0))) hq hP1) (mHS2 hS hS1) (fun _ => by rw [List.length_append]; exact ⟨hz1, hz2⟩) hl hn hc
  rw [hq]
  exact hk
theorem T_new_boolean {n : Int32} {N : Nat} (hd : decode I.2.1 pc = .ok (.newarray .boolean, 2)) (hx : ex = true) (hn0 : ¬ n < 0) (hN : n.toNatClampNeg = N) (hb : N ≤ 100000) (hc1 : nc + 1 ≤ mc) (hs1 : ns + N ≤ ms) (k : mT G I d mc ms (pc + 2) lo (.ref (μ.length + 3) :: st) (μ ++ [.inl (2, N, .inl (fun _ => 0))]) ex (nc + 1) (ns + N) Q) : mT G I d mc ms pc lo (.int n :: st) μ ex nc ns Q := by
  intro p e s m args below meth c H locs ls F hP hS hX hl hn hc
  refine va_newa (atype := .boolean) F.1 F.2.1 (F.ts _ mW_aboolean) (ty := .boolean) rfl F.wd.1 hP (mWs_D G μ) (mHS hS) (fun q h => Nat.le_trans (by rw [(hX hx).1]; exact Nat.le_add_right _ _) h) (a0 := (N, .inl (fun _ => 0))) (fun _ => rfl) hn0 hN (by show N * 1 ≤ 536870912; omega) hc1 hs1 hd (fun q cA H1 hK1 hP1 hD1 hS1 => mWsz fun hz => ?_)
  have hcA : cA = gC G 2 := by
    have h1 := (hK1.2 5 (cA, .boolean) rfl).2
    have h2 := (F.wd.1.2 2 (gC G 2, .boolean) rfl).2
    exact Option.some.inj (h1.symm.trans h2)
  subst hcA
  obtain ⟨hq, hz1, hz2⟩ := mNew (n0 := nc) (hX hx) hP1 hD1 hz
  have hk := k p e s m args below meth c H1 locs ls F (mNewP (e := .inl (2, N, .inl (fun _ => 0))) hq hP1) (mHS2 hS hS1) (fun _ => by rw [List.length_append]; exact ⟨hz1, hz2⟩) hl hn hc
  rw [hq]
  exact hk
theorem T_new_long {n : Int32} {N : Nat} (hd : decode I.2.1 pc = .ok (.newarray .long, 2)) (hx : ex = true) (hn0 : ¬ n < 0) (hN : n.toNatClampNeg = N) (hb : N ≤ 100000) (hc1 : nc + 1 ≤ mc) (hs1 : ns + N ≤ ms) (k : mT G I d mc ms (pc + 2) lo (.ref (μ.length + 3) :: st) (μ ++ [.inl (3, N, .inr (.inl (fun _ => 0)))]) ex (nc + 1) (ns + N) Q) : mT G I d mc ms pc lo (.int n :: st) μ ex nc ns Q := by
  intro p e s m args below meth c H locs ls F hP hS hX hl hn hc
  refine va_newa (atype := .long) F.1 F.2.1 (F.ts _ mW_along) (ty := .long) rfl F.wd.1 hP (mWs_D G μ) (mHS hS) (fun q h => Nat.le_trans (by rw [(hX hx).1]; exact Nat.le_add_right _ _) h) (a0 := (N, .inr (.inl (fun _ => 0)))) (fun _ => rfl) hn0 hN (by show N * 8 ≤ 536870912; omega) hc1 hs1 hd (fun q cA H1 hK1 hP1 hD1 hS1 => mWsz fun hz => ?_)
  have hcA : cA = gC G 3 := by
    have h1 := (hK1.2 5 (cA, .long) rfl).2
    have h2 := (F.wd.1.2 3 (gC G 3, .long) rfl).2
    exact Option.some.inj (h1.symm.trans h2)
  subst hcA
  obtain ⟨hq, hz1, hz2⟩ := mNew (n0 := nc) (hX hx) hP1 hD1 hz
  have hk := k p e s m args below meth c H1 locs ls F (mNewP (e := .inl (3, N, .inr (.inl (fun _ => 0)))) hq hP1) (mHS2 hS hS1) (fun _ => by rw [List.length_append]; exact ⟨hz1, hz2⟩) hl hn hc
  rw [hq]
  exact hk
theorem T_new_told {i : Nat} {n : Int32} {N : Nat} (hd : decode I.2.1 pc = .ok (.anewarray i, 3)) (ho : mOwn.getD I.2.2.2.2.1 "" = I.1.cls) (hf : (mNw I.2.2.2.2.1).lookup i = some 3) (hx : ex = true) (hn0 : ¬ n < 0) (hN : n.toNatClampNeg = N) (hb : N ≤ 100000) (hc1 : nc + 1 ≤ mc) (hs1 : ns + N ≤ ms) (k : mT G I d mc ms (pc + 3) lo (.ref (μ.length + 3) :: st) (μ ++ [.inl (4, N, .inr (.inr (.inr (.inr (fun _ => none)))))]) ex (nc + 1) (ns + N) Q) : mT G I d mc ms pc lo (.int n :: st) μ ex nc ns Q := by
  intro p e s m args below meth c H locs ls F hP hS hX hl hn hc
  obtain ⟨r, hr, hw, -⟩ := mNw_ok _ _ (mLk hf)
  have hr : r = (RX3, TX3, 9) := (Option.some.inj hr).symm
  subst hr
  refine va_newq F.1 F.2.1 (F.own ho) (F.ts _ hw) F.wd.2.2.2.1.1 F.wd.1 hP (mWs_D G μ) (mHS hS) (fun q h => Nat.le_trans (by rw [(hX hx).1]; exact Nat.le_add_right _ _) h) hn0 hN (by omega) hc1 hs1 hd (fun q cA H1 hK1 hP1 hD1 hS1 => mWsz fun hz => ?_)
  have hcA : cA = gC G 4 := by
    obtain ⟨_, _, -, -, -, h1⟩ := (hK1.2 5 (cA, .object RX3) rfl).2
    obtain ⟨_, _, -, -, -, h2⟩ := (F.wd.1.2 4 (gC G 4, .object RX3) rfl).2
    exact Option.some.inj (h1.symm.trans h2)
  subst hcA
  obtain ⟨hq, hz1, hz2⟩ := mNew (n0 := nc) (hX hx) hP1 hD1 hz
  have hk := k p e s m args below meth c H1 locs ls F (mNewP (e := .inl (4, N, .inr (.inr (.inr (.inr (fun _ => none)))))) hq hP1) (mHS2 hS hS1) (fun _ => by rw [List.length_append]; exact ⟨hz1, hz2⟩) hl hn hc
  rw [hq]
  exact hk
theorem T_new {i ci : Nat} {r : vw_C} {ty : Nat → FieldType} {fs : List Value} (hd : decode I.2.1 pc = .ok (.new i, 3)) (ho : mOwn.getD I.2.2.2.2.1 "" = I.1.cls) (hf : (mNw I.2.2.2.2.1).lookup i = some ci) (hr : mCl[ci]? = some r) (hty : ∀ k, k < r.2.2 → parseFieldDescriptor (r.2.1 k).2.2.1 = some (ty k)) (hfs : ∀ j, j < r.2.2 → defaultValue (ty j) = vp_V fs j) (hfn : fs.map (mTr G) = fs) (hx : ex = true) (hc1 : nc + 1 ≤ mc) (hs1 : ns + r.2.2 ≤ ms) (k : mT G I d mc ms (pc + 3) lo (.ref (μ.length + 3) :: st) (μ ++ [.inr (ci, fs)]) ex (nc + 1) (ns + r.2.2) Q) : mT G I d mc ms pc lo st μ ex nc ns Q := by
  intro p e s m args below meth c H locs ls F hP hS hX hl hn hc
  obtain ⟨r2, hr2, hw, hw2, hw3⟩ := mNw_ok _ _ (mLk hf)
  cases hr.symm.trans hr2
  obtain ⟨hin, -⟩ := mCl_ok _ _ hr
  refine va_new (C := r.1) (T := r.2.1) (N := r.2.2) F.1 F.2.1 F.ts hin ty hty (F.own ho) (F.ts _ hw) (F.ts _ hw2) (F.ts _ hw3) F.wd.1 hP (mWs_D G μ) (mHS hS) (fun q h => Nat.le_trans (by rw [(hX hx).1]; exact Nat.le_add_right _ _) h) hr hfs hc1 hs1 hd (fun q H1 hP1 hD1 hS1 => mWsz fun hz => ?_)
  obtain ⟨hq, hz1, hz2⟩ := mNew (n0 := nc) (hX hx) hP1 hD1 hz
  have hk := k p e s m args below meth c H1 locs ls F (mNewP (e := .inr (ci, fs)) hq (by show va_P _ _ (_ ++ [(q, .inr (ci, fs.map (mTr G)))]) _; rw [hfn]; exact hP1)) (mHS2 hS hS1) (fun _ => by rw [List.length_append]; exact ⟨hz1, hz2⟩) hl hn hc
  rw [hq]
  exact hk
theorem mStr_moved {s U : State} {H : Heap} {locs : List Loc} (h : mStr G s) (hW : s.WarmedH U.vm) (hU : U.heap = H) (hS : va_S (mA G) s.heap H locs) : mStr G U := by
  obtain ⟨h1, h2, h3, h4, h5, h6, h7⟩ := h
  subst hU
  exact ⟨fun i hi => vk_R.warm hW (h1 i hi), vk_R.warm hW h2, vk_S.moved hW.alike (h3.kept hS.2.1), va_Z.moved hW.alike (h4.kept hS.2.1), vx_Zq.moved hW.alike (h5.kept hS.2.1), vx_Zq.moved hW.alike (h6.kept hS.2.1), h7.imp (fun h => va_Z.moved hW.alike (h.kept hS.2.1)) (fun h => va_Z.moved hW.alike (h.kept hS.2.1))⟩
theorem mWd_moved {s U : State} {H : Heap} {locs : List Loc} (h : mWd G s) (hW : s.WarmedH U.vm) (hU : U.heap = H) (hS : va_S (mA G) s.heap H locs) : mWd G U := by
  obtain ⟨h1, h2, h3, ⟨h4, h4s⟩, ⟨h5, h6⟩, ⟨h7, h8⟩, h9, h10, h11⟩ := h
  have h4t := mStr_moved h4s hW hU hS
  subst hU
  refine ⟨va_K.moved hW.alike h1, fun w hw hn => ?_, Nat.le_trans h3 hS.1, ⟨va_AO.moved hW.alike h4, h4t⟩, ⟨va_Z.moved hW.alike (h5.kept hS.2.1), va_T.moved hW.alike (h6.kept hS.2.1)⟩, ⟨va_Z.moved hW.alike (h7.kept hS.2.1), va_T.moved hW.alike (h8.kept hS.2.1)⟩, va_X.moved hW.alike (h9.kept (hS.2.1 _ (Nat.lt_of_lt_of_le h10 h3) (Nat.not_le.mpr h10))), h10, h11⟩
  have h0 := h2 w hw hn
  cases w <;> first | exact va_Nw.warmF hW h0 | exact va_Nw.warmM hW h0 | exact va_Nw.warmD hW h0 | exact va_Nw.warmC hW h0 | exact absurd hn (by simp [mIsNest])
def mPc (G : mG) (as : List Value) (μ : List va_E) (ex : Bool) : Array Value → State → Prop := fun v U => v = (as.map (mTr G)).toArray ∧ mWd G U ∧ va_P (gD G) mCl (mWs G μ) U.heap ∧ (ex = true → U.heap.size = gB G + μ.length)
def mWsJ (J : mI) : List Cond := .code J.1 J.2.1 J.2.2.1 J.2.2.2.1 :: mGood
theorem mPc_blind {as : List Value} : FrameBlind (mPc G as μ ex) := by
  intro a U g mk h
  obtain ⟨h1, h2, h3, h4⟩ := h
  exact ⟨h1, mWd_moved (U := U.calling g mk a) (H := U.heap) h2 (State.WarmedH.refl U) rfl va_S.rf, h3, h4⟩
theorem mArgs {vs : List Value} (hc : ∀ v ∈ vs, v.category = 1) : ∀ (k i : Nat) (v : Value), vs[i]? = some v → (k + i, v) ∈ lv_args k vs := by
  induction vs with
  | nil => intro k i v h; simp at h
  | cons w t ih =>
    intro k i v h
    have hw : w.category = 1 := hc w List.mem_cons_self
    have he : lv_args k (w :: t) = (k, w) :: lv_args (k + 1) t := by simp [lv_args, hw]
    rw [he]
    cases i with
    | zero =>
      cases h
      exact List.mem_cons_self
    | succ i =>
      have := ih (fun v hv => hc v (List.mem_cons_of_mem _ hv)) (k + 1) i v h
      rw [show k + (i + 1) = k + 1 + i by omega]
      exact List.mem_cons_of_mem _ this
theorem mSlc {vs : List Value} (hc : ∀ v ∈ vs, v.category = 1) : (lg_sl vs).length = vs.length := by
  induction vs with
  | nil => rfl
  | cons w t ih =>
    have hw : w.category = 1 := hc w List.mem_cons_self
    have := ih (fun v hv => hc v (List.mem_cons_of_mem _ hv))
    simp only [lg_sl, List.flatMap_cons, hw] at this ⊢
    simp [this]
theorem mLo_get {J : mI} {as : List Value} {i : Nat} {v : Value} (h : (mLo J as)[i]? = some (some v)) : as[i]? = some v := by
  unfold mLo at h
  by_cases hi : i < (as.map some).length
  · rw [List.getElem?_append_left hi, List.getElem?_map] at h
    obtain ⟨w, hw, hv⟩ := Option.map_eq_some_iff.mp h
    cases hv
    exact hw
  · rw [List.getElem?_append_right (by omega)] at h
    have := List.mem_of_getElem? h
    rw [List.mem_replicate] at this
    exact absurd this.2 (by simp)
theorem mGood_in {J : mI} (hJ : mJOk J) : GoodIn mGood (mWsJ J) := by
  intro w hw
  have h1 : w ∈ mGood := by
    rcases List.mem_cons.mp hw with rfl | h
    · exact hJ.1
    · exact h
  exact ⟨h1, good_of_word (List.mem_filter.mp h1).2⟩
/-- a walk from the method's first place is a contract -/
theorem mMet {J : mI} {as : List Value} (hJ : plainName J.1.cls = true) (hlen : as.length ≤ J.2.2.1) (hcat : ∀ v ∈ as, v.category = 1) (h : mC G J d mc ms as μ ex Q) : Met (gL G) J.1 (mWsJ J) (mRoom d mc ms) (mPc G as μ ex) (mQc G Q) mc ms (mA G) := by
  refine Met.ofW (cc := J.2.1) (maxL := J.2.2.1) (ret := J.2.2.2.1) hJ rfl ?_
  intro p e s m args below meth c s₁ B hml hv
  obtain ⟨rfl, hwd, hP, hX⟩ := hv
  have hts := atoms_spec (ws := mWsJ J) B.pre
  have hcv : ∀ v ∈ as.map (mTr G), v.category = 1 := by
    intro v hv
    obtain ⟨w, hw, rfl⟩ := List.mem_map.mp hv
    rw [mTr_cat]; exact hcat w hw
  have hsl := mSlc hcv
  have hl := lv_entry (as.map (mTr G)) (n := J.2.2.1) (by rw [hsl, List.length_map]; exact hlen)
  rw [lg_entry_eq]
  refine h p e s m _ below meth c s.heap [] _ ⟨B.exec, B.bytes, B.returns, B.notSynchronized, hml, findClass_of_methodNamed B.named, (name_of_methodNamed B.named B.method).1, fun w hw => hts w (List.mem_cons_of_mem _ hw), hwd⟩ hP va_S.rf (fun h => ⟨hX h, rfl⟩) ⟨hl.1, hl.2.1, fun q hq => ?_⟩ ?_ ?_
  · obtain ⟨v, h1, h2⟩ := mPr_inv hq
    have h3 := mLo_get h1
    have h4 : (as.map (mTr G))[q.1]? = some (mTr G v) := by rw [List.getElem?_map, h3]; rfl
    have h5 := mArgs hcv 0 q.1 _ h4
    rw [Nat.zero_add] at h5
    rw [h2]
    exact hl.2.2 _ h5
  · simp [mLo]; omega
  · intro v hv
    obtain ⟨i, hi⟩ := List.getElem?_of_mem hv
    exact hcat v (List.mem_of_getElem? (mLo_get hi))
/-- behind a call -/
theorem mGo {p : Program} {e : Env} {s : State} {m : MethodId} {args : Array Value} {below : List Frame} {meth : Method} {c : Code} {H : Heap} {locs : List Loc} {ls : Array Slot} {st0 rest : List Value} {mc' ms' : Nat} {a : Array Value} {Q' : mQ} {Qs : State → Prop} {R : Room} {l : Launch}
    (hr : va_Run p l e R s m args below meth c H locs nc ns mc' ms' (F0 m pc ls st0) rest (mQc G Q' a) (mA G)) (hS : va_S (mA G) s.heap H locs)
    (kk : ∀ (r : Option Value) (μ' : List va_E) (ex' : Bool) (H1 : Heap) (locs1 : List Loc), Q' r μ' ex' → va_P (gD G) mCl (mWs G μ') H1 → va_S (mA G) s.heap H1 locs1 → (ex' = true → H1.size = gB G + μ'.length) → W p l e R s m args below meth c H1 locs1 (nc + mc') (ns + ms') Qs (F0 m (pc + 3) ls ((r.map (mTr G)).toList ++ rest))) :
    W p l e R s m args below meth c H locs nc ns Qs (F0 m pc ls st0) := by
  intro T hT X
  obtain ⟨v, st₀, t, T', L, h0, X', hL, e1, e2, ⟨⟨r, μ', ex', hq, hv, hp, hx⟩, hz, hk⟩, stp⟩ := hr T hT X
  cases hv
  rw [h0] at hz hk
  obtain ⟨t2, a1, b1⟩ := kk r μ' ex' t.heap (locs ++ L) hq hp ⟨Nat.le_trans hS.1 hz, fun q h1 h2 => (hk q (Nat.lt_of_lt_of_le h1 hS.1) h2).trans (hS.2.1 q h1 h2), fun q hq => (List.mem_append.mp hq).elim (hS.2.2 q) (hL q)⟩ hx T' e1 X'
  exact ⟨t2, stp t2 a1, b1⟩
theorem mSig {J : mI} (hJ : mJOk J) : ∀ sig, parseMethodDescriptor J.1.desc = some sig → J.2.2.2.2.2 = sig.parameters.length := by
  intro sig h
  have h2 := hJ.2.2.1.2.2
  rw [h] at h2
  exact (Option.some.inj h2).symm
theorem mRest (G : mG) (pc : Nat) (ls : Array Slot) (m : MethodId) (s0 st : List Value) (h : (st.map fun v => v.category).sum ≤ 8) : 2 * (F0 m pc ls s0).monitorRoom + ((st.map (mTr G)).map fun v => v.category).sum ≤ 8 := by
  rw [mCatSum]
  show 2 * 0 + _ ≤ 8
  omega
theorem T_callV {a ci kd : Nat} {i d1 mc1 ms1 : Nat} {as : List Value} {J : mI} {Q1 : mQ} {fs : List Value} {r0 : vw_C} (hd : decode I.2.1 pc = .ok (.invokevirtual i, 3)) (ho : mOwn.getD I.2.2.2.2.1 "" = I.1.cls) (hf : (mCa I.2.2.2.2.1).lookup i = some (kd, J)) (hkd : kd = 1 ∨ kd = 4) (ha : μ[a]? = some (.inr (ci, fs))) (hci : mCl[ci]? = some r0) (hcl : r0.1 = J.1.cls) (hnp : as.length = J.2.2.2.2.2) (hml : as.length + 1 ≤ J.2.2.1 ∧ J.2.2.1 ≤ 40) (hcat : ∀ v ∈ as, v.category = 1) (hst : (st.map fun v => v.category).sum ≤ 8) (hdd : d1 < d) (hmc : nc + mc1 ≤ mc) (hms : ns + ms1 ≤ ms) (hC : mC G J d1 mc1 ms1 (.ref (a + 3) :: as) μ ex Q1) (hex : ∀ r μ1 ex1, Q1 r μ1 ex1 → ex1 = true → ex = true ∧ μ1.length = μ.length + mc1) (k : ∀ r μ1 ex1, Q1 r μ1 ex1 → mT G I d mc ms (pc + 3) lo (r.toList ++ st) μ1 ex1 (nc + mc1) (ns + ms1) Q) : mT G I d mc ms pc lo (as.reverse ++ .ref (a + 3) :: st) μ ex nc ns Q := by
  intro p e s m args below meth c H locs ls F hP hS hX hl hn hc
  obtain ⟨hJ, hw⟩ := mCa_ok _ _ (mLk hf)
  have hgi := mGood_in hJ
  have hrm : (mRoom d1 mc1 ms1).frames + 1 ≤ (mRoom d mc ms).frames ∧ 8 + (J.2.2.1 + 11) + (mRoom d1 mc1 ms1).locals ≤ (mRoom d mc ms).locals := ⟨by show d1 + 1 + 1 ≤ d + 1; omega, by show 8 + (J.2.2.1 + 11) + 60 * (d1 + 1) ≤ 60 * (d + 1); omega⟩
  have hcb : (Cond.code J.1 J.2.1 J.2.2.1 J.2.2.2.1).before args s = true := F.ts _ hJ.1
  have hib : (Cond.initialized J.1.cls).before args s = true := F.ts _ hJ.2.1
  have hM := mMet hJ.2.2.2.1 (by exact hml.1) (fun v hv => (List.mem_cons.mp hv).elim (fun h => by rw [h]; rfl) (hcat v)) hC
  have he : (mWs G μ)[a]? = some (mAd G (a + 3), .inr (ci, fs.map (mTr G))) := by rw [mAd_c]; exact mWs_at ha
  have hrecv := va_recv F.wd.1 hP hci he
  rw [hcl] at hrecv
  have hpre : PreV s H J.1.cls (mAd G (a + 3)) (mPc G (.ref (a + 3) :: as) μ ex) (as.map (mTr G)) := ⟨mPc_blind, hrecv, fun U hU hW => ⟨rfl, mWd_moved F.wd hW hU hS, by rw [hU]; exact hP, fun h => by rw [hU]; exact (hX h).1⟩⟩
  have hrun : va_Run p (gL G) e (mRoom d mc ms) s m args below meth c H locs nc ns mc1 ms1 (F0 m pc ls ((as.reverse ++ .ref (a + 3) :: st).map (mTr G))) (st.map (mTr G)) (mQc G Q1 (Value.ref (mAd G (a + 3)) :: as.map (mTr G)).toArray) (mA G) := by
    rcases hkd with rfl | rfl
    · exact va_runV ⟨F.1, F.2.1, F.2.2.2.2.1, F.own ho, F.ts⟩ hM (n := J.2.2.2.2.2) ⟨⟨rfl, rfl, hrm.1, hrm.2, pay_in F.ts hgi, List.mem_cons_self, hcb, hib, ⟨hJ.2.2.1.1, hJ.2.2.1.2.1⟩, mSig hJ, F.ts _ hw.1⟩, F.ts _ hw.2.1, F.ts _ hw.2.2⟩ hpre rfl (by rw [List.length_map]; exact hnp) hl.1 (by simp [mTr]) (mRest G _ _ _ _ _ hst) hd ⟨hmc, hms⟩
    · exact va_runVN ⟨F.1, F.2.1, F.2.2.2.2.1, F.own ho, F.ts⟩ hM (n := J.2.2.2.2.2) ⟨⟨⟨rfl, rfl, hrm.1, hrm.2, pay_in F.ts hgi, List.mem_cons_self⟩, hcb, hib, ⟨hJ.2.2.1.1, hJ.2.2.1.2.1⟩, mSig hJ, F.nest hw.1 rfl rfl⟩, F.ts _ hw.2.1, F.ts _ hw.2.2⟩ hpre rfl (by rw [List.length_map]; exact hnp) hl.1 (by simp [mTr]) (mRest G _ _ _ _ _ hst) hd ⟨hmc, hms⟩
  refine mGo (Q' := Q1) hrun hS (fun r μ1 ex1 H1 locs1 hq hP1 hS1 hx1 => ?_)
  have hk := k r μ1 ex1 hq p e s m args below meth c H1 locs1 ls F hP1 hS1 (fun h => by
    have a1 := hx1 h
    obtain ⟨a2, a3⟩ := hex r μ1 ex1 hq h
    have a4 := hX a2
    exact ⟨a1, by omega⟩) hl hn hc
  have e9 : (r.toList ++ st).map (mTr G) = (r.map (mTr G)).toList ++ st.map (mTr G) := by cases r <;> rfl
  rw [e9] at hk
  exact hk
theorem T_callS {i d1 mc1 ms1 : Nat} {as : List Value} {J : mI} {Q1 : mQ} (hd : decode I.2.1 pc = .ok (.invokestatic i, 3)) (ho : mOwn.getD I.2.2.2.2.1 "" = I.1.cls) (hf : (mCa I.2.2.2.2.1).lookup i = some (0, J)) (hnp : as.length = J.2.2.2.2.2) (hml : as.length ≤ J.2.2.1 ∧ J.2.2.1 ≤ 40) (hcat : ∀ v ∈ as, v.category = 1) (hst : (st.map fun v => v.category).sum ≤ 8) (hdd : d1 < d) (hmc : nc + mc1 ≤ mc) (hms : ns + ms1 ≤ ms) (hC : mC G J d1 mc1 ms1 as μ ex Q1) (hex : ∀ r μ1 ex1, Q1 r μ1 ex1 → ex1 = true → ex = true ∧ μ1.length = μ.length + mc1) (k : ∀ r μ1 ex1, Q1 r μ1 ex1 → mT G I d mc ms (pc + 3) lo (r.toList ++ st) μ1 ex1 (nc + mc1) (ns + ms1) Q) : mT G I d mc ms pc lo (as.reverse ++ st) μ ex nc ns Q := by
  intro p e s m args below meth c H locs ls F hP hS hX hl hn hc
  obtain ⟨hJ, hw⟩ := mCa_ok _ _ (mLk hf)
  have hgi := mGood_in hJ
  have hrm : (mRoom d1 mc1 ms1).frames + 1 ≤ (mRoom d mc ms).frames ∧ 8 + (J.2.2.1 + 11) + (mRoom d1 mc1 ms1).locals ≤ (mRoom d mc ms).locals := ⟨by show d1 + 1 + 1 ≤ d + 1; omega, by show 8 + (J.2.2.1 + 11) + 60 * (d1 + 1) ≤ 60 * (d + 1); omega⟩
  have hcb : (Cond.code J.1 J.2.1 J.2.2.1 J.2.2.2.1).before args s = true := F.ts _ hJ.1
  have hib : (Cond.initialized J.1.cls).before args s = true := F.ts _ hJ.2.1
  have hM := mMet hJ.2.2.2.1 hml.1 hcat hC
  have hpre : PreS s H (mPc G as μ ex) (as.map (mTr G)) := ⟨mPc_blind, fun U hU hW => ⟨rfl, mWd_moved F.wd hW hU hS, by rw [hU]; exact hP, fun h => by rw [hU]; exact (hX h).1⟩⟩
  have hrun : va_Run p (gL G) e (mRoom d mc ms) s m args below meth c H locs nc ns mc1 ms1 (F0 m pc ls ((as.reverse ++ st).map (mTr G))) (st.map (mTr G)) (mQc G Q1 (as.map (mTr G)).toArray) (mA G) :=
    va_runS ⟨F.1, F.2.1, F.2.2.2.2.1, F.own ho, F.ts⟩ hM (n := J.2.2.2.2.2) ⟨⟨rfl, rfl, hrm.1, hrm.2, pay_in F.ts hgi, List.mem_cons_self, hcb, hib, ⟨hJ.2.2.1.1, hJ.2.2.1.2.1⟩, mSig hJ, F.ts _ hw.1⟩, F.ts _ hw.2⟩ hpre rfl (by rw [List.length_map]; exact hnp) hl.1 (by simp) (mRest G _ _ _ _ _ hst) hd ⟨hmc, hms⟩
  refine mGo (Q' := Q1) hrun hS (fun r μ1 ex1 H1 locs1 hq hP1 hS1 hx1 => ?_)
  have hk := k r μ1 ex1 hq p e s m args below meth c H1 locs1 ls F hP1 hS1 (fun h => by
    have a1 := hx1 h
    obtain ⟨a2, a3⟩ := hex r μ1 ex1 hq h
    have a4 := hX a2
    exact ⟨a1, by omega⟩) hl hn hc
  have e9 : (r.toList ++ st).map (mTr G) = (r.map (mTr G)).toList ++ st.map (mTr G) := by cases r <;> rfl
  rw [e9] at hk
  exact hk
theorem T_callI {q kd : Nat} {i d1 mc1 ms1 : Nat} {as : List Value} {J : mI} {Q1 : mQ} (hd : decode I.2.1 pc = .ok (.invokespecial i, 3)) (ho : mOwn.getD I.2.2.2.2.1 "" = I.1.cls) (hf : (mCa I.2.2.2.2.1).lookup i = some (kd, J)) (hkd : kd = 2 ∨ kd = 5) (hrt : J.2.2.2.1 = none) (hnp : as.length = J.2.2.2.2.2) (hml : as.length + 1 ≤ J.2.2.1 ∧ J.2.2.1 ≤ 40) (hcat : ∀ v ∈ as, v.category = 1) (hst : (st.map fun v => v.category).sum ≤ 8) (hdd : d1 < d) (hmc : nc + mc1 ≤ mc) (hms : ns + ms1 ≤ ms) (hC : mC G J d1 mc1 ms1 (.ref q :: as) μ ex Q1) (hex : ∀ r μ1 ex1, Q1 r μ1 ex1 → ex1 = true → ex = true ∧ μ1.length = μ.length + mc1) (k : ∀ r μ1 ex1, Q1 r μ1 ex1 → mT G I d mc ms (pc + 3) lo (r.toList ++ st) μ1 ex1 (nc + mc1) (ns + ms1) Q) : mT G I d mc ms pc lo (as.reverse ++ .ref q :: st) μ ex nc ns Q := by
  intro p e s m args below meth c H locs ls F hP hS hX hl hn hc
  obtain ⟨hJ, hw⟩ := mCa_ok _ _ (mLk hf)
  have hgi := mGood_in hJ
  have hrm : (mRoom d1 mc1 ms1).frames + 1 ≤ (mRoom d mc ms).frames ∧ 8 + (J.2.2.1 + 11) + (mRoom d1 mc1 ms1).locals ≤ (mRoom d mc ms).locals := ⟨by show d1 + 1 + 1 ≤ d + 1; omega, by show 8 + (J.2.2.1 + 11) + 60 * (d1 + 1) ≤ 60 * (d + 1); omega⟩
  have hcb : (Cond.code J.1 J.2.1 J.2.2.1 J.2.2.2.1).before args s = true := F.ts _ hJ.1
  have hib : (Cond.initialized J.1.cls).before args s = true := F.ts _ hJ.2.1
  have hM := mMet hJ.2.2.2.1 (by exact hml.1) (fun v hv => (List.mem_cons.mp hv).elim (fun h => by rw [h]; rfl) (hcat v)) hC
  have hpre : PreS s H (mPc G (.ref q :: as) μ ex) (Value.ref (mAd G q) :: as.map (mTr G)) := ⟨mPc_blind, fun U hU hW => ⟨rfl, mWd_moved F.wd hW hU hS, by rw [hU]; exact hP, fun h => by rw [hU]; exact (hX h).1⟩⟩
  obtain ⟨y, bytes, maxL, ret, own, np⟩ := J
  have hrt : ret = none := hrt
  subst hrt
  have hrun : va_Run p (gL G) e (mRoom d mc ms) s m args below meth c H locs nc ns mc1 ms1 (F0 m pc ls ((as.reverse ++ .ref q :: st).map (mTr G))) (st.map (mTr G)) (mQc G Q1 (Value.ref (mAd G q) :: as.map (mTr G)).toArray) (mA G) := by
    rcases hkd with rfl | rfl
    · exact va_runI ⟨F.1, F.2.1, F.2.2.2.2.1, F.own ho, F.ts⟩ hM (n := np) ⟨⟨rfl, rfl, hrm.1, hrm.2, pay_in F.ts hgi, List.mem_cons_self, hcb, hib, ⟨hJ.2.2.1.1, hJ.2.2.1.2.1⟩, mSig hJ, F.ts _ hw.1⟩, hw.2.2, F.ts _ hw.2.1⟩ hpre rfl (by rw [List.length_map]; exact hnp) hl.1 (by simp [mTr]) (mRest G _ _ _ _ _ hst) hd ⟨hmc, hms⟩
    · exact va_runIN ⟨F.1, F.2.1, F.2.2.2.2.1, F.own ho, F.ts⟩ hM (n := np) ⟨⟨⟨rfl, rfl, hrm.1, hrm.2, pay_in F.ts hgi, List.mem_cons_self⟩, hcb, hib, ⟨hJ.2.2.1.1, hJ.2.2.1.2.1⟩, mSig hJ, F.nest hw.1 rfl rfl⟩, hw.2.2, F.ts _ hw.2.1⟩ hpre rfl (by rw [List.length_map]; exact hnp) hl.1 (by simp [mTr]) (mRest G _ _ _ _ _ hst) hd ⟨hmc, hms⟩
  refine mGo (Q' := Q1) hrun hS (fun r μ1 ex1 H1 locs1 hq hP1 hS1 hx1 => ?_)
  have hk := k r μ1 ex1 hq p e s m args below meth c H1 locs1 ls F hP1 hS1 (fun h => by
    have a1 := hx1 h
    obtain ⟨a2, a3⟩ := hex r μ1 ex1 hq h
    have a4 := hX a2
    exact ⟨a1, by omega⟩) hl hn hc
  have e9 : (r.toList ++ st).map (mTr G) = (r.map (mTr G)).toList ++ st.map (mTr G) := by cases r <;> rfl
  rw [e9] at hk
  exact hk
end CA
