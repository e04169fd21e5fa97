/-! ===== Strings: the rules, the library's own members ===== -/
def RJ0 : String := "java/lang/String"
def RJ1 : String := "java/lang/StringLatin1"
def RJ3 : String := "jdk/internal/util/Preconditions"
abbrev cJ0_length : ByteArray := prog_14_method_54_code
def yJ0_length : MethodName := ⟨RJ0, "length", "()I"⟩
theorem dJ0_length_0 : decode cJ0_length 0 = .ok (.aload_n 0, 1) := by decide +kernel
theorem dJ0_length_1 : decode cJ0_length 1 = .ok (.getfield 9, 3) := by decide +kernel
theorem dJ0_length_4 : decode cJ0_length 4 = .ok (.arraylength, 1) := by decide +kernel
theorem dJ0_length_5 : decode cJ0_length 5 = .ok (.aload_n 0, 1) := by decide +kernel
theorem dJ0_length_6 : decode cJ0_length 6 = .ok (.invokevirtual 335, 3) := by decide +kernel
theorem dJ0_length_9 : decode cJ0_length 9 = .ok (.ishr, 1) := by decide +kernel
theorem dJ0_length_10 : decode cJ0_length 10 = .ok (.ireturn, 1) := by decide +kernel
def mJ0_length : mI := (yJ0_length, cJ0_length, 1, some .int, 7, 0)
abbrev cJ0_coder : ByteArray := prog_14_method_152_code
def yJ0_coder : MethodName := ⟨RJ0, "coder", "()B"⟩
theorem dJ0_coder_0 : decode cJ0_coder 0 = .ok (.getstatic 38, 3) := by decide +kernel
theorem dJ0_coder_3 : decode cJ0_coder 3 = .ok (.ifCond .eq 10, 3) := by decide +kernel
theorem dJ0_coder_6 : decode cJ0_coder 6 = .ok (.aload_n 0, 1) := by decide +kernel
theorem dJ0_coder_7 : decode cJ0_coder 7 = .ok (.getfield 15, 3) := by decide +kernel
theorem dJ0_coder_10 : decode cJ0_coder 10 = .ok (.goto 4, 3) := by decide +kernel
theorem dJ0_coder_13 : decode cJ0_coder 13 = .ok (.iconst 1, 1) := by decide +kernel
theorem dJ0_coder_14 : decode cJ0_coder 14 = .ok (.ireturn, 1) := by decide +kernel
def mJ0_coder : mI := (yJ0_coder, cJ0_coder, 1, some .byte, 7, 0)
abbrev cJ0_charAt : ByteArray := prog_14_method_56_code
def yJ0_charAt : MethodName := ⟨RJ0, "charAt", "(I)C"⟩
theorem dJ0_charAt_0 : decode cJ0_charAt 0 = .ok (.aload_n 0, 1) := by decide +kernel
theorem dJ0_charAt_1 : decode cJ0_charAt 1 = .ok (.invokevirtual 492, 3) := by decide +kernel
theorem dJ0_charAt_4 : decode cJ0_charAt 4 = .ok (.ifCond .eq 12, 3) := by decide +kernel
theorem dJ0_charAt_7 : decode cJ0_charAt 7 = .ok (.aload_n 0, 1) := by decide +kernel
theorem dJ0_charAt_8 : decode cJ0_charAt 8 = .ok (.getfield 9, 3) := by decide +kernel
theorem dJ0_charAt_11 : decode cJ0_charAt 11 = .ok (.iload_n 1, 1) := by decide +kernel
theorem dJ0_charAt_12 : decode cJ0_charAt 12 = .ok (.invokestatic 495, 3) := by decide +kernel
theorem dJ0_charAt_15 : decode cJ0_charAt 15 = .ok (.ireturn, 1) := by decide +kernel
theorem dJ0_charAt_16 : decode cJ0_charAt 16 = .ok (.aload_n 0, 1) := by decide +kernel
theorem dJ0_charAt_17 : decode cJ0_charAt 17 = .ok (.getfield 9, 3) := by decide +kernel
theorem dJ0_charAt_20 : decode cJ0_charAt 20 = .ok (.iload_n 1, 1) := by decide +kernel
theorem dJ0_charAt_21 : decode cJ0_charAt 21 = .ok (.invokestatic 498, 3) := by decide +kernel
theorem dJ0_charAt_24 : decode cJ0_charAt 24 = .ok (.ireturn, 1) := by decide +kernel
def mJ0_charAt : mI := (yJ0_charAt, cJ0_charAt, 2, some .char, 7, 1)
abbrev cJ0_isLatin1 : ByteArray := prog_14_method_154_code
def yJ0_isLatin1 : MethodName := ⟨RJ0, "isLatin1", "()Z"⟩
theorem dJ0_isLatin1_0 : decode cJ0_isLatin1 0 = .ok (.getstatic 38, 3) := by decide +kernel
theorem dJ0_isLatin1_3 : decode cJ0_isLatin1 3 = .ok (.ifCond .eq 14, 3) := by decide +kernel
theorem dJ0_isLatin1_6 : decode cJ0_isLatin1 6 = .ok (.aload_n 0, 1) := by decide +kernel
theorem dJ0_isLatin1_7 : decode cJ0_isLatin1 7 = .ok (.getfield 15, 3) := by decide +kernel
theorem dJ0_isLatin1_10 : decode cJ0_isLatin1 10 = .ok (.ifCond .ne 7, 3) := by decide +kernel
theorem dJ0_isLatin1_13 : decode cJ0_isLatin1 13 = .ok (.iconst 1, 1) := by decide +kernel
theorem dJ0_isLatin1_14 : decode cJ0_isLatin1 14 = .ok (.goto 4, 3) := by decide +kernel
theorem dJ0_isLatin1_17 : decode cJ0_isLatin1 17 = .ok (.iconst 0, 1) := by decide +kernel
theorem dJ0_isLatin1_18 : decode cJ0_isLatin1 18 = .ok (.ireturn, 1) := by decide +kernel
def mJ0_isLatin1 : mI := (yJ0_isLatin1, cJ0_isLatin1, 1, some .boolean, 7, 0)
abbrev cJ1_charAt : ByteArray := prog_15_method_2_code
def yJ1_charAt : MethodName := ⟨RJ1, "charAt", "([BI)C"⟩
theorem dJ1_charAt_0 : decode cJ1_charAt 0 = .ok (.iload_n 1, 1) := by decide +kernel
theorem dJ1_charAt_1 : decode cJ1_charAt 1 = .ok (.aload_n 0, 1) := by decide +kernel
theorem dJ1_charAt_2 : decode cJ1_charAt 2 = .ok (.arraylength, 1) := by decide +kernel
theorem dJ1_charAt_3 : decode cJ1_charAt 3 = .ok (.invokestatic 9, 3) := by decide +kernel
theorem dJ1_charAt_6 : decode cJ1_charAt 6 = .ok (.aload_n 0, 1) := by decide +kernel
theorem dJ1_charAt_7 : decode cJ1_charAt 7 = .ok (.iload_n 1, 1) := by decide +kernel
theorem dJ1_charAt_8 : decode cJ1_charAt 8 = .ok (.baload, 1) := by decide +kernel
theorem dJ1_charAt_9 : decode cJ1_charAt 9 = .ok (.sipush 255, 3) := by decide +kernel
theorem dJ1_charAt_12 : decode cJ1_charAt 12 = .ok (.iand, 1) := by decide +kernel
theorem dJ1_charAt_13 : decode cJ1_charAt 13 = .ok (.i2c, 1) := by decide +kernel
theorem dJ1_charAt_14 : decode cJ1_charAt 14 = .ok (.ireturn, 1) := by decide +kernel
def mJ1_charAt : mI := (yJ1_charAt, cJ1_charAt, 2, some .char, 7, 2)
abbrev cJ0_checkIndex : ByteArray := prog_14_method_155_code
def yJ0_checkIndex : MethodName := ⟨RJ0, "checkIndex", "(II)V"⟩
theorem dJ0_checkIndex_0 : decode cJ0_checkIndex 0 = .ok (.iload_n 0, 1) := by decide +kernel
theorem dJ0_checkIndex_1 : decode cJ0_checkIndex 1 = .ok (.iload_n 1, 1) := by decide +kernel
theorem dJ0_checkIndex_2 : decode cJ0_checkIndex 2 = .ok (.getstatic 1053, 3) := by decide +kernel
theorem dJ0_checkIndex_5 : decode cJ0_checkIndex 5 = .ok (.invokestatic 1059, 3) := by decide +kernel
theorem dJ0_checkIndex_8 : decode cJ0_checkIndex 8 = .ok (.pop, 1) := by decide +kernel
theorem dJ0_checkIndex_9 : decode cJ0_checkIndex 9 = .ok (.return_, 1) := by decide +kernel
def mJ0_checkIndex : mI := (yJ0_checkIndex, cJ0_checkIndex, 2, none, 7, 2)
abbrev cJ3_checkIndex : ByteArray := prog_22_method_11_code
def yJ3_checkIndex : MethodName := ⟨RJ3, "checkIndex", "(IILjava/util/function/BiFunction;)I"⟩
theorem dJ3_checkIndex_0 : decode cJ3_checkIndex 0 = .ok (.iload_n 0, 1) := by decide +kernel
theorem dJ3_checkIndex_1 : decode cJ3_checkIndex 1 = .ok (.ifCond .lt 8, 3) := by decide +kernel
theorem dJ3_checkIndex_4 : decode cJ3_checkIndex 4 = .ok (.iload_n 0, 1) := by decide +kernel
theorem dJ3_checkIndex_5 : decode cJ3_checkIndex 5 = .ok (.iload_n 1, 1) := by decide +kernel
theorem dJ3_checkIndex_6 : decode cJ3_checkIndex 6 = .ok (.if_icmp .lt 10, 3) := by decide +kernel
theorem dJ3_checkIndex_9 : decode cJ3_checkIndex 9 = .ok (.aload_n 2, 1) := by decide +kernel
theorem dJ3_checkIndex_10 : decode cJ3_checkIndex 10 = .ok (.iload_n 0, 1) := by decide +kernel
theorem dJ3_checkIndex_11 : decode cJ3_checkIndex 11 = .ok (.iload_n 1, 1) := by decide +kernel
theorem dJ3_checkIndex_12 : decode cJ3_checkIndex 12 = .ok (.invokestatic 95, 3) := by decide +kernel
theorem dJ3_checkIndex_15 : decode cJ3_checkIndex 15 = .ok (.athrow, 1) := by decide +kernel
theorem dJ3_checkIndex_16 : decode cJ3_checkIndex 16 = .ok (.iload_n 0, 1) := by decide +kernel
theorem dJ3_checkIndex_17 : decode cJ3_checkIndex 17 = .ok (.ireturn, 1) := by decide +kernel
def mJ3_checkIndex : mI := (yJ3_checkIndex, cJ3_checkIndex, 3, some .int, 7, 3)
/-- what a member of the library asks for: its code, its class -/
def mJX (J : mI) : Prop := Cond.code J.1 J.2.1 J.2.2.1 J.2.2.2.1 ∈ mGood ∧ Cond.initialized J.1.cls ∈ mGood ∧ (J.1.cls ≠ "java/lang/invoke/MethodHandle" ∧ J.1.cls ≠ "java/lang/invoke/VarHandle" ∧ (parseMethodDescriptor J.1.desc).map (fun d => d.parameters.length) = some J.2.2.2.2.2) ∧ plainName J.1.cls = true
theorem mJ_J0_length : mJX mJ0_length := ⟨mG_t (by decide +kernel) (List.mem_of_getElem? (i := 279) (by decide +kernel)), mG_t (by decide +kernel) (List.mem_of_getElem? (i := 7) (by decide +kernel)), ⟨by decide +kernel, by decide +kernel, by decide +kernel⟩, by decide⟩
theorem mJ_J0_coder : mJX mJ0_coder := ⟨mG_t (by decide +kernel) (List.mem_of_getElem? (i := 283) (by decide +kernel)), mG_t (by decide +kernel) (List.mem_of_getElem? (i := 7) (by decide +kernel)), ⟨by decide +kernel, by decide +kernel, by decide +kernel⟩, by decide⟩
theorem mJ_J0_charAt : mJX mJ0_charAt := ⟨mG_t (by decide +kernel) (List.mem_of_getElem? (i := 289) (by decide +kernel)), mG_t (by decide +kernel) (List.mem_of_getElem? (i := 7) (by decide +kernel)), ⟨by decide +kernel, by decide +kernel, by decide +kernel⟩, by decide⟩
theorem mJ_J0_isLatin1 : mJX mJ0_isLatin1 := ⟨mG_t (by decide +kernel) (List.mem_of_getElem? (i := 293) (by decide +kernel)), mG_t (by decide +kernel) (List.mem_of_getElem? (i := 7) (by decide +kernel)), ⟨by decide +kernel, by decide +kernel, by decide +kernel⟩, by decide⟩
theorem mJ_J1_charAt : mJX mJ1_charAt := ⟨mG_t (by decide +kernel) (List.mem_of_getElem? (i := 296) (by decide +kernel)), mG_t (by decide +kernel) (List.mem_of_getElem? (i := 8) (by decide +kernel)), ⟨by decide +kernel, by decide +kernel, by decide +kernel⟩, by decide⟩
theorem mJ_J0_checkIndex : mJX mJ0_checkIndex := ⟨mG_t (by decide +kernel) (List.mem_of_getElem? (i := 299) (by decide +kernel)), mG_t (by decide +kernel) (List.mem_of_getElem? (i := 7) (by decide +kernel)), ⟨by decide +kernel, by decide +kernel, by decide +kernel⟩, by decide⟩
theorem mJ_J3_checkIndex : mJX mJ3_checkIndex := ⟨mG_t (by decide +kernel) (List.mem_of_getElem? (i := 304) (by decide +kernel)), mG_t (by decide +kernel) (List.mem_of_getElem? (i := 9) (by decide +kernel)), ⟨by decide +kernel, by decide +kernel, by decide +kernel⟩, by decide⟩
section SR
variable {G : mG} {I : mI} {d mc ms pc : Nat} {lo : List (Option Value)} {st : List Value} {μ : List va_E} {ex : Bool} {nc ns : Nat} {Q : mQ}
theorem mFix.str {p : Program} {s : State} {m : MethodId} {args : Array Value} {meth : Method} {c : Code} (F : mFix G I p s m args meth c) : mStr G s := F.wd.2.2.2.1.2
theorem mFix.cls {p : Program} {s : State} {m : MethodId} {args : Array Value} {meth : Method} {c : Code} (F : mFix G I p s m args meth c) : s.vm.findClass I.1.cls = some m.cls := F.2.2.2.2.2.1
theorem T_aloadX {k0 : Fin 4} {x : Nat} (hd : decode I.2.1 pc = .ok (.aload_n k0, 1)) (hx : lo[(k0 : Nat)]? = some (some (.retAddr x))) (k : mT G I d mc ms (pc + 1) lo (.retAddr x :: st) μ ex nc ns Q) : mT G I d mc ms pc lo st μ ex nc ns Q := by
  intro p e s m args below meth c H locs ls F hP hS hX hl hn hc
  exact lv_aload_n F.1 F.2.1 hd rfl (mPr_at hl hx) (k p e s m args below meth c H locs ls F hP hS hX hl hn hc)
theorem T_ldcS {i j : Nat} (hd : decode I.2.1 pc = .ok (.ldc i, 2)) (hcl : I.1.cls = RX1) (hj : j < 12) (hi : i = 80 + 2 * j) (k : mT G I d mc ms (pc + 2) lo (.retAddr j :: st) μ ex nc ns Q) : mT G I d mc ms pc lo st μ ex nc ns Q := by
  intro p e s m args below meth c H locs ls F hP hS hX hl hn hc
  subst hi
  exact va_ldcS F.1 F.2.1 (hcl ▸ F.cls) (F.str.1 j hj) hd (k p e s m args below meth c H locs ls F hP hS hX hl hn hc)
theorem T_aretX {j : Nat} {cn : String} (hd : decode I.2.1 pc = .ok (.areturn, 1)) (hr : I.2.2.2.1 = some (.object cn)) (hc1 : nc ≤ mc) (hs1 : ns ≤ ms) (hq : Q (some (.retAddr j)) μ ex) : mT G I d mc ms pc lo [.retAddr j] μ ex nc ns Q := by
  intro p e s m args below meth c H locs ls F hP hS hX hl hn hc
  refine W.widen hc1 hs1 ?_
  exact W.aret (v := mTr G (.retAddr j)) F.1 F.2.1 (F.2.2.1.trans hr) (Or.inl ⟨_, rfl⟩) (Or.inr ⟨_, rfl⟩) (fun t ht _ => mQc_of (r := some (.retAddr j)) hq hP hS hX ht) hS.2.2 hd F.2.2.2.1
theorem T_nret {v : Int32} {ty : FieldType} (hd : decode I.2.1 pc = .ok (.ireturn, 1)) (hr : I.2.2.2.1 = some ty) (hv : narrow ty (.int v) = .int v) (hc1 : nc ≤ mc) (hs1 : ns ≤ ms) (hq : Q (some (.int v)) μ ex) : mT G I d mc ms pc lo [.int v] μ ex nc ns Q := by
  intro p e s m args below meth c H locs ls F hP hS hX hl hn hc
  refine W.widen hc1 hs1 ?_
  exact W.zret (v := v) (ty := ty) F.1 F.2.1 (F.2.2.1.trans hr) hv (fun t ht _ => mQc_of (r := some (.int v)) hq hP hS hX ht) hS.2.2 hd F.2.2.2.1
theorem T_sval {i j : Nat} (hd : decode I.2.1 pc = .ok (.getfield i, 3)) (hw : Cond.fieldLink I.1.cls i "java/lang/String" "value" "[B" ∈ mGood) (hj : j < 12) (k : mT G I d mc ms (pc + 3) lo (.retAddr (j + 12) :: st) μ ex nc ns Q) : mT G I d mc ms pc lo (.retAddr j :: st) μ ex nc ns Q := by
  intro p e s m args below meth c H locs ls F hP hS hX hl hn hc
  exact vk_getf F.1 F.2.1 (F.str.2.2.1.1 j hj).2.2.1 hS F.cls (F.ts _ hw) (fun _ h => h) hd (k p e s m args below meth c H locs ls F hP hS hX hl hn hc)
theorem T_scod {i j : Nat} (hd : decode I.2.1 pc = .ok (.getfield i, 3)) (hw : Cond.fieldLink I.1.cls i "java/lang/String" "coder" "B" ∈ mGood) (hj : j < 12) (k : mT G I d mc ms (pc + 3) lo (.int 0 :: st) μ ex nc ns Q) : mT G I d mc ms pc lo (.retAddr j :: st) μ ex nc ns Q := by
  intro p e s m args below meth c H locs ls F hP hS hX hl hn hc
  exact vk_getf F.1 F.2.1 (F.str.2.2.1.1 j hj).2.1 hS F.cls (F.ts _ hw) (fun _ h => h) hd (k p e s m args below meth c H locs ls F hP hS hX hl hn hc)
theorem T_comp {i : Nat} (hd : decode I.2.1 pc = .ok (.getstatic i, 3)) (hw : Cond.fieldLink I.1.cls i "java/lang/String" "COMPACT_STRINGS" "Z" ∈ mGood) (k : mT G I d mc ms (pc + 3) lo (.int 1 :: st) μ ex nc ns Q) : mT G I d mc ms pc lo st μ ex nc ns Q := by
  intro p e s m args below meth c H locs ls F hP hS hX hl hn hc
  exact va_gets F.1 F.2.1 F.str.2.2.2.1 hS F.cls (F.ts _ hw) (fun _ h => h) hd (k p e s m args below meth c H locs ls F hP hS hX hl hn hc)
theorem T_form {i : Nat} (hd : decode I.2.1 pc = .ok (.getstatic i, 3)) (hw : Cond.fieldLink I.1.cls i "jdk/internal/util/Preconditions" "SIOOBE_FORMATTER" "Ljava/util/function/BiFunction;" ∈ mGood) (k : ∀ v : Value, (v = .null ∨ v = .retAddr 25) → mT G I d mc ms (pc + 3) lo (v :: st) μ ex nc ns Q) : mT G I d mc ms pc lo st μ ex nc ns Q := by
  intro p e s m args below meth c H locs ls F hP hS hX hl hn hc
  rcases F.str.2.2.2.2.2.2 with h | h
  · exact va_gets F.1 F.2.1 h hS F.cls (F.ts _ hw) (fun _ h => h) hd (k .null (Or.inl rfl) p e s m args below meth c H locs ls F hP hS hX hl hn hc)
  · exact va_gets F.1 F.2.1 h hS F.cls (F.ts _ hw) (fun _ h => h) hd (k (.retAddr 25) (Or.inr rfl) p e s m args below meth c H locs ls F hP hS hX hl hn hc)
theorem T_slen {j : Nat} (hd : decode I.2.1 pc = .ok (.arraylength, 1)) (hj : j < 12) (k : mT G I d mc ms (pc + 1) lo (.int (Int32.ofNat (mSl.getD j 0)) :: st) μ ex nc ns Q) : mT G I d mc ms pc lo (.retAddr (j + 12) :: st) μ ex nc ns Q := by
  intro p e s m args below meth c H locs ls F hP hS hX hl hn hc
  exact va_tlen F.1 F.2.1 (F.str.2.2.1.1 j hj).2.2.2 hS rfl hd (k p e s m args below meth c H locs ls F hP hS hX hl hn hc)
theorem T_sbyt {j : Nat} {i : Int32} (hd : decode I.2.1 pc = .ok (.baload, 1)) (hj : j < 12) (hi : vp_in i (mSl.getD j 0)) (k : mT G I d mc ms (pc + 1) lo (.int ((mSb.getD j []).getD i.toNatClampNeg 0) :: st) μ ex nc ns Q) : mT G I d mc ms pc lo (.int i :: .retAddr (j + 12) :: st) μ ex nc ns Q := by
  intro p e s m args below meth c H locs ls F hP hS hX hl hn hc
  exact va_tb F.1 F.2.1 (F.str.2.2.1.1 j hj).2.2.2 hS hi rfl hd (k p e s m args below meth c H locs ls F hP hS hX hl hn hc)
theorem T_i2c {x : Int32} (hd : decode I.2.1 pc = .ok (.i2c, 1)) (k : mT G I d mc ms (pc + 1) lo (.int (x.toUInt32 % 65536).toInt32 :: st) μ ex nc ns Q) : mT G I d mc ms pc lo (.int x :: st) μ ex nc ns Q := by
  intro p e s m args below meth c H locs ls F hP hS hX hl hn hc
  exact lv_i2c F.1 F.2.1 hd rfl (k p e s m args below meth c H locs ls F hP hS hX hl hn hc)
theorem mX_in {J : mI} (hJ : mJX J) : GoodIn mGood (mWsJ J) := by
  intro w hw
  have h1 : w ∈ mGood := by
    rcases List.mem_cons.mp hw with rfl | h
    · exact hJ.1
    · exact h
  exact ⟨h1, good_of_word (List.mem_filter.mp h1).2⟩
theorem mX_sig {J : mI} (hJ : mJX J) : ∀ sig, parseMethodDescriptor J.1.desc = some sig → J.2.2.2.2.2 = sig.parameters.length := by
  intro sig h
  have h2 := hJ.2.2.1.2.2
  rw [h] at h2
  exact (Option.some.inj h2).symm

theorem T_callVX {j i d1 : Nat} {as : List Value} {J : mI} {Q1 : mQ} (hd : decode I.2.1 pc = .ok (.invokevirtual i, 3)) (hJ : mJX J) (hcls : J.1.cls = "java/lang/String") (hw1 : Cond.methodLink I.1.cls i J.1 ∈ mGood) (hw2 : Cond.instanceMethod J.1 ∈ mGood) (hw3 : Cond.selects J.1.cls J.1 J.1 ∈ mGood) (hj : j < 12) (hnp : as.length = J.2.2.2.2.2) (hml : as.length + 1 ≤ J.2.2.1 ∧ J.2.2.1 ≤ 40) (hcat : ∀ v ∈ as, v.category = 1) (hst : (st.map fun v => v.category).sum ≤ 8) (hdd : d1 < d) (hmc : nc + 0 ≤ mc) (hms : ns + 0 ≤ ms) (hC : mC G J d1 0 0 (.retAddr j :: as) μ ex Q1) (hex : ∀ r μ1 ex1, Q1 r μ1 ex1 → ex1 = true → ex = true ∧ μ1.length = μ.length + 0) (k : ∀ r μ1 ex1, Q1 r μ1 ex1 → mT G I d mc ms (pc + 3) lo (r.toList ++ st) μ1 ex1 (nc + 0) (ns + 0) Q) : mT G I d mc ms pc lo (as.reverse ++ .retAddr j :: st) μ ex nc ns Q := by
  intro p e s m args below meth c H locs ls F hP hS hX hl hn hc
  have hgi := mX_in hJ
  have hrm : (mRoom d1 0 0).frames + 1 ≤ (mRoom d mc ms).frames ∧ 8 + (J.2.2.1 + 11) + (mRoom d1 0 0).locals ≤ (mRoom d mc ms).locals := ⟨by show d1 + 1 + 1 ≤ d + 1; omega, by show 8 + (J.2.2.1 + 11) + 60 * (d1 + 1) ≤ 60 * (d + 1); omega⟩
  have hcb : (Cond.code J.1 J.2.1 J.2.2.1 J.2.2.2.1).before args s = true := F.ts _ hJ.1
  have hib : (Cond.initialized J.1.cls).before args s = true := F.ts _ hJ.2.1
  have hM := mMet hJ.2.2.2 (by exact hml.1) (fun v hv => (List.mem_cons.mp hv).elim (fun h => by rw [h]; rfl) (hcat v)) hC
  have hrecv := vk_recv F.str.2.2.1 hj hS
  rw [← hcls] at hrecv
  have hpre : PreV s H J.1.cls (gX G (j + 3)) (mPc G (.retAddr j :: as) μ ex) (as.map (mTr G)) := ⟨mPc_blind, hrecv, fun U hU hW => ⟨rfl, mWd_moved F.wd hW hU hS, by rw [hU]; exact hP, fun h => by rw [hU]; exact (hX h).1⟩⟩
  have hrun : va_Run p (gL G) e (mRoom d mc ms) s m args below meth c H locs nc ns 0 0 (F0 m pc ls ((as.reverse ++ .retAddr j :: st).map (mTr G))) (st.map (mTr G)) (mQc G Q1 (Value.ref (gX G (j + 3)) :: as.map (mTr G)).toArray) (mA G) :=
    va_runV ⟨F.1, F.2.1, F.2.2.2.2.1, F.cls, F.ts⟩ hM (n := J.2.2.2.2.2) ⟨⟨rfl, rfl, hrm.1, hrm.2, pay_in F.ts hgi, List.mem_cons_self, hcb, hib, ⟨hJ.2.2.1.1, hJ.2.2.1.2.1⟩, mX_sig hJ, F.ts _ hw1⟩, F.ts _ hw2, F.ts _ hw3⟩ hpre rfl (by rw [List.length_map]; exact hnp) hl.1 (by simp [mTr]) (mRest G _ _ _ _ _ hst) hd ⟨hmc, hms⟩
  refine mGo (Q' := Q1) hrun hS (fun r μ1 ex1 H1 locs1 hq hP1 hS1 hx1 => ?_)
  have hk := k r μ1 ex1 hq p e s m args below meth c H1 locs1 ls F hP1 hS1 (fun h => by
    have a1 := hx1 h
    obtain ⟨a2, a3⟩ := hex r μ1 ex1 hq h
    have a4 := hX a2
    exact ⟨a1, by omega⟩) hl hn hc
  have e9 : (r.toList ++ st).map (mTr G) = (r.map (mTr G)).toList ++ st.map (mTr G) := by cases r <;> rfl
  rw [e9] at hk
  exact hk
theorem T_callSX {i d1 : Nat} {as : List Value} {J : mI} {Q1 : mQ} (hd : decode I.2.1 pc = .ok (.invokestatic i, 3)) (hJ : mJX J) (hw1 : Cond.methodLink I.1.cls i J.1 ∈ mGood) (hw2 : Cond.static J.1 ∈ mGood) (hnp : as.length = J.2.2.2.2.2) (hml : as.length ≤ J.2.2.1 ∧ J.2.2.1 ≤ 40) (hcat : ∀ v ∈ as, v.category = 1) (hst : (st.map fun v => v.category).sum ≤ 8) (hdd : d1 < d) (hmc : nc + 0 ≤ mc) (hms : ns + 0 ≤ ms) (hC : mC G J d1 0 0 as μ ex Q1) (hex : ∀ r μ1 ex1, Q1 r μ1 ex1 → ex1 = true → ex = true ∧ μ1.length = μ.length + 0) (k : ∀ r μ1 ex1, Q1 r μ1 ex1 → mT G I d mc ms (pc + 3) lo (r.toList ++ st) μ1 ex1 (nc + 0) (ns + 0) Q) : mT G I d mc ms pc lo (as.reverse ++ st) μ ex nc ns Q := by
  intro p e s m args below meth c H locs ls F hP hS hX hl hn hc
  have hgi := mX_in hJ
  have hrm : (mRoom d1 0 0).frames + 1 ≤ (mRoom d mc ms).frames ∧ 8 + (J.2.2.1 + 11) + (mRoom d1 0 0).locals ≤ (mRoom d mc ms).locals := ⟨by show d1 + 1 + 1 ≤ d + 1; omega, by show 8 + (J.2.2.1 + 11) + 60 * (d1 + 1) ≤ 60 * (d + 1); omega⟩
  have hcb : (Cond.code J.1 J.2.1 J.2.2.1 J.2.2.2.1).before args s = true := F.ts _ hJ.1
  have hib : (Cond.initialized J.1.cls).before args s = true := F.ts _ hJ.2.1
  have hM := mMet hJ.2.2.2 hml.1 hcat hC
  have hpre : PreS s H (mPc G as μ ex) (as.map (mTr G)) := ⟨mPc_blind, fun U hU hW => ⟨rfl, mWd_moved F.wd hW hU hS, by rw [hU]; exact hP, fun h => by rw [hU]; exact (hX h).1⟩⟩
  have hrun : va_Run p (gL G) e (mRoom d mc ms) s m args below meth c H locs nc ns 0 0 (F0 m pc ls ((as.reverse ++ st).map (mTr G))) (st.map (mTr G)) (mQc G Q1 (as.map (mTr G)).toArray) (mA G) :=
    va_runS ⟨F.1, F.2.1, F.2.2.2.2.1, F.cls, F.ts⟩ hM (n := J.2.2.2.2.2) ⟨⟨rfl, rfl, hrm.1, hrm.2, pay_in F.ts hgi, List.mem_cons_self, hcb, hib, ⟨hJ.2.2.1.1, hJ.2.2.1.2.1⟩, mX_sig hJ, F.ts _ hw1⟩, F.ts _ hw2⟩ hpre rfl (by rw [List.length_map]; exact hnp) hl.1 (by simp) (mRest G _ _ _ _ _ hst) hd ⟨hmc, hms⟩
  refine mGo (Q' := Q1) hrun hS (fun r μ1 ex1 H1 locs1 hq hP1 hS1 hx1 => ?_)
  have hk := k r μ1 ex1 hq p e s m args below meth c H1 locs1 ls F hP1 hS1 (fun h => by
    have a1 := hx1 h
    obtain ⟨a2, a3⟩ := hex r μ1 ex1 hq h
    have a4 := hX a2
    exact ⟨a1, by omega⟩) hl hn hc
  have e9 : (r.toList ++ st).map (mTr G) = (r.map (mTr G)).toList ++ st.map (mTr G) := by cases r <;> rfl
  rw [e9] at hk
  exact hk
end SR
section SF
variable {G : mG} {I : mI} {d pc : Nat} {lo : List (Option Value)} {st : List Value} {σ : mS} {Q : Option Value → mS → Prop}
theorem F_callVX {j i d1 : Nat} {as : List Value} {J : mI} {r : Option Value} {σ1 : mS} (hC : mV G J d1 (.retAddr j :: as) σ r σ1) (hd : decode I.2.1 pc = .ok (.invokevirtual i, 3)) (hJ : mJX J) (hcls : J.1.cls = "java/lang/String") (hw1 : Cond.methodLink I.1.cls i J.1 ∈ mGood) (hw2 : Cond.instanceMethod J.1 ∈ mGood) (hw3 : Cond.selects J.1.cls J.1 J.1 ∈ mGood) (hj : j < 12) (hnp : as.length = J.2.2.2.2.2) (hml : as.length + 1 ≤ J.2.2.1 ∧ J.2.2.1 ≤ 40) (hcat : ∀ v ∈ as, v.category = 1) (hst : (st.map fun v => v.category).sum ≤ 8) (hdd : d1 < d) (k : mF G I d (pc + 3) lo (r.toList ++ st) σ1 Q) : mF G I d pc lo (as.reverse ++ .retAddr j :: st) σ Q := by
  refine T_callVX hd hJ hcls hw1 hw2 hw3 hj hnp hml hcat hst hdd (Nat.le_refl _) (Nat.le_refl _) hC (fun r1 μ1 ex1 h hx => ?_) (fun r1 μ1 ex1 h => ?_)
  · rw [h.1] at hx; cases hx
  · obtain ⟨h2, σ2, h3, h4, h5⟩ := h
    rw [h2, h3, h4, h5]
    exact k
theorem F_callSX {i d1 : Nat} {as : List Value} {J : mI} {r : Option Value} {σ1 : mS} (hC : mV G J d1 as σ r σ1) (hd : decode I.2.1 pc = .ok (.invokestatic i, 3)) (hJ : mJX J) (hw1 : Cond.methodLink I.1.cls i J.1 ∈ mGood) (hw2 : Cond.static J.1 ∈ mGood) (hnp : as.length = J.2.2.2.2.2) (hml : as.length ≤ J.2.2.1 ∧ J.2.2.1 ≤ 40) (hcat : ∀ v ∈ as, v.category = 1) (hst : (st.map fun v => v.category).sum ≤ 8) (hdd : d1 < d) (k : mF G I d (pc + 3) lo (r.toList ++ st) σ1 Q) : mF G I d pc lo (as.reverse ++ st) σ Q := by
  refine T_callSX hd hJ hw1 hw2 hnp hml hcat hst hdd (Nat.le_refl _) (Nat.le_refl _) hC (fun r1 μ1 ex1 h hx => ?_) (fun r1 μ1 ex1 h => ?_)
  · rw [h.1] at hx; cases hx
  · obtain ⟨h2, σ2, h3, h4, h5⟩ := h
    rw [h2, h3, h4, h5]
    exact k
end SF
section SM
variable {G : mG} {d : Nat} {σ : mS} {j : Nat}
theorem v_coder (hj : j < 12) : mV G mJ0_coder d [.retAddr j] σ (some (.int 0)) σ := mV_of fun Q hQ => by
  refine T_comp dJ0_coder_0 (mG_t (by decide +kernel) (List.mem_of_getElem? (i := 284) (by decide +kernel))) ?_
  refine F_if_eq (tgt := 13) dJ0_coder_3 rfl (fun c => absurd c (by decide)) (fun _ => ?_)
  refine T_aloadX dJ0_coder_6 rfl ?_
  refine T_scod dJ0_coder_7 (mG_t (by decide +kernel) (List.mem_of_getElem? (i := 1059) (by decide +kernel))) hj ?_
  refine F_goto (tgt := 14) dJ0_coder_10 rfl ?_
  exact T_nret dJ0_coder_14 rfl (by rfl) (Nat.le_refl _) (Nat.le_refl _) ⟨rfl, σ, rfl, hQ⟩
theorem v_isLatin1 (hj : j < 12) : mV G mJ0_isLatin1 d [.retAddr j] σ (some (.int 1)) σ := mV_of fun Q hQ => by
  refine T_comp dJ0_isLatin1_0 (mG_t (by decide +kernel) (List.mem_of_getElem? (i := 284) (by decide +kernel))) ?_
  refine F_if_eq (tgt := 17) dJ0_isLatin1_3 rfl (fun c => absurd c (by decide)) (fun _ => ?_)
  refine T_aloadX dJ0_isLatin1_6 rfl ?_
  refine T_scod dJ0_isLatin1_7 (mG_t (by decide +kernel) (List.mem_of_getElem? (i := 1059) (by decide +kernel))) hj ?_
  refine F_if_ne (tgt := 17) dJ0_isLatin1_10 rfl (fun c => absurd rfl c) (fun _ => ?_)
  refine F_iconst (v := 1) dJ0_isLatin1_13 rfl ?_
  refine F_goto (tgt := 18) dJ0_isLatin1_14 rfl ?_
  exact T_nret dJ0_isLatin1_18 rfl (by rfl) (Nat.le_refl _) (Nat.le_refl _) ⟨rfl, σ, rfl, hQ⟩
theorem shr_0 : ∀ j, j < 12 → Int32.ofNat (mSl.getD j 0) >>> ((0 : Int32) &&& 31) = nI (mSl.getD j 0) := by decide +kernel
theorem v_length (hj : j < 12) : mV G mJ0_length (d + 1) [.retAddr j] σ (some (.int (nI (mSl.getD j 0)))) σ := mV_of fun Q hQ => by
  rw [← shr_0 j hj] at hQ
  refine T_aloadX dJ0_length_0 rfl ?_
  refine T_sval dJ0_length_1 (mG_t (by decide +kernel) (List.mem_of_getElem? (i := 1058) (by decide +kernel))) hj ?_
  refine T_slen dJ0_length_4 hj ?_
  refine T_aloadX dJ0_length_5 rfl ?_
  refine F_callVX (as := []) (v_coder (d := d) hj) dJ0_length_6 mJ_J0_coder rfl (mG_t (by decide +kernel) (List.mem_of_getElem? (i := 280) (by decide +kernel))) (mG_t (by decide +kernel) (List.mem_of_getElem? (i := 281) (by decide +kernel))) (mG_t (by decide +kernel) (List.mem_of_getElem? (i := 282) (by decide +kernel))) hj rfl ⟨Nat.le_of_ble_eq_true rfl, Nat.le_of_ble_eq_true rfl⟩ (by intro v hv; cases hv) (Nat.le_of_ble_eq_true rfl) (by omega) ?_
  refine F_ishr dJ0_length_9 ?_
  exact T_nret dJ0_length_10 rfl (by rfl) (Nat.le_refl _) (Nat.le_refl _) ⟨rfl, σ, rfl, hQ⟩
theorem v_check3 {a n : Nat} (h : a < n) (hn : n < 2 ^ 31) {v : Value} : mV G mJ3_checkIndex d [.int (nI a), .int (nI n), v] σ (some (.int (nI a))) σ := mV_of fun Q hQ => by
  refine F_iload_n dJ3_checkIndex_0 rfl ?_
  refine F_if_ltN (tgt := 9) dJ3_checkIndex_1 rfl (by omega) ?_
  refine F_iload_n dJ3_checkIndex_4 rfl ?_
  refine F_iload_n dJ3_checkIndex_5 rfl ?_
  refine F_icmp_ltN (tgt := 16) dJ3_checkIndex_6 rfl (by omega) (by omega) (fun _ => ?_) (fun c => absurd h c)
  refine F_iload_n dJ3_checkIndex_16 rfl ?_
  exact T_nret dJ3_checkIndex_17 rfl (by rfl) (Nat.le_refl _) (Nat.le_refl _) ⟨rfl, σ, rfl, hQ⟩
theorem v_check {a n : Nat} (h : a < n) (hn : n < 2 ^ 31) : mV G mJ0_checkIndex (d + 1) [.int (nI a), .int (nI n)] σ none σ := mV_of fun Q hQ => by
  refine F_iload_n dJ0_checkIndex_0 rfl ?_
  refine F_iload_n dJ0_checkIndex_1 rfl ?_
  refine T_form dJ0_checkIndex_2 (mG_t (by decide +kernel) (List.mem_of_getElem? (i := 300) (by decide +kernel))) (fun v hv => ?_)
  have hcv : v.category = 1 := by rcases hv with rfl | rfl <;> rfl
  refine F_callSX (as := [.int (nI a), .int (nI n), v]) (v_check3 (d := d) h hn) dJ0_checkIndex_5 mJ_J3_checkIndex (mG_t (by decide +kernel) (List.mem_of_getElem? (i := 302) (by decide +kernel))) (mG_t (by decide +kernel) (List.mem_of_getElem? (i := 303) (by decide +kernel))) rfl ⟨Nat.le_of_ble_eq_true rfl, Nat.le_of_ble_eq_true rfl⟩ (by intro w hw; simp at hw; rcases hw with rfl | rfl | rfl <;> first | rfl | exact hcv) (Nat.le_of_ble_eq_true rfl) (by omega) ?_
  refine F_pop dJ0_checkIndex_8 rfl ?_
  exact F_vret dJ0_checkIndex_9 rfl hQ
theorem sb_c : ∀ j, j < 12 → ∀ k, k < mSl.getD j 0 → (((mSb.getD j []).getD k 0 &&& 255).toUInt32 % 65536).toInt32 = (mSb.getD j []).getD k 0 ∧ narrow .char (.int ((mSb.getD j []).getD k 0)) = .int ((mSb.getD j []).getD k 0) := by decide +kernel
theorem sl_lt : ∀ j, j < 12 → mSl.getD j 0 < 7 := by decide +kernel
theorem v_char1 {k : Nat} (hj : j < 12) (hk : k < mSl.getD j 0) : mV G mJ1_charAt (d + 2) [.retAddr (j + 12), .int (nI k)] σ (some (.int ((mSb.getD j []).getD k 0))) σ := mV_of fun Q hQ => by
  have h7 := sl_lt j hj
  obtain ⟨e1, e2⟩ := sb_c j hj k hk
  refine F_iload_n dJ1_charAt_0 rfl ?_
  refine T_aloadX dJ1_charAt_1 rfl ?_
  refine T_slen dJ1_charAt_2 hj ?_
  refine F_callSX (as := [.int (nI k), .int (Int32.ofNat (mSl.getD j 0))]) (v_check (d := d) hk (by omega)) dJ1_charAt_3 mJ_J0_checkIndex (mG_t (by decide +kernel) (List.mem_of_getElem? (i := 297) (by decide +kernel))) (mG_t (by decide +kernel) (List.mem_of_getElem? (i := 298) (by decide +kernel))) rfl ⟨Nat.le_of_ble_eq_true rfl, Nat.le_of_ble_eq_true rfl⟩ (by intro w hw; simp at hw; rcases hw with rfl | rfl <;> rfl) (Nat.le_of_ble_eq_true rfl) (by omega) ?_
  refine T_aloadX dJ1_charAt_6 rfl ?_
  refine F_iload_n dJ1_charAt_7 rfl ?_
  refine T_sbyt dJ1_charAt_8 hj (vp_in_nI hk (by omega)) ?_
  rw [nI_clamp (by omega)]
  refine F_sipush (v := 255) dJ1_charAt_9 rfl ?_
  refine F_iand dJ1_charAt_12 ?_
  refine T_i2c dJ1_charAt_13 ?_
  rw [e1]
  exact T_nret dJ1_charAt_14 rfl e2 (Nat.le_refl _) (Nat.le_refl _) ⟨rfl, σ, rfl, hQ⟩
theorem v_charAt {k : Nat} (hj : j < 12) (hk : k < mSl.getD j 0) : mV G mJ0_charAt (d + 3) [.retAddr j, .int (nI k)] σ (some (.int ((mSb.getD j []).getD k 0))) σ := mV_of fun Q hQ => by
  obtain ⟨e1, e2⟩ := sb_c j hj k hk
  refine T_aloadX dJ0_charAt_0 rfl ?_
  refine F_callVX (as := []) (v_isLatin1 (d := d) hj) dJ0_charAt_1 mJ_J0_isLatin1 rfl (mG_t (by decide +kernel) (List.mem_of_getElem? (i := 290) (by decide +kernel))) (mG_t (by decide +kernel) (List.mem_of_getElem? (i := 291) (by decide +kernel))) (mG_t (by decide +kernel) (List.mem_of_getElem? (i := 292) (by decide +kernel))) hj rfl ⟨Nat.le_of_ble_eq_true rfl, Nat.le_of_ble_eq_true rfl⟩ (by intro v hv; cases hv) (Nat.le_of_ble_eq_true rfl) (by omega) ?_
  refine F_if_eq (tgt := 16) dJ0_charAt_4 rfl (fun c => absurd c (by decide)) (fun _ => ?_)
  refine T_aloadX dJ0_charAt_7 rfl ?_
  refine T_sval dJ0_charAt_8 (mG_t (by decide +kernel) (List.mem_of_getElem? (i := 1058) (by decide +kernel))) hj ?_
  refine F_iload_n dJ0_charAt_11 rfl ?_
  refine F_callSX (as := [.retAddr (j + 12), .int (nI k)]) (v_char1 (d := d) hj hk) dJ0_charAt_12 mJ_J1_charAt (mG_t (by decide +kernel) (List.mem_of_getElem? (i := 294) (by decide +kernel))) (mG_t (by decide +kernel) (List.mem_of_getElem? (i := 295) (by decide +kernel))) rfl ⟨Nat.le_of_ble_eq_true rfl, Nat.le_of_ble_eq_true rfl⟩ (by intro w hw; simp at hw; rcases hw with rfl | rfl <;> rfl) (Nat.le_of_ble_eq_true rfl) (by omega) ?_
  exact T_nret dJ0_charAt_15 rfl e2 (Nat.le_refl _) (Nat.le_refl _) ⟨rfl, σ, rfl, hQ⟩
end SM
