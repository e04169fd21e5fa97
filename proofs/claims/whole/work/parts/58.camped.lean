/-! ===== camped: what is thrown, what the law catches ===== -/
theorem dX4_camped_0 : decode cX4_camped 0 = .ok (.aload_n 0, 1) := by decide +kernel
theorem dX4_camped_1 : decode cX4_camped 1 = .ok (.getfield 10, 3) := by decide +kernel
theorem dX4_camped_4 : decode cX4_camped 4 = .ok (.iload_n 1, 1) := by decide +kernel
theorem dX4_camped_5 : decode cX4_camped 5 = .ok (.invokevirtual 105, 3) := by decide +kernel
theorem dX4_camped_8 : decode cX4_camped 8 = .ok (.ifCond .ne 13, 3) := by decide +kernel
theorem dX4_camped_11 : decode cX4_camped 11 = .ok (.new 132, 3) := by decide +kernel
theorem dX4_camped_14 : decode cX4_camped 14 = .ok (.dup, 1) := by decide +kernel
theorem dX4_camped_15 : decode cX4_camped 15 = .ok (.ldc 134, 2) := by decide +kernel
theorem dX4_camped_17 : decode cX4_camped 17 = .ok (.invokespecial 136, 3) := by decide +kernel
theorem dX4_camped_20 : decode cX4_camped 20 = .ok (.athrow, 1) := by decide +kernel
theorem dX4_camped_21 : decode cX4_camped 21 = .ok (.iload_n 2, 1) := by decide +kernel
theorem dX4_camped_22 : decode cX4_camped 22 = .ok (.ifCond .eq 15, 3) := by decide +kernel
theorem dX4_camped_25 : decode cX4_camped 25 = .ok (.aload_n 0, 1) := by decide +kernel
theorem dX4_camped_26 : decode cX4_camped 26 = .ok (.getfield 10, 3) := by decide +kernel
theorem dX4_camped_29 : decode cX4_camped 29 = .ok (.getfield 139, 3) := by decide +kernel
theorem dX4_camped_32 : decode cX4_camped 32 = .ok (.iload_n 1, 1) := by decide +kernel
theorem dX4_camped_33 : decode cX4_camped 33 = .ok (.iaload, 1) := by decide +kernel
theorem dX4_camped_34 : decode cX4_camped 34 = .ok (.goto 12, 3) := by decide +kernel
theorem dX4_camped_37 : decode cX4_camped 37 = .ok (.aload_n 0, 1) := by decide +kernel
theorem dX4_camped_38 : decode cX4_camped 38 = .ok (.getfield 10, 3) := by decide +kernel
theorem dX4_camped_41 : decode cX4_camped 41 = .ok (.getfield 142, 3) := by decide +kernel
theorem dX4_camped_44 : decode cX4_camped 44 = .ok (.iload_n 1, 1) := by decide +kernel
theorem dX4_camped_45 : decode cX4_camped 45 = .ok (.iaload, 1) := by decide +kernel
theorem dX4_camped_46 : decode cX4_camped 46 = .ok (.ireturn, 1) := by decide +kernel
theorem dL_camped_0 : decode cL_camped 0 = .ok (.aload_n 3, 1) := by decide +kernel
theorem dL_camped_1 : decode cL_camped 1 = .ok (.iconst 0, 1) := by decide +kernel
theorem dL_camped_2 : decode cL_camped 2 = .ok (.aload_n 0, 1) := by decide +kernel
theorem dL_camped_3 : decode cL_camped 3 = .ok (.iload_n 1, 1) := by decide +kernel
theorem dL_camped_4 : decode cL_camped 4 = .ok (.iload_n 2, 1) := by decide +kernel
theorem dL_camped_5 : decode cL_camped 5 = .ok (.invokevirtual 7, 3) := by decide +kernel
theorem dL_camped_8 : decode cL_camped 8 = .ok (.i2l, 1) := by decide +kernel
theorem dL_camped_9 : decode cL_camped 9 = .ok (.lastore, 1) := by decide +kernel
theorem dL_camped_10 : decode cL_camped 10 = .ok (.goto 7, 3) := by decide +kernel
theorem dL_camped_13 : decode cL_camped 13 = .ok (.astore 4, 2) := by decide +kernel
theorem dL_camped_15 : decode cL_camped 15 = .ok (.iconst 1, 1) := by decide +kernel
theorem dL_camped_16 : decode cL_camped 16 = .ok (.ireturn, 1) := by decide +kernel
theorem dL_camped_17 : decode cL_camped 17 = .ok (.iconst 0, 1) := by decide +kernel
theorem dL_camped_18 : decode cL_camped 18 = .ok (.ireturn, 1) := by decide +kernel

section UX
variable {G : mG} {I : mI} {d mc ms pc : Nat} {Tb : Code → Prop} {Z : List Frame → Array Value → State → State → Prop} {lo : List (Option Value)} {st : List Value} {μ : List va_E} {nc ns : Nat} {Q : mQ}
/-- as mT, with what is known of the code's table, and another end -/
def mU (G : mG) (I : mI) (d mc ms : Nat) (Tb : Code → Prop) (Z : List Frame → Array Value → State → State → Prop) (pc : Nat) (lo : List (Option Value)) (st : List Value) (μ : List va_E) (nc ns : Nat) : Prop :=
  ∀ (p : Program) (e : Env) (s : State) (m : MethodId) (args : Array Value) (below : List Frame) (meth : Method) (c : Code) (H : Heap) (locs : List Loc) (ls : Array Slot),
    mFix G I p s m args meth c → Tb c → va_P (gD G) mCl (mWs G μ) H → va_S (mA G) s.heap H locs → lv_has ls I.2.2.1 (mPr G lo) → lo.length = I.2.2.1 → (∀ v, some v ∈ lo → v.category = 1) →
    W p (gL G) e (mRoom d mc ms) s m args below meth c H locs nc ns (Z below args s) (F0 m pc ls (st.map (mTr G)))
theorem mU_of (h : mT G I d mc ms pc lo st μ false nc ns Q) : mU G I d mc ms Tb (fun below args s => MQ below (mQc G Q) args s mc ms (mA G)) pc lo st μ nc ns := fun p e s m args below meth c H locs ls F _ hP hS hl hn hc => h p e s m args below meth c H locs ls F hP hS (fun z => by cases z) hl hn hc
theorem U_aload_n {k0 : Fin 4} {x : Nat} (hd : decode I.2.1 pc = .ok (.aload_n k0, 1)) (hx : lo[(k0 : Nat)]? = some (some (.ref x))) (k : mU G I d mc ms Tb Z (pc + 1) lo (.ref x :: st) μ nc ns) : mU G I d mc ms Tb Z pc lo st μ nc ns := by
  intro p e s m args below meth c H locs ls F hT hP hS hl hn hc
  exact lv_aload_n F.1 F.2.1 hd rfl (mPr_at hl hx) (k p e s m args below meth c H locs ls F hT hP hS hl hn hc)
theorem U_iload_n {k0 : Fin 4} {x : Int32} (hd : decode I.2.1 pc = .ok (.iload_n k0, 1)) (hx : lo[(k0 : Nat)]? = some (some (.int x))) (k : mU G I d mc ms Tb Z (pc + 1) lo (.int x :: st) μ nc ns) : mU G I d mc ms Tb Z pc lo st μ nc ns := by
  intro p e s m args below meth c H locs ls F hT hP hS hl hn hc
  exact lv_iload_n F.1 F.2.1 hd rfl (mPr_at hl hx) (k p e s m args below meth c H locs ls F hT hP hS hl hn hc)
theorem U_iconst {n : Int} {v : Int32} (hd : decode I.2.1 pc = .ok (.iconst n, 1)) (hv : Int32.ofInt n = v) (k : mU G I d mc ms Tb Z (pc + 1) lo (.int v :: st) μ nc ns) : mU G I d mc ms Tb Z pc lo st μ nc ns := by
  intro p e s m args below meth c H locs ls F hT hP hS hl hn hc
  exact lv_iconst F.1 F.2.1 hd hv (k p e s m args below meth c H locs ls F hT hP hS hl hn hc)
theorem U_if_ne {x : Int32} {off : Int} {tgt : Nat} (hd : decode I.2.1 pc = .ok (.ifCond .ne off, 3)) (ht : (pc : Int) + off = (tgt : Int)) (kt : ¬ x = 0 → mU G I d mc ms Tb Z tgt lo st μ nc ns) (kf : x = 0 → mU G I d mc ms Tb Z (pc + 3) lo st μ nc ns) : mU G I d mc ms Tb Z pc lo (.int x :: st) μ nc ns := by
  intro p e s m args below meth c H locs ls F hT hP hS hl hn hc
  exact lv_if_ne F.1 F.2.1 hd ht (fun h => kt h p e s m args below meth c H locs ls F hT hP hS hl hn hc) (fun h => kf h p e s m args below meth c H locs ls F hT hP hS hl hn hc)
theorem U_get {a i ci k0 : Nat} {nest : Bool} {fs : List Value} {v : Value} (hd : decode I.2.1 pc = .ok (.getfield i, 3)) (ho : mOwn.getD I.2.2.2.2.1 "" = I.1.cls) (hf : (mFl I.2.2.2.2.1).lookup i = some (ci, k0, nest)) (ha : μ[a]? = some (.inr (ci, fs))) (hv : fs[k0]? = some v) (k : mU G I d mc ms Tb Z (pc + 3) lo (v :: st) μ nc ns) : mU G I d mc ms Tb Z pc lo (.ref (a + 3) :: st) μ nc ns := by
  intro p e s m args below meth c H locs ls F hT hP hS hl hn hc
  obtain ⟨r, hr, hk, hw⟩ := mFl_ok _ _ (mLk hf)
  obtain ⟨hin, -⟩ := mCl_ok _ _ hr
  have he : (mWs G μ)[a]? = some (mAd G (a + 3), .inr (ci, fs.map (mTr G))) := by rw [mAd_c]; exact mWs_at ha
  have hv' : (fs.map (mTr G))[k0]? = some (mTr G v) := by rw [List.getElem?_map, hv]; rfl
  cases nest with
  | false => exact va_get F.1 F.2.1 F.ts hin (F.own ho) F.wd.1 hP a he hr k0 hk (F.ts _ (mG_t rfl hw)) (fun _ h9 => h9) hv' hd (k p e s m args below meth c H locs ls F hT hP hS hl hn hc)
  | true => exact va_getN F.1 F.2.1 F.ts hin (F.own ho) F.wd.1 hP a he hr k0 hk (F.nest hw rfl rfl) (fun _ h9 => h9) hv' hd (k p e s m args below meth c H locs ls F hT hP hS hl hn hc)

theorem U_callV {a ci kd : Nat} {i d1 mc1 ms1 : Nat} {as : List Value} {J : mI} {Q1 : mQ} {fs : List Value} {r0 : vw_C} (hd : decode I.2.1 pc = .ok (.invokevirtual i, 3)) (ho : mOwn.getD I.2.2.2.2.1 "" = I.1.cls) (hf : (mCa I.2.2.2.2.1).lookup i = some (kd, J)) (hkd : kd = 1 ∨ kd = 4) (ha : μ[a]? = some (.inr (ci, fs))) (hci : mCl[ci]? = some r0) (hcl : r0.1 = J.1.cls) (hnp : as.length = J.2.2.2.2.2) (hml : as.length + 1 ≤ J.2.2.1 ∧ J.2.2.1 ≤ 40) (hcat : ∀ v ∈ as, v.category = 1) (hst : (st.map fun v => v.category).sum ≤ 8) (hdd : d1 < d) (hmc : nc + mc1 ≤ mc) (hms : ns + ms1 ≤ ms) (hC : mC G J d1 mc1 ms1 (.ref (a + 3) :: as) μ false Q1) (k : ∀ r μ1 ex1, Q1 r μ1 ex1 → mU G I d mc ms Tb Z (pc + 3) lo (r.toList ++ st) μ1 (nc + mc1) (ns + ms1)) : mU G I d mc ms Tb Z pc lo (as.reverse ++ .ref (a + 3) :: st) μ nc ns := by
  intro p e s m args below meth c H locs ls F hT hP hS hl hn hc
  obtain ⟨hJ, hw⟩ := mCa_ok _ _ (mLk hf)
  have hgi := mGood_in hJ
  have hrm : (mRoom d1 mc1 ms1).frames + 1 ≤ (mRoom d mc ms).frames ∧ 8 + (J.2.2.1 + 11) + (mRoom d1 mc1 ms1).locals ≤ (mRoom d mc ms).locals := ⟨by show d1 + 1 + 1 ≤ d + 1; omega, by show 8 + (J.2.2.1 + 11) + 60 * (d1 + 1) ≤ 60 * (d + 1); omega⟩
  have hcb : (Cond.code J.1 J.2.1 J.2.2.1 J.2.2.2.1).before args s = true := F.ts _ hJ.1
  have hib : (Cond.initialized J.1.cls).before args s = true := F.ts _ hJ.2.1
  have hM := mMet hJ.2.2.2.1 (by exact hml.1) (fun v hv => (List.mem_cons.mp hv).elim (fun h => by rw [h]; rfl) (hcat v)) hC
  have he : (mWs G μ)[a]? = some (mAd G (a + 3), .inr (ci, fs.map (mTr G))) := by rw [mAd_c]; exact mWs_at ha
  have hrecv := va_recv F.wd.1 hP hci he
  rw [hcl] at hrecv
  have hpre : PreV s H J.1.cls (mAd G (a + 3)) (mPc G (.ref (a + 3) :: as) μ false) (as.map (mTr G)) := ⟨mPc_blind, hrecv, fun U hU hW => ⟨rfl, mWd_moved F.wd hW hU hS, by rw [hU]; exact hP, fun h => by cases h⟩⟩
  have hrun : va_Run p (gL G) e (mRoom d mc ms) s m args below meth c H locs nc ns mc1 ms1 (F0 m pc ls ((as.reverse ++ .ref (a + 3) :: st).map (mTr G))) (st.map (mTr G)) (mQc G Q1 (Value.ref (mAd G (a + 3)) :: as.map (mTr G)).toArray) (mA G) := by
    rcases hkd with rfl | rfl
    · exact va_runV ⟨F.1, F.2.1, F.2.2.2.2.1, F.own ho, F.ts⟩ hM (n := J.2.2.2.2.2) ⟨⟨rfl, rfl, hrm.1, hrm.2, pay_in F.ts hgi, List.mem_cons_self, hcb, hib, ⟨hJ.2.2.1.1, hJ.2.2.1.2.1⟩, mSig hJ, F.ts _ hw.1⟩, F.ts _ hw.2.1, F.ts _ hw.2.2⟩ hpre rfl (by rw [List.length_map]; exact hnp) hl.1 (by simp [mTr]) (mRest G _ _ _ _ _ hst) hd ⟨hmc, hms⟩
    · exact va_runVN ⟨F.1, F.2.1, F.2.2.2.2.1, F.own ho, F.ts⟩ hM (n := J.2.2.2.2.2) ⟨⟨⟨rfl, rfl, hrm.1, hrm.2, pay_in F.ts hgi, List.mem_cons_self⟩, hcb, hib, ⟨hJ.2.2.1.1, hJ.2.2.1.2.1⟩, mSig hJ, F.nest hw.1 rfl rfl⟩, F.ts _ hw.2.1, F.ts _ hw.2.2⟩ hpre rfl (by rw [List.length_map]; exact hnp) hl.1 (by simp [mTr]) (mRest G _ _ _ _ _ hst) hd ⟨hmc, hms⟩
  refine mGo (Q' := Q1) hrun hS (fun r μ1 ex1 H1 locs1 hq hP1 hS1 hx1 => ?_)
  have hk := k r μ1 ex1 hq p e s m args below meth c H1 locs1 ls F hT hP1 hS1 hl hn hc
  have e9 : (r.toList ++ st).map (mTr G) = (r.map (mTr G)).toList ++ st.map (mTr G) := by cases r <;> rfl
  rw [e9] at hk
  exact hk
/-- a walk from the first place of a method with a table is a contract -/
theorem mMetW {J : mI} {hh : List (Nat × Nat × Nat × Nat)} {as : List Value} (hJ : plainName J.1.cls = true) (hlen : as.length ≤ J.2.2.1) (hcat : ∀ v ∈ as, v.category = 1) (h : mU G J d mc ms (fun c => c.exceptionTable.toList = tableOf hh) (fun below args s => MQ below (mQc G Q) args s mc ms (mA G)) 0 (mLo J as) [] μ 0 0) : Met (gL G) J.1 (.codeWith J.1 J.2.1 J.2.2.1 J.2.2.2.1 hh :: mGood) (mRoom d mc ms) (mPc G as μ false) (mQc G Q) mc ms (mA G) := by
  refine va_MetW (cc := J.2.1) (maxL := J.2.2.1) (ret := J.2.2.2.1) (hh := hh) hJ rfl ?_
  intro p e s m args below meth c s₁ B hml hv
  obtain ⟨rfl, hwd, hP, -⟩ := hv
  have hts := atoms_spec (ws := .codeWith J.1 J.2.1 J.2.2.1 J.2.2.2.1 hh :: mGood) B.pre
  have hTB := vx_table (x := J.1) B (hts _ List.mem_cons_self)
  have hcv : ∀ v ∈ as.map (mTr G), v.category = 1 := by
    intro v hv
    obtain ⟨w, hw, rfl⟩ := List.mem_map.mp hv
    rw [mTr_cat]; exact hcat w hw
  have hsl := mSlc hcv
  have hl := lv_entry (as.map (mTr G)) (n := J.2.2.1) (by rw [hsl, List.length_map]; exact hlen)
  rw [lg_entry_eq]
  refine h p e s m _ below meth c s.heap [] _ ⟨B.exec, B.bytes, B.returns, B.notSynchronized, hml, findClass_of_methodNamed B.named, (name_of_methodNamed B.named B.method).1, fun w hw => hts w (List.mem_cons_of_mem _ hw), hwd⟩ hTB hP va_S.rf ⟨hl.1, hl.2.1, fun q hq => ?_⟩ ?_ ?_
  · obtain ⟨v, h1, h2⟩ := mPr_inv hq
    have h3 := mLo_get h1
    have h4 : (as.map (mTr G))[q.1]? = some (mTr G v) := by rw [List.getElem?_map, h3]; rfl
    have h5 := mArgs hcv 0 q.1 _ h4
    rw [Nat.zero_add] at h5
    rw [h2]
    exact hl.2.2 _ h5
  · simp [mLo]; omega
  · intro v hv
    obtain ⟨i, hi⟩ := List.getElem?_of_mem hv
    exact hcat v (List.mem_of_getElem? (mLo_get hi))
/-- the same of a method that throws -/
theorem mMetX {J : mI} {XC : String → State → State → Prop} {as : List Value} (hJ : plainName J.1.cls = true) (hlen : as.length ≤ J.2.2.1) (hcat : ∀ v ∈ as, v.category = 1) (h : mU G J d mc ms (fun c => ∀ x ∈ c.exceptionTable.toList, False) (fun below args s => vx_MQ below (mQc G Q) XC args s mc ms (mA G)) 0 (mLo J as) [] μ 0 0) : vx_Met (gL G) J.1 (mWsJ J) (mRoom d mc ms) (mPc G as μ false) (mQc G Q) XC mc ms (mA G) := by
  refine vx_ofW (cc := J.2.1) (maxL := J.2.2.1) (ret := J.2.2.2.1) hJ rfl ?_
  intro p e s m args below meth c s₁ B hml hTB hv
  obtain ⟨rfl, hwd, hP, -⟩ := hv
  have hts := atoms_spec (ws := mWsJ J) B.pre
  have hcv : ∀ v ∈ as.map (mTr G), v.category = 1 := by
    intro v hv
    obtain ⟨w, hw, rfl⟩ := List.mem_map.mp hv
    rw [mTr_cat]; exact hcat w hw
  have hsl := mSlc hcv
  have hl := lv_entry (as.map (mTr G)) (n := J.2.2.1) (by rw [hsl, List.length_map]; exact hlen)
  rw [lg_entry_eq]
  refine h p e s m _ below meth c s.heap [] _ ⟨B.exec, B.bytes, B.returns, B.notSynchronized, hml, findClass_of_methodNamed B.named, (name_of_methodNamed B.named B.method).1, fun w hw => hts w (List.mem_cons_of_mem _ hw), hwd⟩ hTB hP va_S.rf ⟨hl.1, hl.2.1, fun q hq => ?_⟩ ?_ ?_
  · obtain ⟨v, h1, h2⟩ := mPr_inv hq
    have h3 := mLo_get h1
    have h4 : (as.map (mTr G))[q.1]? = some (mTr G v) := by rw [List.getElem?_map, h3]; rfl
    have h5 := mArgs hcv 0 q.1 _ h4
    rw [Nat.zero_add] at h5
    rw [h2]
    exact hl.2.2 _ h5
  · simp [mLo]; omega
  · intro v hv
    obtain ⟨i, hi⟩ := List.getElem?_of_mem hv
    exact hcat v (List.mem_of_getElem? (mLo_get hi))
theorem T_callSW {ex : Bool} {hh : List (Nat × Nat × Nat × Nat)} {i d1 mc1 ms1 : Nat} {as : List Value} {J : mI} {Q1 : mQ} (hd : decode I.2.1 pc = .ok (.invokestatic i, 3)) (hcw : Cond.codeWith J.1 J.2.1 J.2.2.1 J.2.2.2.1 hh ∈ mGood) (hiw : Cond.initialized J.1.cls ∈ mGood) (hdw : J.1.cls ≠ "java/lang/invoke/MethodHandle" ∧ J.1.cls ≠ "java/lang/invoke/VarHandle" ∧ (parseMethodDescriptor J.1.desc).map (fun d => d.parameters.length) = some J.2.2.2.2.2) (hw1 : Cond.methodLink I.1.cls i J.1 ∈ mGood) (hw2 : Cond.static J.1 ∈ mGood) (hnp : as.length = J.2.2.2.2.2) (hml : as.length ≤ J.2.2.1 ∧ J.2.2.1 ≤ 40) (hcat : ∀ v ∈ as, v.category = 1) (hst : (st.map fun v => v.category).sum ≤ 8) (hdd : d1 < d) (hmc : nc + mc1 ≤ mc) (hms : ns + ms1 ≤ ms) (hM : Met (gL G) J.1 (.codeWith J.1 J.2.1 J.2.2.1 J.2.2.2.1 hh :: mGood) (mRoom d1 mc1 ms1) (mPc G as μ ex) (mQc G Q1) mc1 ms1 (mA G)) (hex : ∀ r μ1 ex1, Q1 r μ1 ex1 → ex1 = true → ex = true ∧ μ1.length = μ.length + mc1) (k : ∀ r μ1 ex1, Q1 r μ1 ex1 → mT G I d mc ms (pc + 3) lo (r.toList ++ st) μ1 ex1 (nc + mc1) (ns + ms1) Q) : mT G I d mc ms pc lo (as.reverse ++ st) μ ex nc ns Q := by
  intro p e s m args below meth c H locs ls F hP hS hX hl hn hc
  have hgi : GoodIn mGood (.codeWith J.1 J.2.1 J.2.2.1 J.2.2.2.1 hh :: mGood) := by
    intro w hw
    have h1 : w ∈ mGood := by
      rcases List.mem_cons.mp hw with rfl | h
      · exact hcw
      · exact h
    exact ⟨h1, good_of_word (List.mem_filter.mp h1).2⟩
  have hsg : ∀ sig, parseMethodDescriptor J.1.desc = some sig → J.2.2.2.2.2 = sig.parameters.length := by
    intro sig h
    have h2 := hdw.2.2
    rw [h] at h2
    exact (Option.some.inj h2).symm
  have hrm : (mRoom d1 mc1 ms1).frames + 1 ≤ (mRoom d mc ms).frames ∧ 8 + (J.2.2.1 + 11) + (mRoom d1 mc1 ms1).locals ≤ (mRoom d mc ms).locals := ⟨by show d1 + 1 + 1 ≤ d + 1; omega, by show 8 + (J.2.2.1 + 11) + 60 * (d1 + 1) ≤ 60 * (d + 1); omega⟩
  have hcb : (Cond.codeWith J.1 J.2.1 J.2.2.1 J.2.2.2.1 hh).before args s = true := F.ts _ hcw
  have hib : (Cond.initialized J.1.cls).before args s = true := F.ts _ hiw
  have hpre : PreS s H (mPc G as μ ex) (as.map (mTr G)) := ⟨mPc_blind, fun U hU hW => ⟨rfl, mWd_moved F.wd hW hU hS, by rw [hU]; exact hP, fun h => by rw [hU]; exact (hX h).1⟩⟩
  have hrun : va_Run p (gL G) e (mRoom d mc ms) s m args below meth c H locs nc ns mc1 ms1 (F0 m pc ls ((as.reverse ++ st).map (mTr G))) (st.map (mTr G)) (mQc G Q1 (as.map (mTr G)).toArray) (mA G) :=
    vx_runSW ⟨F.1, F.2.1, F.2.2.2.2.1, F.cls, F.ts⟩ hM (n := J.2.2.2.2.2) ⟨⟨rfl, rfl, hrm.1, hrm.2, pay_in F.ts hgi, List.mem_cons_self⟩, hcb, hib, ⟨hdw.1, hdw.2.1⟩, hsg, F.ts _ hw1, F.ts _ hw2⟩ hpre rfl (by rw [List.length_map]; exact hnp) hl.1 (by simp) (mRest G _ _ _ _ _ hst) hd ⟨hmc, hms⟩
  refine mGo (Q' := Q1) hrun hS (fun r μ1 ex1 H1 locs1 hq hP1 hS1 hx1 => ?_)
  have hk := k r μ1 ex1 hq p e s m args below meth c H1 locs1 ls F hP1 hS1 (fun h => by
    have a1 := hx1 h
    obtain ⟨a2, a3⟩ := hex r μ1 ex1 hq h
    have a4 := hX a2
    exact ⟨a1, by omega⟩) hl hn hc
  have e9 : (r.toList ++ st).map (mTr G) = (r.map (mTr G)).toList ++ st.map (mTr G) := by cases r <;> rfl
  rw [e9] at hk
  exact hk
end UX
theorem xat_g : (xy_at RX4 136 "java/util/NoSuchElementException" 13 prog_21_method_4_code ["java/lang/RuntimeException", "java/lang/Exception"]).all (fun w => goodWord w || (mIsNest w && w.onTables)) = true := by decide +kernel
theorem xat_in : (xy_at RX4 136 "java/util/NoSuchElementException" 13 prog_21_method_4_code ["java/lang/RuntimeException", "java/lang/Exception"]).all (fun w => decide (w ∈ lw_tbl)) = true := by decide +kernel
theorem xat_n : (xy_at RX4 136 "java/util/NoSuchElementException" 13 prog_21_method_4_code ["java/lang/RuntimeException", "java/lang/Exception"]).all (fun w => goodWord w || decide (w ∈ tables_1)) = true := by decide +kernel
theorem xat_ot : (Cond.classLink RX4 132 "java/util/NoSuchElementException" :: Cond.initialized "java/util/NoSuchElementException" :: (xy_at RX4 136 "java/util/NoSuchElementException" 13 prog_21_method_4_code ["java/lang/RuntimeException", "java/lang/Exception"])).all vx_ot = true := by decide +kernel
/-- what is left where the throw leaves the book's method -/
def xC (G : mG) (μ : List va_E) : String → State → State → Prop := vx_X (fun _ : Unit => True) (fun E _ t => E = "java/util/NoSuchElementException" ∧ va_P (gD G) mCl (mWs G μ) t.heap) (mA G)
/-- behind a call that throws -/
theorem mGoX {G : mG} {μ : List va_E} {pc nc ns : Nat} {p : Program} {e : Env} {s : State} {m : MethodId} {args : Array Value} {below : List Frame} {meth : Method} {c : Code} {H : Heap} {locs : List Loc} {ls : Array Slot} {st0 rest : List Value} {mc' ms' : Nat} {a : Array Value} {Qs : State → Prop} {R : Room} {l : Launch}
    (hr : vx_Run p l e R s m args below meth c H locs nc ns mc' ms' (F0 m pc ls st0) rest (mQc G (fun _ _ _ => False) a) (xC G μ) (mA G)) (hS : va_S (mA G) s.heap H locs)
    (kx : ∀ (ce : Cell) (q9 : Addr) (H1 : Heap) (locs1 : List Loc), va_P (gD G) mCl (mWs G μ) H1 → va_S (mA G) s.heap H1 locs1 → H1[q9]? = some ce → ce.vm = .none → s.vm.findClass "java/util/NoSuchElementException" = some ce.cls → vx_W p l e R s m args below meth c H1 locs1 (nc + mc') (ns + ms') Qs (F0 m pc ls rest) q9) :
    W p l e R s m args below meth c H locs nc ns Qs (F0 m pc ls st0) := by
  intro T hT X
  rcases hr T hT X with ⟨v, st₀, t, T', L, h0, X', hL, e1, e2, hq, st⟩ | ⟨q, st₀, t, T', L, E, ce, h0, X', hL, e1, e2, ⟨u, hp, hb, hF⟩, hce, hcv, hcl, st⟩
  · obtain ⟨⟨r, μ', ex', hq, -⟩, -⟩ := hq
    exact hq.elim
  · obtain ⟨rfl, hPt⟩ := hb
    obtain ⟨k1, k2, k3⟩ := vx_keep h0 e1 hS (fun _ _ h => h) (fun _ h => h) hL hF
    obtain ⟨t2, a1, b1⟩ := kx ce q T'.heap (locs ++ L) (by rw [e1]; exact hPt) k3 (by rw [e1]; exact hce) hcv hcl T' rfl X'
    exact ⟨t2, st.trans a1, b1⟩
/-- a local that is nowhere read -/
theorem mPr_forget {G : mG} {lo : List (Option Value)} {ls : Array Slot} {nL i : Nat} {v : Value} (hc : ∀ v, some v ∈ lo → v.category = 1) (hi : lo[i]? = some none) (h : lv_has ls nL ((i, v) :: (mPr G lo).filter (fun q => !(q.1 == i) && !(q.1 + 1 == i && q.2.category == 2)))) : lv_has ls nL (mPr G lo) := by
  refine ⟨h.1, h.2.1, fun q hq => ?_⟩
  obtain ⟨w, h1, h2⟩ := mPr_inv hq
  have hqi : ¬ q.1 = i := fun z => by
    rw [z, hi] at h1
    cases h1
  have hcat : q.2.category = 1 := by rw [h2, mTr_cat]; exact hc w (List.mem_of_getElem? h1)
  refine h.2.2 q (List.mem_cons_of_mem _ (List.mem_filter.mpr ⟨hq, ?_⟩))
  simp [hcat, hqi]
section CA2
variable {G : mG} {d : Nat} {σ : mS} {k z : Int32}
theorem xat_ok {I : mI} {p : Program} {s : State} {m : MethodId} {args : Array Value} {meth : Method} {c : Code} (F : mFix G I p s m args meth c) : ∀ w ∈ (xy_at RX4 136 "java/util/NoSuchElementException" 13 prog_21_method_4_code ["java/lang/RuntimeException", "java/lang/Exception"]), w.before args s = true := fun w hw => by
  have h1 := List.all_eq_true.mp xat_g w hw
  have h2 := of_decide_eq_true (List.all_eq_true.mp xat_in w hw)
  by_cases hg : goodWord w = true
  · exact F.ts _ (List.mem_filter.mpr ⟨h2, hg⟩)
  · have h3 := List.all_eq_true.mp xat_n w hw
    have hg := Bool.not_eq_true _ ▸ hg
    rw [hg, Bool.false_or] at h1 h3
    rw [Bool.and_eq_true] at h1
    exact F.nest (of_decide_eq_true h3) h1.1 h1.2
theorem u_camped (hl : (gL G).stackTraces = false) (hC : (decide (nI 0 ≤ k) && decide (k < σ 4 4)) = false) : mU G mX4_camped (d + 8) 1 6 (fun c => ∀ x ∈ c.exceptionTable.toList, False) (fun below args s => vx_MQ below (mQc G (fun _ _ _ => False)) (xC G (mFz σ)) args s 1 6 (mA G)) 0 (mLo mX4_camped [.ref 3, .int k, .int z]) [] (mFz σ) 0 0 := by
  have hv := v_hasCamp (G := G) (d := d) (σ := σ) isTold_4 k
  rw [hC] at hv
  refine U_aload_n dX4_camped_0 rfl ?_
  have h0 := mFz_get (σ := σ) (k := 0) (e := .inl (4, [some 4, some 12, none, none, some 13, some 29, some 40, some 51])) rfl
  have h10 := mFz_get (σ := σ) (k := 1) (e := .inl (3, [none, some 5, some 6, some 7, none, some 8, some 9, some 10, some 11])) rfl
  refine U_get (a := 0) dX4_camped_1 rfl rfl h0 (v := .ref 4) rfl ?_
  refine U_iload_n dX4_camped_4 rfl ?_
  refine U_callV (a := 1) (as := [.int k]) dX4_camped_5 rfl rfl (by decide) h10 rfl rfl rfl ⟨Nat.le_of_ble_eq_true rfl, Nat.le_of_ble_eq_true rfl⟩ (by intro v hv; simp at hv; rw [hv]; rfl) (Nat.le_of_ble_eq_true rfl) (d1 := d) (by omega) (mc1 := 0) (ms1 := 0) (Nat.le_of_ble_eq_true rfl) (Nat.le_of_ble_eq_true rfl) hv (fun r μ1 ex1 h1 => ?_)
  obtain ⟨-, σ2, h3, h4, h5⟩ := h1
  rw [h3, h4, h5]
  refine U_if_ne (tgt := 21) dX4_camped_8 rfl (fun c => absurd rfl c) (fun _ => ?_)
  intro p e s m args below meth c H locs ls F hT hP hS hlv hn hc
  refine xy_make (own := RX4) (cls := "java/util/NoSuchElementException") (text := "no such camp") (Y0 := "java/lang/RuntimeException") (names0 := ["java/lang/Exception"]) (ik := 132) (is := 134) (ic := 136) (ix := 13) (rx := prog_21_method_4_code) (sa := gX G 27) (A := mA G) F.1 F.2.1 hl (by decide +kernel) (by decide +kernel) (by decide +kernel) (by decide +kernel) F.cls (by decide +kernel) (by decide +kernel) (F.ts _ (mG_t (by decide +kernel) (List.mem_of_getElem? (i := 646) (by decide +kernel)))) (F.ts _ (mG_t (by decide +kernel) (List.mem_of_getElem? (i := 16) (by decide +kernel)))) F.str.2.1 (xat_ok F) (fun w hw => List.all_eq_true.mp xat_ot w hw) F.str.2.2.2.2.1 F.str.2.2.2.2.2.1 hS (hlv.1.trans F.2.2.2.2.1.symm) dX4_camped_11 dX4_camped_14 dX4_camped_15 dX4_camped_17 hP ?_ ?_ (Nat.le_of_ble_eq_true rfl) (Nat.le_of_ble_eq_true rfl) (fun q H1 ce hP1 hS1 hq hv hcl => ?_)
  · show 2 + 3 < d + 8 + 1
    omega
  · show 0 + (13 * (2 + 1) + 43) ≤ 60 * (d + 8 + 1)
    omega
  · refine vx_athrow F.1 F.2.1 dX4_camped_20 (vx_out (E := "java/util/NoSuchElementException") (fun x hx => (hT x hx).elim) F.2.2.2.1 hq hv hcl (fun t ht ha => ⟨(), trivial, ⟨rfl, by rw [ht]; exact hP1⟩, hS1.F ht⟩) hS1.2.2 (Nat.le_of_ble_eq_true rfl) (Nat.le_of_ble_eq_true rfl))
/-- the book's camped where the camp is -/
theorem b_campedR {j : Nat} {c : Nat} (hc : σ 4 4 = nI c) (hj : j < c) (h4 : c ≤ 4) : mV G mX4_camped (d + 1) [.ref 3, .int (nI j), .int z] σ (some (.int (if z = 0 then σ 8 j else σ 9 j))) σ := mV_of fun Q hQ => by
  have hv := v_hasCamp (G := G) (d := d) (σ := σ) isTold_4 (nI j)
  rw [hc, decide_eq_true (nI_le (Nat.zero_le j) (by omega)), decide_eq_true (nI_lt hj (by omega))] at hv
  refine F_aload_n dX4_camped_0 rfl ?_
  refine F_getr dX4_camped_1 rfl rfl rfl rfl ?_
  refine F_iload_n dX4_camped_4 rfl ?_
  refine F_cV1i (hv) dX4_camped_5 rfl rfl (by decide) rfl rfl rfl rfl (by decide) (Nat.le_of_ble_eq_true rfl) (by omega) ?_
  refine F_if_neB (tgt := 21) dX4_camped_8 rfl (fun c8 => ?_) (fun c8 => ?_)
  · refine F_iload_n dX4_camped_21 rfl ?_
    refine F_if_eq (tgt := 37) dX4_camped_22 rfl (fun c22 => ?_) (fun c22 => ?_)
    · refine F_aload_n dX4_camped_37 rfl ?_
      refine F_getr dX4_camped_38 rfl rfl rfl rfl ?_
      refine F_getr dX4_camped_41 rfl rfl rfl rfl ?_
      refine F_iload_n dX4_camped_44 rfl ?_
      refine F_iald dX4_camped_45 rfl (by decide) (by omega) ?_
      refine F_iret dX4_camped_46 rfl ?_
      first
        | (rw [if_pos (by assumption)] at hQ; exact hQ)
        | (rw [if_neg (by assumption)] at hQ; exact hQ)
    · refine F_aload_n dX4_camped_25 rfl ?_
      refine F_getr dX4_camped_26 rfl rfl rfl rfl ?_
      refine F_getr dX4_camped_29 rfl rfl rfl rfl ?_
      refine F_iload_n dX4_camped_32 rfl ?_
      refine F_iald dX4_camped_33 rfl (by decide) (by omega) ?_
      refine F_goto (tgt := 46) dX4_camped_34 rfl ?_
      refine F_iret dX4_camped_46 rfl ?_
      first
        | (rw [if_pos (by assumption)] at hQ; exact hQ)
        | (rw [if_neg (by assumption)] at hQ; exact hQ)
  · cases c8
end CA2
section LA
variable {G : mG} {I : mI} {d pc : Nat} {lo : List (Option Value)} {st : List Value} {σ : mS} {Q : Option Value → mS → Prop}
theorem F_last {a n j : Nat} {x : Int32} (hd : decode I.2.1 pc = .ok (.lastore, 1)) (hs : sh a = some (.inr (.inl (3, n)))) (hn : n < 2 ^ 31) (hj : j < n) (k : mF G I d (pc + 1) lo st (up σ a j x) Q) : mF G I d pc lo (.long x.toInt64 :: .int (nI j) :: .ref a :: st) σ Q := by
  obtain ⟨m, rfl, hm⟩ := sh_c hs
  refine T_lastore hd (mFz_get hm) (nI_in2 hj hn) ?_
  rw [nI_clamp (by omega)]
  have e9 : (.inl (3, n, .inr (.inl (vp_updL (fun j => (σ (m + 3) j).toInt64) j x.toInt64))) : va_E) = mCell (upR σ (m + 3) (upd (σ (m + 3)) j x)) (m + 3) (.inr (.inl (3, n))) := by
    have e8 : vp_updL (fun j => (σ (m + 3) j).toInt64) j x.toInt64 = fun i => (upd (σ (m + 3)) j x i).toInt64 := by
      funext i
      simp only [vp_updL, upd]
      by_cases h : i = j
      · rw [if_pos h, if_pos h]
      · rw [if_neg h, if_neg h]
    show _ = (.inl (3, n, .inr (.inl (fun i => (upR σ (m + 3) (upd (σ (m + 3)) j x) (m + 3) i).toInt64))) : va_E)
    rw [upR_s, e8]
  rw [e9, mFz_set hm]
  exact k
end LA
section LB2
variable {G : mG} {d : Nat} {σ : mS} {k z : Int32}
theorem v_LcampedR {j : Nat} {c : Nat} (hc : σ 4 4 = nI c) (hj : j < c) (h4 : c ≤ 4) : mV G mL_camped (d + 2) [.ref 3, .int (nI j), .int z, .ref 132] σ (some (.int (nI 0))) (up σ 132 0 (if z = 0 then σ 8 j else σ 9 j)) := mV_of fun Q hQ => by
  refine F_aload_n dL_camped_0 rfl ?_
  refine F_iconst (v := nI 0) dL_camped_1 rfl ?_
  refine F_aload_n dL_camped_2 rfl ?_
  refine F_iload_n dL_camped_3 rfl ?_
  refine F_iload_n dL_camped_4 rfl ?_
  refine F_cV2i (b_campedR (d := d) hc hj h4) dL_camped_5 rfl rfl (by decide) rfl rfl rfl rfl (by decide) (Nat.le_of_ble_eq_true rfl) (by omega) ?_
  refine F_i2l dL_camped_8 ?_
  refine F_last dL_camped_9 rfl (by decide) (by decide) ?_
  refine F_goto (tgt := 17) dL_camped_10 rfl ?_
  refine F_iconst (v := nI 0) dL_camped_17 rfl ?_
  exact F_iret dL_camped_18 rfl hQ
theorem u_Lcamped (hl : (gL G).stackTraces = false) (hC : (decide (nI 0 ≤ k) && decide (k < σ 4 4)) = false) : mU G mL_camped (d + 10) 1 6 (fun c => c.exceptionTable.toList = tableOf [(0, 10, 13, 13)]) (fun below args s => MQ below (mQc G (fun r μ ex => ex = false ∧ ∃ σ', μ = mFz σ' ∧ r = some (.int (nI 1)) ∧ σ' = σ)) args s 1 6 (mA G)) 0 (mLo mL_camped [.ref 3, .int k, .int z, .ref 132]) [] (mFz σ) 0 0 := by
  refine U_aload_n dL_camped_0 rfl ?_
  refine U_iconst (v := nI 0) dL_camped_1 rfl ?_
  refine U_aload_n dL_camped_2 rfl ?_
  refine U_iload_n dL_camped_3 rfl ?_
  refine U_iload_n dL_camped_4 rfl ?_
  intro p e s m args below meth c H locs ls F hT hP hS hlv hn hc
  obtain ⟨hJ, hw⟩ := mCa_ok 6 (7, 1, mX4_camped) (mLk rfl)
  have hgi := mGood_in hJ
  have hrm : (mRoom (d + 8) 1 6).frames + 1 ≤ (mRoom (d + 10) 1 6).frames ∧ 8 + (3 + 11) + (mRoom (d + 8) 1 6).locals ≤ (mRoom (d + 10) 1 6).locals := ⟨by show d + 8 + 1 + 1 ≤ d + 10 + 1; omega, by show 8 + (3 + 11) + 60 * (d + 8 + 1) ≤ 60 * (d + 10 + 1); omega⟩
  have hcb : (Cond.code mX4_camped.1 mX4_camped.2.1 mX4_camped.2.2.1 mX4_camped.2.2.2.1).before args s = true := F.ts _ hJ.1
  have hib : (Cond.initialized mX4_camped.1.cls).before args s = true := F.ts _ hJ.2.1
  have hM := mMetX (G := G) (J := mX4_camped) (as := [.ref 3, .int k, .int z]) hJ.2.2.2.1 (Nat.le_of_ble_eq_true rfl) (by intro v hv; simp at hv; rcases hv with rfl | rfl | rfl <;> rfl) (u_camped (d := d) (σ := σ) (k := k) (z := z) hl hC)
  obtain ⟨fs9, he⟩ : ∃ fs9, (mWs G (mFz σ))[0]? = some (mAd G 3, .inr (4, fs9)) := by
    have h0 := mWs_at (G := G) (mFz_get (σ := σ) (k := 0) (e := .inl (4, [some 4, some 12, none, none, some 13, some 29, some 40, some 51])) rfl)
    rw [← mAd_c G 0] at h0
    exact ⟨_, h0⟩
  have hrecv := va_recv F.wd.1 hP (show mCl[4]? = some (RX4, TX4, 8) from rfl) he
  have hpre : PreV s H mX4_camped.1.cls (mAd G 3) (mPc G [.ref 3, .int k, .int z] (mFz σ) false) [.int k, .int z] := ⟨mPc_blind, hrecv, fun U hU hW => ⟨rfl, mWd_moved F.wd hW hU hS, by rw [hU]; exact hP, fun h => by cases h⟩⟩
  have hrun := vx_runV (g := F0 m 5 ls [.int z, .int k, .ref (mAd G 3), .int (nI 0), .ref (mAd G 132)]) (rest := [.int (nI 0), .ref (mAd G 132)]) (p := p) (e := e) (below := below) (meth := meth) (locs := locs) (cells := 0) (slots := 0) ⟨F.1, F.2.1, F.2.2.2.2.1, F.own rfl, F.ts⟩ hM (n := 2) ⟨⟨rfl, rfl, hrm.1, hrm.2, pay_in F.ts hgi, List.mem_cons_self, hcb, hib, ⟨hJ.2.2.1.1, hJ.2.2.1.2.1⟩, mSig hJ, F.ts _ hw.1⟩, F.ts _ hw.2.1, F.ts _ hw.2.2⟩ hpre rfl rfl hlv.1 rfl (Nat.le_of_ble_eq_true rfl) dL_camped_5 ⟨Nat.le_of_ble_eq_true rfl, Nat.le_of_ble_eq_true rfl⟩
  refine mGoX hrun hS (fun ce q9 H1 locs1 hP1 hS1 h1 h2 h3 => ?_)
  refine vx_catch (own := RL) (name := "java/util/NoSuchElementException") (E := "java/util/NoSuchElementException") F.cls [] ⟨0, 10, 13, 13⟩ [] hT (fun z hz => nomatch hz) (by decide) (by decide) (F.ts _ (mG_t (by decide +kernel) (List.mem_of_getElem? (i := 641) (by decide +kernel)))) (F.nest (List.mem_of_getElem? (i := 648) (by decide +kernel)) rfl rfl) h1 h2 h3 ?_
  refine lv_astore F.1 F.2.1 dL_camped_13 hlv (by decide) rfl (fun ls2 hl2 => ?_)
  have hk : mT G mL_camped (d + 10) 1 6 15 (mLo mL_camped [.ref 3, .int k, .int z, .ref 132]) [] (mFz σ) false (0 + 1) (0 + 6) (fun r μ ex => ex = false ∧ ∃ σ', μ = mFz σ' ∧ r = some (.int (nI 1)) ∧ σ' = σ) := T_iconst (v := nI 1) dL_camped_15 rfl (T_iret dL_camped_16 rfl (Nat.le_of_ble_eq_true rfl) (Nat.le_of_ble_eq_true rfl) ⟨rfl, σ, rfl, rfl, rfl⟩)
  exact hk p e s m args below meth c H1 locs1 ls2 F hP1 hS1 (fun z => by cases z) (mPr_forget hc rfl hl2) hn hc
end LB2
