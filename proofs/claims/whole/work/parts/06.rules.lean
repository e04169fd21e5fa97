/-! ===== the small machine: a rule an instruction ===== -/
section RU
variable {G : mG} {I : mI} {d mc ms pc : Nat} {lo : List (Option Value)} {st : List Value} {μ : List va_E} {ex : Bool} {nc ns : Nat} {Q : mQ}
theorem T_iconst {n : Int} {v : Int32} (hd : decode I.2.1 pc = .ok (.iconst n, 1)) (hv : Int32.ofInt n = v) (k : mT G I d mc ms (pc + 1) lo (.int v :: st) μ ex nc ns Q) : mT G I d mc ms pc lo st μ ex nc ns Q := by
  intro p e s m args below meth c H locs ls F hP hS hX hl hn hc
  exact lv_iconst F.1 F.2.1 hd hv (k p e s m args below meth c H locs ls F hP hS hX hl hn hc)
theorem T_bipush {n : Int} {v : Int32} (hd : decode I.2.1 pc = .ok (.bipush n, 2)) (hv : (Int8.ofInt n).toInt32 = v) (k : mT G I d mc ms (pc + 2) lo (.int v :: st) μ ex nc ns Q) : mT G I d mc ms pc lo st μ ex nc ns Q := by
  intro p e s m args below meth c H locs ls F hP hS hX hl hn hc
  exact lv_bipush F.1 F.2.1 hd hv (k p e s m args below meth c H locs ls F hP hS hX hl hn hc)
theorem T_sipush {n : Int} {v : Int32} (hd : decode I.2.1 pc = .ok (.sipush n, 3)) (hv : (Int16.ofInt n).toInt32 = v) (k : mT G I d mc ms (pc + 3) lo (.int v :: st) μ ex nc ns Q) : mT G I d mc ms pc lo st μ ex nc ns Q := by
  intro p e s m args below meth c H locs ls F hP hS hX hl hn hc
  exact lv_sipush F.1 F.2.1 hd hv (k p e s m args below meth c H locs ls F hP hS hX hl hn hc)
theorem T_iload_n {k0 : Fin 4} {x : Int32} (hd : decode I.2.1 pc = .ok (.iload_n k0, 1)) (hx : lo[(k0 : Nat)]? = some (some (.int x))) (k : mT G I d mc ms (pc + 1) lo (.int x :: st) μ ex nc ns Q) : mT G I d mc ms pc lo st μ ex nc ns Q := by
  intro p e s m args below meth c H locs ls F hP hS hX hl hn hc
  exact lv_iload_n F.1 F.2.1 hd rfl (mPr_at hl hx) (k p e s m args below meth c H locs ls F hP hS hX hl hn hc)
theorem T_iload {i : Nat} {x : Int32} (hd : decode I.2.1 pc = .ok (.iload i, 2)) (hx : lo[i]? = some (some (.int x))) (k : mT G I d mc ms (pc + 2) lo (.int x :: st) μ ex nc ns Q) : mT G I d mc ms pc lo st μ ex nc ns Q := by
  intro p e s m args below meth c H locs ls F hP hS hX hl hn hc
  exact lv_iload F.1 F.2.1 hd (mPr_at hl hx) (k p e s m args below meth c H locs ls F hP hS hX hl hn hc)
theorem T_aload_n {k0 : Fin 4} {x : Nat} (hd : decode I.2.1 pc = .ok (.aload_n k0, 1)) (hx : lo[(k0 : Nat)]? = some (some (.ref x))) (k : mT G I d mc ms (pc + 1) lo (.ref x :: st) μ ex nc ns Q) : mT G I d mc ms pc lo st μ ex nc ns Q := by
  intro p e s m args below meth c H locs ls F hP hS hX hl hn hc
  exact lv_aload_n F.1 F.2.1 hd rfl (mPr_at hl hx) (k p e s m args below meth c H locs ls F hP hS hX hl hn hc)
theorem T_aload {i : Nat} {x : Nat} (hd : decode I.2.1 pc = .ok (.aload i, 2)) (hx : lo[i]? = some (some (.ref x))) (k : mT G I d mc ms (pc + 2) lo (.ref x :: st) μ ex nc ns Q) : mT G I d mc ms pc lo st μ ex nc ns Q := by
  intro p e s m args below meth c H locs ls F hP hS hX hl hn hc
  exact lv_aload F.1 F.2.1 hd (mPr_at hl hx) (k p e s m args below meth c H locs ls F hP hS hX hl hn hc)
theorem T_iadd {x y : Int32} (hd : decode I.2.1 pc = .ok (.iadd, 1))  (k : mT G I d mc ms (pc + 1) lo (.int (x + y) :: st) μ ex nc ns Q) : mT G I d mc ms pc lo (.int y :: .int x :: st) μ ex nc ns Q := by
  intro p e s m args below meth c H locs ls F hP hS hX hl hn hc
  exact lv_iadd F.1 F.2.1 hd (k p e s m args below meth c H locs ls F hP hS hX hl hn hc)
theorem T_isub {x y : Int32} (hd : decode I.2.1 pc = .ok (.isub, 1))  (k : mT G I d mc ms (pc + 1) lo (.int (x - y) :: st) μ ex nc ns Q) : mT G I d mc ms pc lo (.int y :: .int x :: st) μ ex nc ns Q := by
  intro p e s m args below meth c H locs ls F hP hS hX hl hn hc
  exact lv_isub F.1 F.2.1 hd (k p e s m args below meth c H locs ls F hP hS hX hl hn hc)
theorem T_imul {x y : Int32} (hd : decode I.2.1 pc = .ok (.imul, 1))  (k : mT G I d mc ms (pc + 1) lo (.int (x * y) :: st) μ ex nc ns Q) : mT G I d mc ms pc lo (.int y :: .int x :: st) μ ex nc ns Q := by
  intro p e s m args below meth c H locs ls F hP hS hX hl hn hc
  exact lv_imul F.1 F.2.1 hd (k p e s m args below meth c H locs ls F hP hS hX hl hn hc)
theorem T_iand {x y : Int32} (hd : decode I.2.1 pc = .ok (.iand, 1))  (k : mT G I d mc ms (pc + 1) lo (.int (x &&& y) :: st) μ ex nc ns Q) : mT G I d mc ms pc lo (.int y :: .int x :: st) μ ex nc ns Q := by
  intro p e s m args below meth c H locs ls F hP hS hX hl hn hc
  exact lv_iand F.1 F.2.1 hd (k p e s m args below meth c H locs ls F hP hS hX hl hn hc)
theorem T_ior {x y : Int32} (hd : decode I.2.1 pc = .ok (.ior, 1))  (k : mT G I d mc ms (pc + 1) lo (.int (x ||| y) :: st) μ ex nc ns Q) : mT G I d mc ms pc lo (.int y :: .int x :: st) μ ex nc ns Q := by
  intro p e s m args below meth c H locs ls F hP hS hX hl hn hc
  exact lv_ior F.1 F.2.1 hd (k p e s m args below meth c H locs ls F hP hS hX hl hn hc)
theorem T_ishl {x y : Int32} (hd : decode I.2.1 pc = .ok (.ishl, 1))  (k : mT G I d mc ms (pc + 1) lo (.int (x <<< (y &&& 31)) :: st) μ ex nc ns Q) : mT G I d mc ms pc lo (.int y :: .int x :: st) μ ex nc ns Q := by
  intro p e s m args below meth c H locs ls F hP hS hX hl hn hc
  exact lv_ishl F.1 F.2.1 hd (k p e s m args below meth c H locs ls F hP hS hX hl hn hc)
theorem T_ishr {x y : Int32} (hd : decode I.2.1 pc = .ok (.ishr, 1))  (k : mT G I d mc ms (pc + 1) lo (.int (x >>> (y &&& 31)) :: st) μ ex nc ns Q) : mT G I d mc ms pc lo (.int y :: .int x :: st) μ ex nc ns Q := by
  intro p e s m args below meth c H locs ls F hP hS hX hl hn hc
  exact lv_ishr F.1 F.2.1 hd (k p e s m args below meth c H locs ls F hP hS hX hl hn hc)
theorem T_idiv {x y : Int32} (hd : decode I.2.1 pc = .ok (.idiv, 1)) (hne : ¬ y = 0) (k : mT G I d mc ms (pc + 1) lo (.int (x / y) :: st) μ ex nc ns Q) : mT G I d mc ms pc lo (.int y :: .int x :: st) μ ex nc ns Q := by
  intro p e s m args below meth c H locs ls F hP hS hX hl hn hc
  exact lv_idiv F.1 F.2.1 hd hne (k p e s m args below meth c H locs ls F hP hS hX hl hn hc)
theorem T_irem {x y : Int32} (hd : decode I.2.1 pc = .ok (.irem, 1)) (hne : ¬ y = 0) (k : mT G I d mc ms (pc + 1) lo (.int (x - x / y * y) :: st) μ ex nc ns Q) : mT G I d mc ms pc lo (.int y :: .int x :: st) μ ex nc ns Q := by
  intro p e s m args below meth c H locs ls F hP hS hX hl hn hc
  exact lv_irem F.1 F.2.1 hd hne (k p e s m args below meth c H locs ls F hP hS hX hl hn hc)
theorem T_i2b {x : Int32} (hd : decode I.2.1 pc = .ok (.i2b, 1))  (k : mT G I d mc ms (pc + 1) lo (.int x.toInt8.toInt32 :: st) μ ex nc ns Q) : mT G I d mc ms pc lo (.int x :: st) μ ex nc ns Q := by
  intro p e s m args below meth c H locs ls F hP hS hX hl hn hc
  exact lv_i2b F.1 F.2.1 hd rfl (k p e s m args below meth c H locs ls F hP hS hX hl hn hc)
theorem T_i2l {x : Int32} (hd : decode I.2.1 pc = .ok (.i2l, 1))  (k : mT G I d mc ms (pc + 1) lo (.long x.toInt64 :: st) μ ex nc ns Q) : mT G I d mc ms pc lo (.int x :: st) μ ex nc ns Q := by
  intro p e s m args below meth c H locs ls F hP hS hX hl hn hc
  exact lv_i2l F.1 F.2.1 hd rfl (k p e s m args below meth c H locs ls F hP hS hX hl hn hc)
theorem T_lcmp {x y : Int64} (hd : decode I.2.1 pc = .ok (.lcmp, 1)) (k : mT G I d mc ms (pc + 1) lo (.int (lg_cmp x y) :: st) μ ex nc ns Q) : mT G I d mc ms pc lo (.long y :: .long x :: st) μ ex nc ns Q := by
  intro p e s m args below meth c H locs ls F hP hS hX hl hn hc
  exact W.lcmp F.1 F.2.1 hd (k p e s m args below meth c H locs ls F hP hS hX hl hn hc)
theorem T_dup {v : Value} (hd : decode I.2.1 pc = .ok (.dup, 1)) (hv : v.category = 1) (k : mT G I d mc ms (pc + 1) lo (v :: v :: st) μ ex nc ns Q) : mT G I d mc ms pc lo (v :: st) μ ex nc ns Q := by
  intro p e s m args below meth c H locs ls F hP hS hX hl hn hc
  exact lv_dup F.1 F.2.1 hd ((mTr_cat G v).trans hv) (k p e s m args below meth c H locs ls F hP hS hX hl hn hc)
theorem T_dup2 {v w : Value} (hd : decode I.2.1 pc = .ok (.dup2, 1)) (hv : v.category = 1) (hw : w.category = 1) (k : mT G I d mc ms (pc + 1) lo (v :: w :: v :: w :: st) μ ex nc ns Q) : mT G I d mc ms pc lo (v :: w :: st) μ ex nc ns Q := by
  intro p e s m args below meth c H locs ls F hP hS hX hl hn hc
  exact lv_dup2_11 F.1 F.2.1 hd ((mTr_cat G v).trans hv) ((mTr_cat G w).trans hw) (k p e s m args below meth c H locs ls F hP hS hX hl hn hc)
theorem T_pop {v : Value} (hd : decode I.2.1 pc = .ok (.pop, 1)) (hv : v.category = 1) (k : mT G I d mc ms (pc + 1) lo st μ ex nc ns Q) : mT G I d mc ms pc lo (v :: st) μ ex nc ns Q := by
  intro p e s m args below meth c H locs ls F hP hS hX hl hn hc
  exact lv_pop F.1 F.2.1 hd ((mTr_cat G v).trans hv) (k p e s m args below meth c H locs ls F hP hS hX hl hn hc)
theorem T_istore_n {k0 : Fin 4} {x : Int32} (hd : decode I.2.1 pc = .ok (.istore_n k0, 1)) (hi : (k0 : Nat) < lo.length) (k : mT G I d mc ms (pc + 1) (lo.set (k0 : Nat) (some (.int x))) st μ ex nc ns Q) : mT G I d mc ms pc lo (.int x :: st) μ ex nc ns Q := by
  intro p e s m args below meth c H locs ls F hP hS hX hl hn hc
  exact lv_istore_n F.1 F.2.1 hd rfl hl (by rw [← hn]; exact hi) rfl (fun ls2 hl2 => k p e s m args below meth c H locs ls2 F hP hS hX (mPr_set hc hi hl2) (by rw [List.length_set]; exact hn) (mCat_set hc rfl))
theorem T_istore {i : Nat} {x : Int32} (hd : decode I.2.1 pc = .ok (.istore i, 2)) (hi : i < lo.length) (k : mT G I d mc ms (pc + 2) (lo.set i (some (.int x))) st μ ex nc ns Q) : mT G I d mc ms pc lo (.int x :: st) μ ex nc ns Q := by
  intro p e s m args below meth c H locs ls F hP hS hX hl hn hc
  exact lv_istore F.1 F.2.1 hd hl (by rw [← hn]; exact hi) rfl (fun ls2 hl2 => k p e s m args below meth c H locs ls2 F hP hS hX (mPr_set hc hi hl2) (by rw [List.length_set]; exact hn) (mCat_set hc rfl))
theorem T_astore_n {k0 : Fin 4} {x : Nat} (hd : decode I.2.1 pc = .ok (.astore_n k0, 1)) (hi : (k0 : Nat) < lo.length) (k : mT G I d mc ms (pc + 1) (lo.set (k0 : Nat) (some (.ref x))) st μ ex nc ns Q) : mT G I d mc ms pc lo (.ref x :: st) μ ex nc ns Q := by
  intro p e s m args below meth c H locs ls F hP hS hX hl hn hc
  exact lv_astore_n F.1 F.2.1 hd rfl hl (by rw [← hn]; exact hi) rfl (fun ls2 hl2 => k p e s m args below meth c H locs ls2 F hP hS hX (mPr_set hc hi hl2) (by rw [List.length_set]; exact hn) (mCat_set hc rfl))
theorem T_astore {i : Nat} {x : Nat} (hd : decode I.2.1 pc = .ok (.astore i, 2)) (hi : i < lo.length) (k : mT G I d mc ms (pc + 2) (lo.set i (some (.ref x))) st μ ex nc ns Q) : mT G I d mc ms pc lo (.ref x :: st) μ ex nc ns Q := by
  intro p e s m args below meth c H locs ls F hP hS hX hl hn hc
  exact lv_astore F.1 F.2.1 hd hl (by rw [← hn]; exact hi) rfl (fun ls2 hl2 => k p e s m args below meth c H locs ls2 F hP hS hX (mPr_set hc hi hl2) (by rw [List.length_set]; exact hn) (mCat_set hc rfl))
theorem T_iinc {i : Nat} {n : Int} {x v : Int32} (hd : decode I.2.1 pc = .ok (.iinc i n, 3)) (hx : lo[i]? = some (some (.int x))) (hv : x + Int32.ofInt n = v) (k : mT G I d mc ms (pc + 3) (lo.set i (some (.int v))) st μ ex nc ns Q) : mT G I d mc ms pc lo st μ ex nc ns Q := by
  intro p e s m args below meth c H locs ls F hP hS hX hl hn hc
  have hi : i < lo.length := (List.getElem?_eq_some_iff.mp hx).1
  obtain ⟨j, hj⟩ := List.getElem?_of_mem (mPr_mem (G := G) hx)
  exact lv_iinc F.1 F.2.1 hd hl hj hv (by rw [← hn]; exact hi) rfl (fun ls2 hl2 => k p e s m args below meth c H locs ls2 F hP hS hX (mPr_set hc hi hl2) (by rw [List.length_set]; exact hn) (mCat_set hc rfl))
theorem T_goto {off : Int} {tgt : Nat} (hd : decode I.2.1 pc = .ok (.goto off, 3)) (ht : (pc : Int) + off = (tgt : Int)) (k : mT G I d mc ms tgt lo st μ ex nc ns Q) : mT G I d mc ms pc lo st μ ex nc ns Q := by
  intro p e s m args below meth c H locs ls F hP hS hX hl hn hc
  exact lv_goto F.1 F.2.1 hd ht (k p e s m args below meth c H locs ls F hP hS hX hl hn hc)
theorem T_icmp_eq {x y : Int32} {off : Int} {tgt : Nat} (hd : decode I.2.1 pc = .ok (.if_icmp .eq off, 3)) (ht : (pc : Int) + off = (tgt : Int)) (kt : x = y → mT G I d mc ms tgt lo st μ ex nc ns Q) (kf : ¬ x = y → mT G I d mc ms (pc + 3) lo st μ ex nc ns Q) : mT G I d mc ms pc lo (.int y :: .int x :: st) μ ex nc ns Q := by
  intro p e s m args below meth c H locs ls F hP hS hX hl hn hc
  exact lv_icmp_eq F.1 F.2.1 hd ht (fun h => kt h p e s m args below meth c H locs ls F hP hS hX hl hn hc) (fun h => kf h p e s m args below meth c H locs ls F hP hS hX hl hn hc)
theorem T_if_eq {x : Int32} {off : Int} {tgt : Nat} (hd : decode I.2.1 pc = .ok (.ifCond .eq off, 3)) (ht : (pc : Int) + off = (tgt : Int)) (kt : x = 0 → mT G I d mc ms tgt lo st μ ex nc ns Q) (kf : ¬ x = 0 → mT G I d mc ms (pc + 3) lo st μ ex nc ns Q) : mT G I d mc ms pc lo (.int x :: st) μ ex nc ns Q := by
  intro p e s m args below meth c H locs ls F hP hS hX hl hn hc
  exact lv_if_eq F.1 F.2.1 hd ht (fun h => kt h p e s m args below meth c H locs ls F hP hS hX hl hn hc) (fun h => kf h p e s m args below meth c H locs ls F hP hS hX hl hn hc)
theorem T_icmp_ne {x y : Int32} {off : Int} {tgt : Nat} (hd : decode I.2.1 pc = .ok (.if_icmp .ne off, 3)) (ht : (pc : Int) + off = (tgt : Int)) (kt : ¬ x = y → mT G I d mc ms tgt lo st μ ex nc ns Q) (kf : x = y → mT G I d mc ms (pc + 3) lo st μ ex nc ns Q) : mT G I d mc ms pc lo (.int y :: .int x :: st) μ ex nc ns Q := by
  intro p e s m args below meth c H locs ls F hP hS hX hl hn hc
  exact lv_icmp_ne F.1 F.2.1 hd ht (fun h => kt h p e s m args below meth c H locs ls F hP hS hX hl hn hc) (fun h => kf h p e s m args below meth c H locs ls F hP hS hX hl hn hc)
theorem T_if_ne {x : Int32} {off : Int} {tgt : Nat} (hd : decode I.2.1 pc = .ok (.ifCond .ne off, 3)) (ht : (pc : Int) + off = (tgt : Int)) (kt : ¬ x = 0 → mT G I d mc ms tgt lo st μ ex nc ns Q) (kf : x = 0 → mT G I d mc ms (pc + 3) lo st μ ex nc ns Q) : mT G I d mc ms pc lo (.int x :: st) μ ex nc ns Q := by
  intro p e s m args below meth c H locs ls F hP hS hX hl hn hc
  exact lv_if_ne F.1 F.2.1 hd ht (fun h => kt h p e s m args below meth c H locs ls F hP hS hX hl hn hc) (fun h => kf h p e s m args below meth c H locs ls F hP hS hX hl hn hc)
theorem T_icmp_lt {x y : Int32} {off : Int} {tgt : Nat} (hd : decode I.2.1 pc = .ok (.if_icmp .lt off, 3)) (ht : (pc : Int) + off = (tgt : Int)) (kt : x < y → mT G I d mc ms tgt lo st μ ex nc ns Q) (kf : ¬ x < y → mT G I d mc ms (pc + 3) lo st μ ex nc ns Q) : mT G I d mc ms pc lo (.int y :: .int x :: st) μ ex nc ns Q := by
  intro p e s m args below meth c H locs ls F hP hS hX hl hn hc
  exact lv_icmp_lt F.1 F.2.1 hd ht (fun h => kt h p e s m args below meth c H locs ls F hP hS hX hl hn hc) (fun h => kf h p e s m args below meth c H locs ls F hP hS hX hl hn hc)
theorem T_if_lt {x : Int32} {off : Int} {tgt : Nat} (hd : decode I.2.1 pc = .ok (.ifCond .lt off, 3)) (ht : (pc : Int) + off = (tgt : Int)) (kt : x < 0 → mT G I d mc ms tgt lo st μ ex nc ns Q) (kf : ¬ x < 0 → mT G I d mc ms (pc + 3) lo st μ ex nc ns Q) : mT G I d mc ms pc lo (.int x :: st) μ ex nc ns Q := by
  intro p e s m args below meth c H locs ls F hP hS hX hl hn hc
  exact lv_if_lt F.1 F.2.1 hd ht (fun h => kt h p e s m args below meth c H locs ls F hP hS hX hl hn hc) (fun h => kf h p e s m args below meth c H locs ls F hP hS hX hl hn hc)
theorem T_icmp_ge {x y : Int32} {off : Int} {tgt : Nat} (hd : decode I.2.1 pc = .ok (.if_icmp .ge off, 3)) (ht : (pc : Int) + off = (tgt : Int)) (kt : y ≤ x → mT G I d mc ms tgt lo st μ ex nc ns Q) (kf : ¬ y ≤ x → mT G I d mc ms (pc + 3) lo st μ ex nc ns Q) : mT G I d mc ms pc lo (.int y :: .int x :: st) μ ex nc ns Q := by
  intro p e s m args below meth c H locs ls F hP hS hX hl hn hc
  exact lv_icmp_ge F.1 F.2.1 hd ht (fun h => kt h p e s m args below meth c H locs ls F hP hS hX hl hn hc) (fun h => kf h p e s m args below meth c H locs ls F hP hS hX hl hn hc)
theorem T_if_ge {x : Int32} {off : Int} {tgt : Nat} (hd : decode I.2.1 pc = .ok (.ifCond .ge off, 3)) (ht : (pc : Int) + off = (tgt : Int)) (kt : 0 ≤ x → mT G I d mc ms tgt lo st μ ex nc ns Q) (kf : ¬ 0 ≤ x → mT G I d mc ms (pc + 3) lo st μ ex nc ns Q) : mT G I d mc ms pc lo (.int x :: st) μ ex nc ns Q := by
  intro p e s m args below meth c H locs ls F hP hS hX hl hn hc
  exact lv_if_ge F.1 F.2.1 hd ht (fun h => kt h p e s m args below meth c H locs ls F hP hS hX hl hn hc) (fun h => kf h p e s m args below meth c H locs ls F hP hS hX hl hn hc)
theorem T_icmp_gt {x y : Int32} {off : Int} {tgt : Nat} (hd : decode I.2.1 pc = .ok (.if_icmp .gt off, 3)) (ht : (pc : Int) + off = (tgt : Int)) (kt : y < x → mT G I d mc ms tgt lo st μ ex nc ns Q) (kf : ¬ y < x → mT G I d mc ms (pc + 3) lo st μ ex nc ns Q) : mT G I d mc ms pc lo (.int y :: .int x :: st) μ ex nc ns Q := by
  intro p e s m args below meth c H locs ls F hP hS hX hl hn hc
  exact lv_icmp_gt F.1 F.2.1 hd ht (fun h => kt h p e s m args below meth c H locs ls F hP hS hX hl hn hc) (fun h => kf h p e s m args below meth c H locs ls F hP hS hX hl hn hc)
theorem T_if_gt {x : Int32} {off : Int} {tgt : Nat} (hd : decode I.2.1 pc = .ok (.ifCond .gt off, 3)) (ht : (pc : Int) + off = (tgt : Int)) (kt : 0 < x → mT G I d mc ms tgt lo st μ ex nc ns Q) (kf : ¬ 0 < x → mT G I d mc ms (pc + 3) lo st μ ex nc ns Q) : mT G I d mc ms pc lo (.int x :: st) μ ex nc ns Q := by
  intro p e s m args below meth c H locs ls F hP hS hX hl hn hc
  exact lv_if_gt F.1 F.2.1 hd ht (fun h => kt h p e s m args below meth c H locs ls F hP hS hX hl hn hc) (fun h => kf h p e s m args below meth c H locs ls F hP hS hX hl hn hc)
theorem T_icmp_le {x y : Int32} {off : Int} {tgt : Nat} (hd : decode I.2.1 pc = .ok (.if_icmp .le off, 3)) (ht : (pc : Int) + off = (tgt : Int)) (kt : x ≤ y → mT G I d mc ms tgt lo st μ ex nc ns Q) (kf : ¬ x ≤ y → mT G I d mc ms (pc + 3) lo st μ ex nc ns Q) : mT G I d mc ms pc lo (.int y :: .int x :: st) μ ex nc ns Q := by
  intro p e s m args below meth c H locs ls F hP hS hX hl hn hc
  exact lv_icmp_le F.1 F.2.1 hd ht (fun h => kt h p e s m args below meth c H locs ls F hP hS hX hl hn hc) (fun h => kf h p e s m args below meth c H locs ls F hP hS hX hl hn hc)
theorem T_if_le {x : Int32} {off : Int} {tgt : Nat} (hd : decode I.2.1 pc = .ok (.ifCond .le off, 3)) (ht : (pc : Int) + off = (tgt : Int)) (kt : x ≤ 0 → mT G I d mc ms tgt lo st μ ex nc ns Q) (kf : ¬ x ≤ 0 → mT G I d mc ms (pc + 3) lo st μ ex nc ns Q) : mT G I d mc ms pc lo (.int x :: st) μ ex nc ns Q := by
  intro p e s m args below meth c H locs ls F hP hS hX hl hn hc
  exact lv_if_le F.1 F.2.1 hd ht (fun h => kt h p e s m args below meth c H locs ls F hP hS hX hl hn hc) (fun h => kf h p e s m args below meth c H locs ls F hP hS hX hl hn hc)
theorem T_tableIn {dflt l0 hi : Int} {offs : Array Int} {len : Nat} {x : Int32} {off : Int} {tgt : Nat} (hd : decode I.2.1 pc = .ok (.tableswitch dflt l0 hi offs, len)) (h1 : ¬ x.toInt < l0) (h2 : ¬ hi < x.toInt) (ho : offs[(x.toInt - l0).toNat]? = some off) (ht : (pc : Int) + off = (tgt : Int)) (k : mT G I d mc ms tgt lo st μ ex nc ns Q) : mT G I d mc ms pc lo (.int x :: st) μ ex nc ns Q := by
  intro p e s m args below meth c H locs ls F hP hS hX hl hn hc
  exact lv_tableIn F.1 F.2.1 hd h1 h2 ho ht (k p e s m args below meth c H locs ls F hP hS hX hl hn hc)
theorem T_tableOut {dflt l0 hi : Int} {offs : Array Int} {len : Nat} {x : Int32} {tgt : Nat} (hd : decode I.2.1 pc = .ok (.tableswitch dflt l0 hi offs, len)) (h : x.toInt < l0 ∨ hi < x.toInt) (ht : (pc : Int) + dflt = (tgt : Int)) (k : mT G I d mc ms tgt lo st μ ex nc ns Q) : mT G I d mc ms pc lo (.int x :: st) μ ex nc ns Q := by
  intro p e s m args below meth c H locs ls F hP hS hX hl hn hc
  exact lv_tableOut F.1 F.2.1 hd h ht (k p e s m args below meth c H locs ls F hP hS hX hl hn hc)
theorem T_lookup {dflt : Int} {ps : Array (Int × Int)} {len : Nat} {x : Int32} {off : Int} {tgt : Nat} (hd : decode I.2.1 pc = .ok (.lookupswitch dflt ps, len)) (hp : (ps.toList.zip (ps.toList.drop 1)).all (fun (a, next) => a.1 < next.1) = true) (ho : Op.lookupswitch.offset ps.toList dflt x.toInt = off) (ht : (pc : Int) + off = (tgt : Int)) (k : mT G I d mc ms tgt lo st μ ex nc ns Q) : mT G I d mc ms pc lo (.int x :: st) μ ex nc ns Q := by
  intro p e s m args below meth c H locs ls F hP hS hX hl hn hc
  exact lv_lookup F.1 F.2.1 hd hp ho ht (k p e s m args below meth c H locs ls F hP hS hX hl hn hc)
theorem mFix.own {p : Program} {s : State} {m : MethodId} {args : Array Value} {meth : Method} {c : Code} (F : mFix G I p s m args meth c) (ho : mOwn.getD I.2.2.2.2.1 "" = I.1.cls) : s.vm.findClass (mOwn.getD I.2.2.2.2.1 "") = some m.cls := by rw [ho]; exact F.2.2.2.2.2.1
theorem mFix.ts {p : Program} {s : State} {m : MethodId} {args : Array Value} {meth : Method} {c : Code} (F : mFix G I p s m args meth c) : ∀ w ∈ mGood, w.before args s = true := F.2.2.2.2.2.2.2.1
theorem mFix.wd {p : Program} {s : State} {m : MethodId} {args : Array Value} {meth : Method} {c : Code} (F : mFix G I p s m args meth c) : mWd G s := F.2.2.2.2.2.2.2.2
theorem mFix.nest {p : Program} {s : State} {m : MethodId} {args : Array Value} {meth : Method} {c : Code} (F : mFix G I p s m args meth c) {w : Cond} (h : w ∈ tables_1) (hw : mIsNest w = true) (ht : w.onTables = true) : w.before args s = true := va_Nw.use ht (F.wd.2.1 w h hw)
theorem mLk {α : Type} {l : List (Nat × α)} {i : Nat} {x : α} (h : l.lookup i = some x) : (i, x) ∈ l := by
  induction l with
  | nil => simp at h
  | cons a t ih =>
    obtain ⟨j, y⟩ := a
    by_cases hj : i = j
    · subst hj
      simp at h
      subst h
      exact List.mem_cons_self
    · have hb : (i == j) = false := by simp [hj]
      rw [List.lookup_cons, hb] at h
      exact List.mem_cons_of_mem _ (ih h)
theorem T_ldc {i : Nat} {v : Int32} (hd : decode I.2.1 pc = .ok (.ldc i, 2)) (ho : mOwn.getD I.2.2.2.2.1 "" = I.1.cls) (hf : (mCo I.2.2.2.2.1).lookup i = some v) (k : mT G I d mc ms (pc + 2) lo (.int v :: st) μ ex nc ns Q) : mT G I d mc ms pc lo st μ ex nc ns Q := by
  intro p e s m args below meth c H locs ls F hP hS hX hl hn hc
  exact lv_ldc F.1 F.2.1 (F.own ho) (F.ts _ (mCo_ok _ _ (mLk hf))) hd (k p e s m args below meth c H locs ls F hP hS hX hl hn hc)
theorem T_get {a i ci k0 : Nat} {nest : Bool} {fs : List Value} {v : Value} (hd : decode I.2.1 pc = .ok (.getfield i, 3)) (ho : mOwn.getD I.2.2.2.2.1 "" = I.1.cls) (hf : (mFl I.2.2.2.2.1).lookup i = some (ci, k0, nest)) (ha : μ[a]? = some (.inr (ci, fs))) (hv : fs[k0]? = some v) (k : mT G I d mc ms (pc + 3) lo (v :: st) μ ex nc ns Q) : mT G I d mc ms pc lo (.ref (a + 3) :: st) μ ex nc ns Q := by
  intro p e s m args below meth c H locs ls F hP hS hX hl hn hc
  obtain ⟨r, hr, hk, hw⟩ := mFl_ok _ _ (mLk hf)
  obtain ⟨hin, -⟩ := mCl_ok _ _ hr
  have he : (mWs G μ)[a]? = some (mAd G (a + 3), .inr (ci, fs.map (mTr G))) := by rw [mAd_c]; exact mWs_at ha
  have hv' : (fs.map (mTr G))[k0]? = some (mTr G v) := by rw [List.getElem?_map, hv]; rfl
  cases nest with
  | false => exact va_get F.1 F.2.1 F.ts hin (F.own ho) F.wd.1 hP a he hr k0 hk (F.ts _ (mG_t rfl hw)) (fun _ h9 => h9) hv' hd (k p e s m args below meth c H locs ls F hP hS hX hl hn hc)
  | true => exact va_getN F.1 F.2.1 F.ts hin (F.own ho) F.wd.1 hP a he hr k0 hk (F.nest hw rfl rfl) (fun _ h9 => h9) hv' hd (k p e s m args below meth c H locs ls F hP hS hX hl hn hc)
theorem mSetP {a : Nat} {e : va_E} {H : Heap} (h : va_P (gD G) mCl ((mWs G μ).set a (mAd G (a + 3), mTrE G e)) H) : va_P (gD G) mCl (mWs G (μ.set a e)) H := by rw [mWs_set, ← mAd_c]; exact h
theorem mHS {A : Nat → Prop} {H0 H : Heap} {locs : List Loc} (hS : va_S A H0 H locs) : va_S A H H locs := ⟨Nat.le_refl _, fun _ _ _ => rfl, hS.2.2⟩
theorem mHS2 {A : Nat → Prop} {H0 H H1 : Heap} {locs locs1 : List Loc} (hS : va_S A H0 H locs) (h : va_S A H H1 locs1) : va_S A H0 H1 locs1 := ⟨Nat.le_trans hS.1 h.1, fun q h1 h2 => (h.2.1 q (Nat.lt_of_lt_of_le h1 hS.1) h2).trans (hS.2.1 q h1 h2), h.2.2⟩
theorem mWsz {p : Program} {l : Launch} {e : Env} {R : Room} {s : State} {m : MethodId} {args : Array Value} {below : List Frame} {meth : Method} {c : Code} {H : Heap} {locs : List Loc} {cells slots : Nat} {Qs : State → Prop} {g : JFrame} (k : H.size ≤ s.heap.size + cells → W p l e R s m args below meth c H locs cells slots Qs g) : W p l e R s m args below meth c H locs cells slots Qs g := fun T hT X => k (hT ▸ X.heapSize) T hT X
theorem mSz {s : State} {H H1 : Heap} {locs1 : List Loc} {n1 : Nat} (hX : ex = true → H.size = gB G + μ.length ∧ H.size = s.heap.size + nc) (h1 : va_S (mA G) H H1 locs1) (hz : H1.size ≤ s.heap.size + nc) (hn1 : n1 = μ.length) : ex = true → H1.size = gB G + n1 ∧ H1.size = s.heap.size + nc := fun h => by
  have a := hX h
  have b := h1.1
  subst hn1
  omega
/-- a field of a number -/
theorem T_put {a i ci k0 : Nat} {nest : Bool} {fs : List Value} {x : Int32} {r : vw_C} (hd : decode I.2.1 pc = .ok (.putfield i, 3)) (ho : mOwn.getD I.2.2.2.2.1 "" = I.1.cls) (hf : (mFl I.2.2.2.2.1).lookup i = some (ci, k0, nest)) (hr : mCl[ci]? = some r) (hfi : (r.2.1 k0).2.2.2 = false) (hty : (r.2.1 k0).2.2.1 = "I") (ha : μ[a]? = some (.inr (ci, fs))) (hv : k0 < fs.length) (k : mT G I d mc ms (pc + 3) lo st (μ.set a (.inr (ci, fs.set k0 (.int x)))) ex nc ns Q) : mT G I d mc ms pc lo (.int x :: .ref (a + 3) :: st) μ ex nc ns Q := by
  intro p e s m args below meth c H locs ls F hP hS hX hl hn hc
  obtain ⟨r2, hr2, hk, hw⟩ := mFl_ok _ _ (mLk hf)
  cases hr.symm.trans hr2
  obtain ⟨hin, ty0, hty0, hnm⟩ := mCl_ok _ _ hr
  have he : (mWs G μ)[a]? = some (mAd G (a + 3), .inr (ci, fs.map (mTr G))) := by rw [mAd_c]; exact mWs_at ha
  have hl2 : k0 < (fs.map (mTr G)).length := by rw [List.length_map]; exact hv
  have hd9 : parseFieldDescriptor (r.2.1 k0).2.2.1 = some (ty0 k0) := hty0 k0 hk
  have key : ∀ (H1 : Heap) (locs1 : List Loc), va_P (gD G) mCl ((mWs G μ).set a (mAd G (a + 3), .inr (ci, (fs.map (mTr G)).set k0 (.int x)))) H1 → va_D (mA G) ((mWs G μ).set a (mAd G (a + 3), .inr (ci, (fs.map (mTr G)).set k0 (.int x)))) → va_S (mA G) H H1 locs1 → W p (gL G) e (mRoom d mc ms) s m args below meth c H1 locs1 nc ns (MQ below (mQc G Q) args s mc ms (mA G)) (F0 m (pc + 3) ls (st.map (mTr G))) := fun H1 locs1 hP1 _ hS1 => mWsz fun hz => k p e s m args below meth c H1 locs1 ls F (mSetP (by rw [show mTrE G (.inr (ci, fs.set k0 (.int x))) = .inr (ci, (fs.map (mTr G)).set k0 (.int x)) by simp [mTrE, List.map_set, mTr]]; exact hP1)) (mHS2 hS hS1) (mSz hX hS1 hz (List.length_set ..)) hl hn hc
  cases nest with
  | false => exact va_put F.1 F.2.1 F.ts hin ty0 hty0 hnm (F.own ho) F.wd.1 hP (mWs_D G μ) (mHS hS) a he hr k0 hk (F.ts _ (mG_t rfl hw)) (fun _ h9 => h9) hfi (ty := .int) (by rw [hty]; decide +kernel) rfl rfl hl2 hd key
  | true => exact va_putN F.1 F.2.1 F.ts hin ty0 hty0 hnm (F.own ho) F.wd.1 hP (mWs_D G μ) (mHS hS) a he hr k0 hk (F.nest hw rfl rfl) (fun _ h9 => h9) hfi (ty := .int) (by rw [hty]; decide +kernel) rfl rfl hl2 hd key
/-- a final field of a reference, in its constructor -/
theorem T_putF {a i ci k0 q : Nat} {fs : List Value} {r : vw_C} {ty : FieldType} (hd : decode I.2.1 pc = .ok (.putfield i, 3)) (ho : mOwn.getD I.2.2.2.2.1 "" = I.1.cls) (hf : (mFl I.2.2.2.2.1).lookup i = some (ci, k0, false)) (hr : mCl[ci]? = some r) (hfi : (r.2.1 k0).2.2.2 = true) (hnm0 : I.1.name = "<init>") (hdc : (r.2.1 k0).1 = I.1.cls) (hty : parseFieldDescriptor (r.2.1 k0).2.2.1 = some ty) (hrt : (∃ n, ty = .object n) ∨ ∃ t, ty = .array t) (ha : μ[a]? = some (.inr (ci, fs))) (hv : k0 < fs.length) (k : mT G I d mc ms (pc + 3) lo st (μ.set a (.inr (ci, fs.set k0 (.ref q)))) ex nc ns Q) : mT G I d mc ms pc lo (.ref q :: .ref (a + 3) :: st) μ ex nc ns Q := by
  intro p e s m args below meth c H locs ls F hP hS hX hl hn hc
  obtain ⟨r2, hr2, hk, hw⟩ := mFl_ok _ _ (mLk hf)
  cases hr.symm.trans hr2
  obtain ⟨hin, ty0, hty0, hnm⟩ := mCl_ok _ _ hr
  have he : (mWs G μ)[a]? = some (mAd G (a + 3), .inr (ci, fs.map (mTr G))) := by rw [mAd_c]; exact mWs_at ha
  have hl2 : k0 < (fs.map (mTr G)).length := by rw [List.length_map]; exact hv
  have hd9 : parseFieldDescriptor (r.2.1 k0).2.2.1 = some (ty0 k0) := hty0 k0 hk
  have key : ∀ (H1 : Heap) (locs1 : List Loc), va_P (gD G) mCl ((mWs G μ).set a (mAd G (a + 3), .inr (ci, (fs.map (mTr G)).set k0 (.ref (mAd G q))))) H1 → va_D (mA G) ((mWs G μ).set a (mAd G (a + 3), .inr (ci, (fs.map (mTr G)).set k0 (.ref (mAd G q))))) → va_S (mA G) H H1 locs1 → W p (gL G) e (mRoom d mc ms) s m args below meth c H1 locs1 nc ns (MQ below (mQc G Q) args s mc ms (mA G)) (F0 m (pc + 3) ls (st.map (mTr G))) := fun H1 locs1 hP1 _ hS1 => mWsz fun hz => k p e s m args below meth c H1 locs1 ls F (mSetP (by rw [show mTrE G (.inr (ci, fs.set k0 (.ref q))) = .inr (ci, (fs.map (mTr G)).set k0 (.ref (mAd G q))) by simp [mTrE, List.map_set, mTr]]; exact hP1)) (mHS2 hS hS1) (mSz hX hS1 hz (List.length_set ..)) hl hn hc
  have hn9 : narrow ty (.ref (mAd G q)) = .ref (mAd G q) := by rcases hrt with ⟨n, rfl⟩ | ⟨t, rfl⟩ <;> rfl
  have hf9 : fits ty (.ref (mAd G q)) = true := by rcases hrt with ⟨n, rfl⟩ | ⟨t, rfl⟩ <;> rfl
  exact va_putF F.1 F.2.1 F.ts hin ty0 hty0 hnm (F.own ho) F.wd.1 hP (mWs_D G μ) (mHS hS) a he hr k0 hk (F.ts _ (mG_t rfl hw)) (fun _ h9 => h9) hfi (F.2.2.2.2.2.2.1.trans hnm0) (hdc.trans ho.symm) hty hn9 hf9 hl2 hd key
theorem T_getstatic {i q : Nat} {nest : Bool} (hd : decode I.2.1 pc = .ok (.getstatic i, 3)) (ho : mOwn.getD I.2.2.2.2.1 "" = I.1.cls) (hf : (mGs I.2.2.2.2.1).lookup i = some (q, nest)) (k : mT G I d mc ms (pc + 3) lo (.ref q :: st) μ ex nc ns Q) : mT G I d mc ms pc lo st μ ex nc ns Q := by
  intro p e s m args below meth c H locs ls F hP hS hX hl hn hc
  obtain ⟨hq, hw⟩ := mGs_ok _ _ (mLk hf)
  have hq : q < 2 := hq
  have hZ : va_Z RX4 (mGsN q) "[I" (.ref (gX G q)) (mA G) s s.heap := by
    rcases (show q = 0 ∨ q = 1 by omega) with h | h
    · subst h; exact F.wd.2.2.2.2.1.1
    · subst h; exact F.wd.2.2.2.2.2.1.1
  have hk := k p e s m args below meth c H locs ls F hP hS hX hl hn hc
  have hq3 : mAd G q = gX G q := by unfold mAd; rw [if_pos (by omega)]
  have hk2 : W p (gL G) e (mRoom d mc ms) s m args below meth c H locs nc ns (MQ below (mQc G Q) args s mc ms (mA G)) (F0 m (pc + 3) ls (.ref (gX G q) :: st.map (mTr G))) := by rw [← hq3]; exact hk
  cases nest with
  | false => exact va_gets F.1 F.2.1 hZ hS (F.own ho) (F.ts _ (mG_t rfl hw)) (fun _ h9 => h9) hd hk2
  | true => exact va_getsN F.1 F.2.1 hZ hS (F.own ho) (F.nest hw rfl rfl) (fun _ h9 => h9) hd hk2
theorem T_iaload {a n : Nat} {f : Nat → Int32} {i : Int32} (hd : decode I.2.1 pc = .ok (.iaload, 1)) (ha : μ[a]? = some (.inl (0, n, .inl f))) (hi : vp_in i n) (k : mT G I d mc ms (pc + 1) lo (.int (f i.toNatClampNeg) :: st) μ ex nc ns Q) : mT G I d mc ms pc lo (.int i :: .ref (a + 3) :: st) μ ex nc ns Q := by
  intro p e s m args below meth c H locs ls F hP hS hX hl hn hc
  have he : (mWs G μ)[a]? = some (mAd G (a + 3), .inl (gC G 0, n, .inl f)) := by rw [mAd_c]; exact mWs_at ha
  exact va_iald F.1 F.2.1 F.wd.1 hP a 0 he rfl hi hd (k p e s m args below meth c H locs ls F hP hS hX hl hn hc)
theorem T_baload {a n : Nat} {f : Nat → Int32} {i : Int32} (hd : decode I.2.1 pc = .ok (.baload, 1)) (ha : μ[a]? = some (.inl (1, n, .inl f))) (hi : vp_in i n) (k : mT G I d mc ms (pc + 1) lo (.int (f i.toNatClampNeg) :: st) μ ex nc ns Q) : mT G I d mc ms pc lo (.int i :: .ref (a + 3) :: st) μ ex nc ns Q := by
  intro p e s m args below meth c H locs ls F hP hS hX hl hn hc
  have he : (mWs G μ)[a]? = some (mAd G (a + 3), .inl (gC G 1, n, .inl f)) := by rw [mAd_c]; exact mWs_at ha
  exact va_bald F.1 F.2.1 F.wd.1 hP a 1 he rfl hi hd (k p e s m args below meth c H locs ls F hP hS hX hl hn hc)
theorem T_zaload {a n : Nat} {f : Nat → Int32} {i : Int32} (hd : decode I.2.1 pc = .ok (.baload, 1)) (ha : μ[a]? = some (.inl (2, n, .inl f))) (hi : vp_in i n) (k : mT G I d mc ms (pc + 1) lo (.int (f i.toNatClampNeg) :: st) μ ex nc ns Q) : mT G I d mc ms pc lo (.int i :: .ref (a + 3) :: st) μ ex nc ns Q := by
  intro p e s m args below meth c H locs ls F hP hS hX hl hn hc
  have he : (mWs G μ)[a]? = some (mAd G (a + 3), .inl (gC G 2, n, .inl f)) := by rw [mAd_c]; exact mWs_at ha
  exact va_zald F.1 F.2.1 F.wd.1 hP a 2 he rfl hi hd (k p e s m args below meth c H locs ls F hP hS hX hl hn hc)
theorem T_laload {a n : Nat} {f : Nat → Int64} {i : Int32} (hd : decode I.2.1 pc = .ok (.laload, 1)) (ha : μ[a]? = some (.inl (3, n, .inr (.inl f)))) (hi : vp_in i n) (k : mT G I d mc ms (pc + 1) lo (.long (f i.toNatClampNeg) :: st) μ ex nc ns Q) : mT G I d mc ms pc lo (.int i :: .ref (a + 3) :: st) μ ex nc ns Q := by
  intro p e s m args below meth c H locs ls F hP hS hX hl hn hc
  have he : (mWs G μ)[a]? = some (mAd G (a + 3), .inl (gC G 3, n, .inr (.inl f))) := by rw [mAd_c]; exact mWs_at ha
  exact va_lald F.1 F.2.1 F.wd.1 hP a 3 he rfl hi hd (k p e s m args below meth c H locs ls F hP hS hX hl hn hc)
theorem T_aaload {a n q : Nat} {f : Nat → Option Nat} {i : Int32} (hd : decode I.2.1 pc = .ok (.aaload, 1)) (ha : μ[a]? = some (.inl (4, n, .inr (.inr (.inr (.inr f)))))) (hi : vp_in i n) (hq : f i.toNatClampNeg = some q) (k : mT G I d mc ms (pc + 1) lo (.ref q :: st) μ ex nc ns Q) : mT G I d mc ms pc lo (.int i :: .ref (a + 3) :: st) μ ex nc ns Q := by
  intro p e s m args below meth c H locs ls F hP hS hX hl hn hc
  have he : (mWs G μ)[a]? = some (mAd G (a + 3), .inl (gC G 4, n, .inr (.inr (.inr (.inr (fun j => (f j).map (mAd G))))))) := by rw [mAd_c]; exact mWs_at ha
  refine va_aldq F.1 F.2.1 F.wd.1 hP a 4 he rfl hi hd ?_
  rw [show va_rf ((f i.toNatClampNeg).map (mAd G)) = mTr G (.ref q) by rw [hq]; rfl]
  exact (k p e s m args below meth c H locs ls F hP hS hX hl hn hc)
theorem T_iastore {a n : Nat} {f : Nat → Int32} {i : Int32} {x : Int32} (hd : decode I.2.1 pc = .ok (.iastore, 1)) (ha : μ[a]? = some (.inl (0, n, .inl f))) (hi : vp_in i n) (k : mT G I d mc ms (pc + 1) lo st (μ.set a (.inl (0, n, .inl (upd f i.toNatClampNeg x)))) ex nc ns Q) : mT G I d mc ms pc lo (.int x :: .int i :: .ref (a + 3) :: st) μ ex nc ns Q := by
  intro p e s m args below meth c H locs ls F hP hS hX hl hn hc
  have he : (mWs G μ)[a]? = some (mAd G (a + 3), .inl (gC G 0, n, .inl f)) := by rw [mAd_c]; exact mWs_at ha
  exact va_iast F.1 F.2.1 F.wd.1 hP (mWs_D G μ) (mHS hS) a 0 he rfl hi hd (fun H1 locs1 hP1 _ hS1 => mWsz fun hz => k p e s m args below meth c H1 locs1 ls F (mSetP hP1) (mHS2 hS hS1) (mSz hX hS1 hz (List.length_set ..)) hl hn hc)
theorem T_bastore {a n : Nat} {f : Nat → Int32} {i : Int32} {x : Int32} (hd : decode I.2.1 pc = .ok (.bastore, 1)) (ha : μ[a]? = some (.inl (1, n, .inl f))) (hi : vp_in i n) (k : mT G I d mc ms (pc + 1) lo st (μ.set a (.inl (1, n, .inl (upd f i.toNatClampNeg (vp_nar .byte x))))) ex nc ns Q) : mT G I d mc ms pc lo (.int x :: .int i :: .ref (a + 3) :: st) μ ex nc ns Q := by
  intro p e s m args below meth c H locs ls F hP hS hX hl hn hc
  have he : (mWs G μ)[a]? = some (mAd G (a + 3), .inl (gC G 1, n, .inl f)) := by rw [mAd_c]; exact mWs_at ha
  exact va_bast F.1 F.2.1 F.wd.1 hP (mWs_D G μ) (mHS hS) a 1 he rfl hi hd (fun H1 locs1 hP1 _ hS1 => mWsz fun hz => k p e s m args below meth c H1 locs1 ls F (mSetP hP1) (mHS2 hS hS1) (mSz hX hS1 hz (List.length_set ..)) hl hn hc)
theorem T_zastore {a n : Nat} {f : Nat → Int32} {i : Int32} {x : Int32} (hd : decode I.2.1 pc = .ok (.bastore, 1)) (ha : μ[a]? = some (.inl (2, n, .inl f))) (hi : vp_in i n) (k : mT G I d mc ms (pc + 1) lo st (μ.set a (.inl (2, n, .inl (upd f i.toNatClampNeg (vp_nar .boolean x))))) ex nc ns Q) : mT G I d mc ms pc lo (.int x :: .int i :: .ref (a + 3) :: st) μ ex nc ns Q := by
  intro p e s m args below meth c H locs ls F hP hS hX hl hn hc
  have he : (mWs G μ)[a]? = some (mAd G (a + 3), .inl (gC G 2, n, .inl f)) := by rw [mAd_c]; exact mWs_at ha
  exact va_zast F.1 F.2.1 F.wd.1 hP (mWs_D G μ) (mHS hS) a 2 he rfl hi hd (fun H1 locs1 hP1 _ hS1 => mWsz fun hz => k p e s m args below meth c H1 locs1 ls F (mSetP hP1) (mHS2 hS hS1) (mSz hX hS1 hz (List.length_set ..)) hl hn hc)
theorem T_lastore {a n : Nat} {f : Nat → Int64} {i : Int32} {x : Int64} (hd : decode I.2.1 pc = .ok (.lastore, 1)) (ha : μ[a]? = some (.inl (3, n, .inr (.inl f)))) (hi : vp_in i n) (k : mT G I d mc ms (pc + 1) lo st (μ.set a (.inl (3, n, .inr (.inl (vp_updL f i.toNatClampNeg x))))) ex nc ns Q) : mT G I d mc ms pc lo (.long x :: .int i :: .ref (a + 3) :: st) μ ex nc ns Q := by
  intro p e s m args below meth c H locs ls F hP hS hX hl hn hc
  have he : (mWs G μ)[a]? = some (mAd G (a + 3), .inl (gC G 3, n, .inr (.inl f))) := by rw [mAd_c]; exact mWs_at ha
  exact va_last F.1 F.2.1 F.wd.1 hP (mWs_D G μ) (mHS hS) a 3 he rfl hi hd (fun H1 locs1 hP1 _ hS1 => mWsz fun hz => k p e s m args below meth c H1 locs1 ls F (mSetP hP1) (mHS2 hS hS1) (mSz hX hS1 hz (List.length_set ..)) hl hn hc)
theorem T_aastore {a b n : Nat} {vs : List Value} {f : Nat → Option Nat} {i : Int32} (hd : decode I.2.1 pc = .ok (.aastore, 1)) (ha : μ[a]? = some (.inl (4, n, .inr (.inr (.inr (.inr f)))))) (hb : μ[b]? = some (.inr (3, vs))) (hi : vp_in i n) (k : mT G I d mc ms (pc + 1) lo st (μ.set a (.inl (4, n, .inr (.inr (.inr (.inr (va_up f i.toNatClampNeg (some (b + 3))))))))) ex nc ns Q) : mT G I d mc ms pc lo (.ref (b + 3) :: .int i :: .ref (a + 3) :: st) μ ex nc ns Q := by
  intro p e s m args below meth c H locs ls F hP hS hX hl hn hc
  have he : (mWs G μ)[a]? = some (mAd G (a + 3), .inl (gC G 4, n, .inr (.inr (.inr (.inr (fun j => (f j).map (mAd G))))))) := by rw [mAd_c]; exact mWs_at ha
  have he2 : (mWs G μ)[b]? = some (mAd G (b + 3), .inr (3, vs.map (mTr G))) := by rw [mAd_c]; exact mWs_at hb
  refine va_astq F.1 F.2.1 F.wd.1 hP (mWs_D G μ) (mHS hS) a 4 b 3 (r := (RX3, TX3, 9)) he rfl he2 rfl hi hd (fun H1 locs1 hP1 _ hS1 => mWsz fun hz => k p e s m args below meth c H1 locs1 ls F (mSetP ?_) (mHS2 hS hS1) (mSz hX hS1 hz (List.length_set ..)) hl hn hc)
  have e9 : (fun j => (va_up f i.toNatClampNeg (some (b + 3)) j).map (mAd G)) = va_up (fun j => (f j).map (mAd G)) i.toNatClampNeg (some (mAd G (b + 3))) := by
    funext j
    simp only [va_up]
    split <;> rfl
  rw [show mTrE G (.inl (4, n, .inr (.inr (.inr (.inr (va_up f i.toNatClampNeg (some (b + 3)))))))) = .inl (gC G 4, n, .inr (.inr (.inr (.inr (fun j => (va_up f i.toNatClampNeg (some (b + 3)) j).map (mAd G)))))) from rfl, e9]
  exact hP1
/-- what the three rows from outside hold -/
def mXr (G : mG) (a : Nat) : Nat × (Nat → Int32) := if a = 0 then (8, fun j => mLeast.getD j 0) else if a = 1 then (8, fun j => mMost.getD j 0) else (gN G, gS G)
theorem T_ialoadX {a : Nat} {i : Int32} (hd : decode I.2.1 pc = .ok (.iaload, 1)) (ha : a < 3) (hi : vp_in i (mXr G a).1) (k : mT G I d mc ms (pc + 1) lo (.int ((mXr G a).2 i.toNatClampNeg) :: st) μ ex nc ns Q) : mT G I d mc ms pc lo (.int i :: .ref a :: st) μ ex nc ns Q := by
  intro p e s m args below meth c H locs ls F hP hS hX hl hn hc
  have hk := (k p e s m args below meth c H locs ls F hP hS hX hl hn hc)
  have hq3 : mAd G a = gX G a := by unfold mAd; rw [if_pos ha]
  show W p (gL G) e (mRoom d mc ms) s m args below meth c H locs nc ns (MQ below (mQc G Q) args s mc ms (mA G)) (F0 m pc ls (.int i :: .ref (mAd G a) :: st.map (mTr G)))
  rw [hq3]
  rcases (show a = 0 ∨ a = 1 ∨ a = 2 by omega) with h | h | h
  · subst h; exact va_ti F.1 F.2.1 F.wd.2.2.2.2.1.2 hS hi rfl hd hk
  · subst h; exact va_ti F.1 F.2.1 F.wd.2.2.2.2.2.1.2 hS hi rfl hd hk
  · subst h
    have hx := F.wd.2.2.2.2.2.2
    exact va_sld F.1 F.2.1 hx.1 (Nat.lt_of_lt_of_le hx.2.1 F.wd.2.2.1) (Nat.not_le.mpr hx.2.1) hS hi hd hk
theorem T_alenX (hd : decode I.2.1 pc = .ok (.arraylength, 1)) (k : mT G I d mc ms (pc + 1) lo (.int (Int32.ofNat (gN G)) :: st) μ ex nc ns Q) : mT G I d mc ms pc lo (.ref 2 :: st) μ ex nc ns Q := by
  intro p e s m args below meth c H locs ls F hP hS hX hl hn hc
  have hx := F.wd.2.2.2.2.2.2
  exact va_slen F.1 F.2.1 hx.1 (Nat.lt_of_lt_of_le hx.2.1 F.wd.2.2.1) (Nat.not_le.mpr hx.2.1) hS hd (k p e s m args below meth c H locs ls F hP hS hX hl hn hc)
theorem mQc_of {args : Array Value} {s t : State} {H : Heap} {locs : List Loc} {r : Option Value} (hq : Q r μ ex) (hP : va_P (gD G) mCl (mWs G μ) H) (hS : va_S (mA G) s.heap H locs) (hX : ex = true → H.size = gB G + μ.length ∧ H.size = s.heap.size + nc) (ht : t.heap = H) : mQc G Q args s (.returned (r.map (mTr G))) t := ⟨⟨r, μ, ex, hq, rfl, by rw [ht]; exact hP, fun h => by rw [ht]; exact (hX h).1⟩, hS.F ht⟩
theorem T_iret {v : Int32} (hd : decode I.2.1 pc = .ok (.ireturn, 1)) (hr : I.2.2.2.1 = some .int) (hc1 : nc ≤ mc) (hs1 : ns ≤ ms) (hq : Q (some (.int v)) μ ex) : mT G I d mc ms pc lo [.int v] μ ex nc ns Q := by
  intro p e s m args below meth c H locs ls F hP hS hX hl hn hc
  refine W.widen hc1 hs1 ?_
  exact W.iret (v := v) F.1 F.2.1 (F.2.2.1.trans hr) (fun t ht _ => mQc_of (r := some (.int v)) hq hP hS hX ht) hS.2.2 hd F.2.2.2.1
theorem T_zret {v : Int32} (hd : decode I.2.1 pc = .ok (.ireturn, 1)) (hr : I.2.2.2.1 = some .boolean) (hv : v = 0 ∨ v = 1) (hc1 : nc ≤ mc) (hs1 : ns ≤ ms) (hq : Q (some (.int v)) μ ex) : mT G I d mc ms pc lo [.int v] μ ex nc ns Q := by
  intro p e s m args below meth c H locs ls F hP hS hX hl hn hc
  refine W.widen hc1 hs1 ?_
  exact W.zret (v := v) (ty := .boolean) F.1 F.2.1 (F.2.2.1.trans hr) (by rcases hv with rfl | rfl <;> rfl) (fun t ht _ => mQc_of (r := some (.int v)) hq hP hS hX ht) hS.2.2 hd F.2.2.2.1
theorem T_vret (hd : decode I.2.1 pc = .ok (.return_, 1)) (hr : I.2.2.2.1 = none) (hc1 : nc ≤ mc) (hs1 : ns ≤ ms) (hq : Q none μ ex) : mT G I d mc ms pc lo [] μ ex nc ns Q := by
  intro p e s m args below meth c H locs ls F hP hS hX hl hn hc
  refine W.widen hc1 hs1 ?_
  exact W.vret F.1 F.2.1 (F.2.2.1.trans hr) (fun t ht _ => mQc_of (r := none) hq hP hS hX ht) hS.2.2 hd F.2.2.2.1
end RU
