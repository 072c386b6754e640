section VR
variable {l : Launch} {G : zGT} {own : String} {cc : ByteArray} {nL : Nat} {rt : Option FieldType} {ini : Bool} {d kc ks : Nat} {Post : Option Value → hpT → Nat → Prop} {lv : List (Option Value)} {st : List Value} {h : hpT} {sz : Nat}
theorem zW.at {w : Cond} (i : Nat) (h : lw_tbl[i]? = some w) (h2 : (goodWord w || zNestB w) = true) : zW w := ⟨List.mem_of_getElem? h, h2⟩
theorem V_iconst (pc : Nat) {n : Int} (hd : decode cc pc = .ok (.iconst n, 1))  (k : V l G own cc nL rt ini d kc ks Post (pc + 1) lv (.int (Int32.ofInt n) :: st) h sz) : V l G own cc nL rt ini d kc ks Post pc lv st h sz := by
  intro p e R s m args below meth c A B H locs cells slots ls hH hl h1 h2
  exact lv_iconst B.1 B.2.1 hd rfl (k p e R s m args below meth c A B H locs cells slots ls hH hl h1 h2)
theorem V_bipush (pc : Nat) {n : Int} (hd : decode cc pc = .ok (.bipush n, 2))  (k : V l G own cc nL rt ini d kc ks Post (pc + 2) lv (.int (Int8.ofInt n).toInt32 :: st) h sz) : V l G own cc nL rt ini d kc ks Post pc lv st h sz := by
  intro p e R s m args below meth c A B H locs cells slots ls hH hl h1 h2
  exact lv_bipush B.1 B.2.1 hd rfl (k p e R s m args below meth c A B H locs cells slots ls hH hl h1 h2)
theorem V_sipush (pc : Nat) {n : Int} (hd : decode cc pc = .ok (.sipush n, 3))  (k : V l G own cc nL rt ini d kc ks Post (pc + 3) lv (.int (Int16.ofInt n).toInt32 :: st) h sz) : V l G own cc nL rt ini d kc ks Post pc lv st h sz := by
  intro p e R s m args below meth c A B H locs cells slots ls hH hl h1 h2
  exact lv_sipush B.1 B.2.1 hd rfl (k p e R s m args below meth c A B H locs cells slots ls hH hl h1 h2)
theorem V_iconstv (pc : Nat) {n : Int} (v : Int32) (hd : decode cc pc = .ok (.iconst n, 1)) (hv : Int32.ofInt n = v) (k : V l G own cc nL rt ini d kc ks Post (pc + 1) lv (.int v :: st) h sz) : V l G own cc nL rt ini d kc ks Post pc lv st h sz := by
  intro p e R s m args below meth c A B H locs cells slots ls hH hl h1 h2
  exact lv_iconst B.1 B.2.1 hd hv (k p e R s m args below meth c A B H locs cells slots ls hH hl h1 h2)
theorem V_bipushv (pc : Nat) {n : Int} (v : Int32) (hd : decode cc pc = .ok (.bipush n, 2)) (hv : (Int8.ofInt n).toInt32 = v) (k : V l G own cc nL rt ini d kc ks Post (pc + 2) lv (.int v :: st) h sz) : V l G own cc nL rt ini d kc ks Post pc lv st h sz := by
  intro p e R s m args below meth c A B H locs cells slots ls hH hl h1 h2
  exact lv_bipush B.1 B.2.1 hd hv (k p e R s m args below meth c A B H locs cells slots ls hH hl h1 h2)
theorem V_sipushv (pc : Nat) {n : Int} (v : Int32) (hd : decode cc pc = .ok (.sipush n, 3)) (hv : (Int16.ofInt n).toInt32 = v) (k : V l G own cc nL rt ini d kc ks Post (pc + 3) lv (.int v :: st) h sz) : V l G own cc nL rt ini d kc ks Post pc lv st h sz := by
  intro p e R s m args below meth c A B H locs cells slots ls hH hl h1 h2
  exact lv_sipush B.1 B.2.1 hd hv (k p e R s m args below meth c A B H locs cells slots ls hH hl h1 h2)
theorem V_lconstv (pc : Nat) {n : Fin 2} (v : Int64) (hd : decode cc pc = .ok (.lconst n, 1)) (hv : Int64.ofNat (n : Nat) = v) (k : V l G own cc nL rt ini d kc ks Post (pc + 1) lv (.long v :: st) h sz) : V l G own cc nL rt ini d kc ks Post pc lv st h sz := by
  intro p e R s m args below meth c A B H locs cells slots ls hH hl h1 h2
  exact lv_lconst B.1 B.2.1 hd hv (k p e R s m args below meth c A B H locs cells slots ls hH hl h1 h2)
theorem V_null (pc : Nat)  (hd : decode cc pc = .ok (.aconst_null, 1))  (k : V l G own cc nL rt ini d kc ks Post (pc + 1) lv (.null :: st) h sz) : V l G own cc nL rt ini d kc ks Post pc lv st h sz := by
  intro p e R s m args below meth c A B H locs cells slots ls hH hl h1 h2
  exact lv_null B.1 B.2.1 hd  (k p e R s m args below meth c A B H locs cells slots ls hH hl h1 h2)
theorem V_ldc (pc : Nat) {idx : Nat} {v : Int32} (hd : decode cc pc = .ok (.ldc idx, 2)) (hw : zW (.constant own idx v)) (k : V l G own cc nL rt ini d kc ks Post (pc + 2) lv (.int v :: st) h sz) : V l G own cc nL rt ini d kc ks Post pc lv st h sz := by
  intro p e R s m args below meth c A B H locs cells slots ls hH hl h1 h2
  exact lv_ldc B.1 B.2.1 B.2.2.2.1 (B.2.2.2.2.1 _ hw) hd (k p e R s m args below meth c A B H locs cells slots ls hH hl h1 h2)
theorem V_ldc2 (pc : Nat) {idx : Nat} {v : Int64} (hd : decode cc pc = .ok (.ldc2_w idx, 3)) (hw : zW (.constantLong own idx v)) (k : V l G own cc nL rt ini d kc ks Post (pc + 3) lv (.long v :: st) h sz) : V l G own cc nL rt ini d kc ks Post pc lv st h sz := by
  intro p e R s m args below meth c A B H locs cells slots ls hH hl h1 h2
  exact lv_ldc2 B.1 B.2.1 B.2.2.2.1 (B.2.2.2.2.1 _ hw) hd (k p e R s m args below meth c A B H locs cells slots ls hH hl h1 h2)
theorem V_iload_n (pc : Nat) {i : Fin 4} {x : Int32} (hd : decode cc pc = .ok (.iload_n i, 1)) (hg : zget lv (i : Nat) = some (.int x)) (k : V l G own cc nL rt ini d kc ks Post (pc + 1) lv (.int x :: st) h sz) : V l G own cc nL rt ini d kc ks Post pc lv st h sz := by
  intro p e R s m args below meth c A B H locs cells slots ls hH hl h1 h2
  exact lv_iload_n B.1 B.2.1 hd rfl (hl.2.2 _ _ hg) (k p e R s m args below meth c A B H locs cells slots ls hH hl h1 h2)
theorem V_iload (pc : Nat) {i : Nat} {x : Int32} (hd : decode cc pc = .ok (.iload i, 2)) (hg : zget lv i = some (.int x)) (k : V l G own cc nL rt ini d kc ks Post (pc + 2) lv (.int x :: st) h sz) : V l G own cc nL rt ini d kc ks Post pc lv st h sz := by
  intro p e R s m args below meth c A B H locs cells slots ls hH hl h1 h2
  exact lv_iload B.1 B.2.1 hd (hl.2.2 _ _ hg) (k p e R s m args below meth c A B H locs cells slots ls hH hl h1 h2)
theorem V_lload_n (pc : Nat) {i : Fin 4} {x : Int64} (hd : decode cc pc = .ok (.lload_n i, 1)) (hg : zget lv (i : Nat) = some (.long x)) (k : V l G own cc nL rt ini d kc ks Post (pc + 1) lv (.long x :: st) h sz) : V l G own cc nL rt ini d kc ks Post pc lv st h sz := by
  intro p e R s m args below meth c A B H locs cells slots ls hH hl h1 h2
  exact lv_lload_n B.1 B.2.1 hd rfl (hl.2.2 _ _ hg) (k p e R s m args below meth c A B H locs cells slots ls hH hl h1 h2)
theorem V_lload (pc : Nat) {i : Nat} {x : Int64} (hd : decode cc pc = .ok (.lload i, 2)) (hg : zget lv i = some (.long x)) (k : V l G own cc nL rt ini d kc ks Post (pc + 2) lv (.long x :: st) h sz) : V l G own cc nL rt ini d kc ks Post pc lv st h sz := by
  intro p e R s m args below meth c A B H locs cells slots ls hH hl h1 h2
  exact lv_lload B.1 B.2.1 hd (hl.2.2 _ _ hg) (k p e R s m args below meth c A B H locs cells slots ls hH hl h1 h2)
theorem V_aload_n (pc : Nat) {i : Fin 4} {x : Nat} (hd : decode cc pc = .ok (.aload_n i, 1)) (hg : zget lv (i : Nat) = some (.ref x)) (k : V l G own cc nL rt ini d kc ks Post (pc + 1) lv (.ref x :: st) h sz) : V l G own cc nL rt ini d kc ks Post pc lv st h sz := by
  intro p e R s m args below meth c A B H locs cells slots ls hH hl h1 h2
  exact lv_aload_n B.1 B.2.1 hd rfl (hl.2.2 _ _ hg) (k p e R s m args below meth c A B H locs cells slots ls hH hl h1 h2)
theorem V_aload (pc : Nat) {i : Nat} {x : Nat} (hd : decode cc pc = .ok (.aload i, 2)) (hg : zget lv i = some (.ref x)) (k : V l G own cc nL rt ini d kc ks Post (pc + 2) lv (.ref x :: st) h sz) : V l G own cc nL rt ini d kc ks Post pc lv st h sz := by
  intro p e R s m args below meth c A B H locs cells slots ls hH hl h1 h2
  exact lv_aload B.1 B.2.1 hd (hl.2.2 _ _ hg) (k p e R s m args below meth c A B H locs cells slots ls hH hl h1 h2)
theorem V_aload_nN (pc : Nat) {i : Fin 4} (hd : decode cc pc = .ok (.aload_n i, 1)) (hg : zget lv (i : Nat) = some .null) (k : V l G own cc nL rt ini d kc ks Post (pc + 1) lv (.null :: st) h sz) : V l G own cc nL rt ini d kc ks Post pc lv st h sz := by
  intro p e R s m args below meth c A B H locs cells slots ls hH hl h1 h2
  exact lv_aload_nN B.1 B.2.1 hd rfl (hl.2.2 _ _ hg) (k p e R s m args below meth c A B H locs cells slots ls hH hl h1 h2)
theorem V_aloadN (pc : Nat) {i : Nat} (hd : decode cc pc = .ok (.aload i, 2)) (hg : zget lv i = some .null) (k : V l G own cc nL rt ini d kc ks Post (pc + 2) lv (.null :: st) h sz) : V l G own cc nL rt ini d kc ks Post pc lv st h sz := by
  intro p e R s m args below meth c A B H locs cells slots ls hH hl h1 h2
  exact lv_aloadN B.1 B.2.1 hd (hl.2.2 _ _ hg) (k p e R s m args below meth c A B H locs cells slots ls hH hl h1 h2)
theorem V_istore_n (pc : Nat) {i : Fin 4} {x : Int32} (hd : decode cc pc = .ok (.istore_n i, 1)) (hn : Nat.blt (i : Nat) nL = true) (hok : zok lv (i : Nat) = true) (k : V l G own cc nL rt ini d kc ks Post (pc + 1) (zset lv (i : Nat) (some (.int x))) st h sz) : V l G own cc nL rt ini d kc ks Post pc lv (.int x :: st) h sz := by
  intro p e R s m args below meth c A B H locs cells slots ls hH hl h1 h2
  exact lv_istore_n B.1 B.2.1 hd rfl hl.has (Nat.lt_of_lt_of_le (Nat.lt_succ_self _) (Nat.le_of_ble_eq_true hn)) rfl (fun ls hl => k p e R s m args below meth c A B H locs cells slots ls hH (zLv.st1 hok hl) h1 h2)
theorem V_istore (pc : Nat) {i : Nat} {x : Int32} (hd : decode cc pc = .ok (.istore i, 2)) (hn : Nat.blt i nL = true) (hok : zok lv i = true) (k : V l G own cc nL rt ini d kc ks Post (pc + 2) (zset lv i (some (.int x))) st h sz) : V l G own cc nL rt ini d kc ks Post pc lv (.int x :: st) h sz := by
  intro p e R s m args below meth c A B H locs cells slots ls hH hl h1 h2
  exact lv_istore B.1 B.2.1 hd hl.has (Nat.lt_of_lt_of_le (Nat.lt_succ_self _) (Nat.le_of_ble_eq_true hn)) rfl (fun ls hl => k p e R s m args below meth c A B H locs cells slots ls hH (zLv.st1 hok hl) h1 h2)
theorem V_astore_n (pc : Nat) {i : Fin 4} {x : Nat} (hd : decode cc pc = .ok (.astore_n i, 1)) (hn : Nat.blt (i : Nat) nL = true) (hok : zok lv (i : Nat) = true) (k : V l G own cc nL rt ini d kc ks Post (pc + 1) (zset lv (i : Nat) (some (.ref x))) st h sz) : V l G own cc nL rt ini d kc ks Post pc lv (.ref x :: st) h sz := by
  intro p e R s m args below meth c A B H locs cells slots ls hH hl h1 h2
  exact lv_astore_n B.1 B.2.1 hd rfl hl.has (Nat.lt_of_lt_of_le (Nat.lt_succ_self _) (Nat.le_of_ble_eq_true hn)) rfl (fun ls hl => k p e R s m args below meth c A B H locs cells slots ls hH (zLv.st1 hok hl) h1 h2)
theorem V_astore (pc : Nat) {i : Nat} {x : Nat} (hd : decode cc pc = .ok (.astore i, 2)) (hn : Nat.blt i nL = true) (hok : zok lv i = true) (k : V l G own cc nL rt ini d kc ks Post (pc + 2) (zset lv i (some (.ref x))) st h sz) : V l G own cc nL rt ini d kc ks Post pc lv (.ref x :: st) h sz := by
  intro p e R s m args below meth c A B H locs cells slots ls hH hl h1 h2
  exact lv_astore B.1 B.2.1 hd hl.has (Nat.lt_of_lt_of_le (Nat.lt_succ_self _) (Nat.le_of_ble_eq_true hn)) rfl (fun ls hl => k p e R s m args below meth c A B H locs cells slots ls hH (zLv.st1 hok hl) h1 h2)
theorem V_astore_nN (pc : Nat) {i : Fin 4} (hd : decode cc pc = .ok (.astore_n i, 1)) (hn : Nat.blt (i : Nat) nL = true) (hok : zok lv (i : Nat) = true) (k : V l G own cc nL rt ini d kc ks Post (pc + 1) (zset lv (i : Nat) (some .null)) st h sz) : V l G own cc nL rt ini d kc ks Post pc lv (.null :: st) h sz := by
  intro p e R s m args below meth c A B H locs cells slots ls hH hl h1 h2
  exact lv_astore_nN B.1 B.2.1 hd rfl hl.has (Nat.lt_of_lt_of_le (Nat.lt_succ_self _) (Nat.le_of_ble_eq_true hn)) rfl (fun ls hl => k p e R s m args below meth c A B H locs cells slots ls hH (zLv.st1 hok hl) h1 h2)
theorem V_astoreN (pc : Nat) {i : Nat} (hd : decode cc pc = .ok (.astore i, 2)) (hn : Nat.blt i nL = true) (hok : zok lv i = true) (k : V l G own cc nL rt ini d kc ks Post (pc + 2) (zset lv i (some .null)) st h sz) : V l G own cc nL rt ini d kc ks Post pc lv (.null :: st) h sz := by
  intro p e R s m args below meth c A B H locs cells slots ls hH hl h1 h2
  exact lv_astoreN B.1 B.2.1 hd hl.has (Nat.lt_of_lt_of_le (Nat.lt_succ_self _) (Nat.le_of_ble_eq_true hn)) rfl (fun ls hl => k p e R s m args below meth c A B H locs cells slots ls hH (zLv.st1 hok hl) h1 h2)
theorem V_lstore_n (pc : Nat) {i : Fin 4} {x : Int64} (hd : decode cc pc = .ok (.lstore_n i, 1)) (hn : Nat.blt ((i : Nat) + 1) nL = true) (hok : zok lv (i : Nat) = true) (k : V l G own cc nL rt ini d kc ks Post (pc + 1) (zset (zset lv ((i : Nat) + 1) none) (i : Nat) (some (.long x))) st h sz) : V l G own cc nL rt ini d kc ks Post pc lv (.long x :: st) h sz := by
  intro p e R s m args below meth c A B H locs cells slots ls hH hl h1 h2
  exact lv_lstore_n B.1 B.2.1 hd rfl hl.has (Nat.lt_of_lt_of_le (Nat.lt_succ_self _) (Nat.le_of_ble_eq_true hn)) rfl (fun ls hl => k p e R s m args below meth c A B H locs cells slots ls hH (zLv.st2 hok hl) h1 h2)
theorem V_lstore (pc : Nat) {i : Nat} {x : Int64} (hd : decode cc pc = .ok (.lstore i, 2)) (hn : Nat.blt (i + 1) nL = true) (hok : zok lv i = true) (k : V l G own cc nL rt ini d kc ks Post (pc + 2) (zset (zset lv (i + 1) none) i (some (.long x))) st h sz) : V l G own cc nL rt ini d kc ks Post pc lv (.long x :: st) h sz := by
  intro p e R s m args below meth c A B H locs cells slots ls hH hl h1 h2
  exact lv_lstore B.1 B.2.1 hd hl.has (Nat.lt_of_lt_of_le (Nat.lt_succ_self _) (Nat.le_of_ble_eq_true hn)) rfl (fun ls hl => k p e R s m args below meth c A B H locs cells slots ls hH (zLv.st2 hok hl) h1 h2)
theorem V_iinc (pc : Nat) {i : Nat} {n : Int} {x : Int32} (v : Int32) (hd : decode cc pc = .ok (.iinc i n, 3)) (hg : zget lv i = some (.int x)) (hv : x + Int32.ofInt n = v) (hn : Nat.blt i nL = true) (hok : zok lv i = true) (k : V l G own cc nL rt ini d kc ks Post (pc + 3) (zset lv i (some (.int v))) st h sz) : V l G own cc nL rt ini d kc ks Post pc lv st h sz := by
  intro p e R s m args below meth c A B H locs cells slots ls hH hl h1 h2
  obtain ⟨j, hj⟩ := List.getElem?_of_mem ((zprs_mem lv 0 (i, .int x)).mpr ⟨i, by simp, hg⟩)
  exact lv_iinc B.1 B.2.1 hd hl.has hj hv (Nat.lt_of_lt_of_le (Nat.lt_succ_self _) (Nat.le_of_ble_eq_true hn)) rfl (fun ls hl => k p e R s m args below meth c A B H locs cells slots ls hH (zLv.st1 hok hl) h1 h2)
theorem V_iadd (pc : Nat) {x y : Int32} (hd : decode cc pc = .ok (.iadd, 1))  (k : V l G own cc nL rt ini d kc ks Post (pc + 1) lv (.int (x + y) :: st) h sz) : V l G own cc nL rt ini d kc ks Post pc lv (.int y :: .int x :: st) h sz := by
  intro p e R s m args below meth c A B H locs cells slots ls hH hl h1 h2
  exact lv_iadd B.1 B.2.1 hd  (k p e R s m args below meth c A B H locs cells slots ls hH hl h1 h2)
theorem V_isub (pc : Nat) {x y : Int32} (hd : decode cc pc = .ok (.isub, 1))  (k : V l G own cc nL rt ini d kc ks Post (pc + 1) lv (.int (x - y) :: st) h sz) : V l G own cc nL rt ini d kc ks Post pc lv (.int y :: .int x :: st) h sz := by
  intro p e R s m args below meth c A B H locs cells slots ls hH hl h1 h2
  exact lv_isub B.1 B.2.1 hd  (k p e R s m args below meth c A B H locs cells slots ls hH hl h1 h2)
theorem V_imul (pc : Nat) {x y : Int32} (hd : decode cc pc = .ok (.imul, 1))  (k : V l G own cc nL rt ini d kc ks Post (pc + 1) lv (.int (x * y) :: st) h sz) : V l G own cc nL rt ini d kc ks Post pc lv (.int y :: .int x :: st) h sz := by
  intro p e R s m args below meth c A B H locs cells slots ls hH hl h1 h2
  exact lv_imul B.1 B.2.1 hd  (k p e R s m args below meth c A B H locs cells slots ls hH hl h1 h2)
theorem V_iand (pc : Nat) {x y : Int32} (hd : decode cc pc = .ok (.iand, 1))  (k : V l G own cc nL rt ini d kc ks Post (pc + 1) lv (.int (x &&& y) :: st) h sz) : V l G own cc nL rt ini d kc ks Post pc lv (.int y :: .int x :: st) h sz := by
  intro p e R s m args below meth c A B H locs cells slots ls hH hl h1 h2
  exact lv_iand B.1 B.2.1 hd  (k p e R s m args below meth c A B H locs cells slots ls hH hl h1 h2)
theorem V_ishl (pc : Nat) {x y : Int32} (hd : decode cc pc = .ok (.ishl, 1))  (k : V l G own cc nL rt ini d kc ks Post (pc + 1) lv (.int (x <<< (y &&& 31)) :: st) h sz) : V l G own cc nL rt ini d kc ks Post pc lv (.int y :: .int x :: st) h sz := by
  intro p e R s m args below meth c A B H locs cells slots ls hH hl h1 h2
  exact lv_ishl B.1 B.2.1 hd  (k p e R s m args below meth c A B H locs cells slots ls hH hl h1 h2)
theorem V_idiv (pc : Nat) {x y : Int32} (hd : decode cc pc = .ok (.idiv, 1)) (hne : ¬ y = 0) (k : V l G own cc nL rt ini d kc ks Post (pc + 1) lv (.int (x / y) :: st) h sz) : V l G own cc nL rt ini d kc ks Post pc lv (.int y :: .int x :: st) h sz := by
  intro p e R s m args below meth c A B H locs cells slots ls hH hl h1 h2
  exact lv_idiv B.1 B.2.1 hd hne (k p e R s m args below meth c A B H locs cells slots ls hH hl h1 h2)
theorem V_irem (pc : Nat) {x y : Int32} (hd : decode cc pc = .ok (.irem, 1)) (hne : ¬ y = 0) (k : V l G own cc nL rt ini d kc ks Post (pc + 1) lv (.int (x - x / y * y) :: st) h sz) : V l G own cc nL rt ini d kc ks Post pc lv (.int y :: .int x :: st) h sz := by
  intro p e R s m args below meth c A B H locs cells slots ls hH hl h1 h2
  exact lv_irem B.1 B.2.1 hd hne (k p e R s m args below meth c A B H locs cells slots ls hH hl h1 h2)
theorem V_ladd (pc : Nat) {x y : Int64} (hd : decode cc pc = .ok (.ladd, 1))  (k : V l G own cc nL rt ini d kc ks Post (pc + 1) lv (.long (x + y) :: st) h sz) : V l G own cc nL rt ini d kc ks Post pc lv (.long y :: .long x :: st) h sz := by
  intro p e R s m args below meth c A B H locs cells slots ls hH hl h1 h2
  exact lv_ladd B.1 B.2.1 hd  (k p e R s m args below meth c A B H locs cells slots ls hH hl h1 h2)
theorem V_lmul (pc : Nat) {x y : Int64} (hd : decode cc pc = .ok (.lmul, 1))  (k : V l G own cc nL rt ini d kc ks Post (pc + 1) lv (.long (x * y) :: st) h sz) : V l G own cc nL rt ini d kc ks Post pc lv (.long y :: .long x :: st) h sz := by
  intro p e R s m args below meth c A B H locs cells slots ls hH hl h1 h2
  exact lv_lmul B.1 B.2.1 hd  (k p e R s m args below meth c A B H locs cells slots ls hH hl h1 h2)
theorem V_ldiv (pc : Nat) {x y : Int64} (hd : decode cc pc = .ok (.ldiv, 1)) (hne : ¬ y = 0) (k : V l G own cc nL rt ini d kc ks Post (pc + 1) lv (.long (x / y) :: st) h sz) : V l G own cc nL rt ini d kc ks Post pc lv (.long y :: .long x :: st) h sz := by
  intro p e R s m args below meth c A B H locs cells slots ls hH hl h1 h2
  exact lv_ldiv B.1 B.2.1 hd hne (k p e R s m args below meth c A B H locs cells slots ls hH hl h1 h2)
theorem V_lrem (pc : Nat) {x y : Int64} (hd : decode cc pc = .ok (.lrem, 1)) (hne : ¬ y = 0) (k : V l G own cc nL rt ini d kc ks Post (pc + 1) lv (.long (x - x / y * y) :: st) h sz) : V l G own cc nL rt ini d kc ks Post pc lv (.long y :: .long x :: st) h sz := by
  intro p e R s m args below meth c A B H locs cells slots ls hH hl h1 h2
  exact lv_lrem B.1 B.2.1 hd hne (k p e R s m args below meth c A B H locs cells slots ls hH hl h1 h2)
theorem V_i2l (pc : Nat) {x : Int32} (hd : decode cc pc = .ok (.i2l, 1))  (k : V l G own cc nL rt ini d kc ks Post (pc + 1) lv (.long x.toInt64 :: st) h sz) : V l G own cc nL rt ini d kc ks Post pc lv (.int x :: st) h sz := by
  intro p e R s m args below meth c A B H locs cells slots ls hH hl h1 h2
  exact lv_i2l B.1 B.2.1 hd rfl (k p e R s m args below meth c A B H locs cells slots ls hH hl h1 h2)
theorem V_l2i (pc : Nat) {x : Int64} (hd : decode cc pc = .ok (.l2i, 1))  (k : V l G own cc nL rt ini d kc ks Post (pc + 1) lv (.int x.toInt32 :: st) h sz) : V l G own cc nL rt ini d kc ks Post pc lv (.long x :: st) h sz := by
  intro p e R s m args below meth c A B H locs cells slots ls hH hl h1 h2
  exact lv_l2i B.1 B.2.1 hd rfl (k p e R s m args below meth c A B H locs cells slots ls hH hl h1 h2)
theorem V_lcmp (pc : Nat) {x y : Int64} (hd : decode cc pc = .ok (.lcmp, 1))  (k : V l G own cc nL rt ini d kc ks Post (pc + 1) lv (.int (lg_cmp x y) :: st) h sz) : V l G own cc nL rt ini d kc ks Post pc lv (.long y :: .long x :: st) h sz := by
  intro p e R s m args below meth c A B H locs cells slots ls hH hl h1 h2
  exact W.lcmp B.1 B.2.1 hd  (k p e R s m args below meth c A B H locs cells slots ls hH hl h1 h2)
theorem V_dupr (pc : Nat) {x : Nat} (hd : decode cc pc = .ok (.dup, 1))  (k : V l G own cc nL rt ini d kc ks Post (pc + 1) lv (.ref x :: .ref x :: st) h sz) : V l G own cc nL rt ini d kc ks Post pc lv (.ref x :: st) h sz := by
  intro p e R s m args below meth c A B H locs cells slots ls hH hl h1 h2
  exact lv_dup B.1 B.2.1 hd rfl (k p e R s m args below meth c A B H locs cells slots ls hH hl h1 h2)
theorem V_dupi (pc : Nat) {x : Int32} (hd : decode cc pc = .ok (.dup, 1))  (k : V l G own cc nL rt ini d kc ks Post (pc + 1) lv (.int x :: .int x :: st) h sz) : V l G own cc nL rt ini d kc ks Post pc lv (.int x :: st) h sz := by
  intro p e R s m args below meth c A B H locs cells slots ls hH hl h1 h2
  exact lv_dup B.1 B.2.1 hd rfl (k p e R s m args below meth c A B H locs cells slots ls hH hl h1 h2)
theorem V_pop (pc : Nat) {x : Int32} (hd : decode cc pc = .ok (.pop, 1))  (k : V l G own cc nL rt ini d kc ks Post (pc + 1) lv st h sz) : V l G own cc nL rt ini d kc ks Post pc lv (.int x :: st) h sz := by
  intro p e R s m args below meth c A B H locs cells slots ls hH hl h1 h2
  exact lv_pop (va := .int x) B.1 B.2.1 hd rfl (k p e R s m args below meth c A B H locs cells slots ls hH hl h1 h2)
theorem V_dup2 (pc : Nat) {x : Int32} {r : Nat} (hd : decode cc pc = .ok (.dup2, 1))  (k : V l G own cc nL rt ini d kc ks Post (pc + 1) lv (.int x :: .ref r :: .int x :: .ref r :: st) h sz) : V l G own cc nL rt ini d kc ks Post pc lv (.int x :: .ref r :: st) h sz := by
  intro p e R s m args below meth c A B H locs cells slots ls hH hl h1 h2
  exact lv_dup2_11 B.1 B.2.1 hd rfl rfl (k p e R s m args below meth c A B H locs cells slots ls hH hl h1 h2)
theorem V_dup2l (pc : Nat) {x : Int64} (hd : decode cc pc = .ok (.dup2, 1))  (k : V l G own cc nL rt ini d kc ks Post (pc + 1) lv (.long x :: .long x :: st) h sz) : V l G own cc nL rt ini d kc ks Post pc lv (.long x :: st) h sz := by
  intro p e R s m args below meth c A B H locs cells slots ls hH hl h1 h2
  exact lv_dup2_2 B.1 B.2.1 hd rfl (k p e R s m args below meth c A B H locs cells slots ls hH hl h1 h2)
theorem V_topi {pc : Nat} {x : Int32} (y : Int32) (hy : x = y) (k : V l G own cc nL rt ini d kc ks Post pc lv (.int y :: st) h sz) : V l G own cc nL rt ini d kc ks Post pc lv (.int x :: st) h sz := by subst hy; exact k
theorem V_topl {pc : Nat} {x : Int64} (y : Int64) (hy : x = y) (k : V l G own cc nL rt ini d kc ks Post pc lv (.long y :: st) h sz) : V l G own cc nL rt ini d kc ks Post pc lv (.long x :: st) h sz := by subst hy; exact k
theorem V_goto (pc tgt : Nat) {off : Int} (hd : decode cc pc = .ok (.goto off, 3)) (ht : (pc : Int) + off = (tgt : Int)) (k : V l G own cc nL rt ini d kc ks Post tgt lv st h sz) : V l G own cc nL rt ini d kc ks Post pc lv st h sz := by
  intro p e R s m args below meth c A B H locs cells slots ls hH hl h1 h2
  exact lv_goto B.1 B.2.1 hd ht (k p e R s m args below meth c A B H locs cells slots ls hH hl h1 h2)
theorem V_if_eq (pc tgt : Nat) {x : Int32} {off : Int} (hd : decode cc pc = .ok (.ifCond .eq off, 3)) (ht : (pc : Int) + off = (tgt : Int)) (kt : x = 0 → V l G own cc nL rt ini d kc ks Post tgt lv st h sz) (kf : ¬ (x = 0) → V l G own cc nL rt ini d kc ks Post (pc + 3) lv st h sz) : V l G own cc nL rt ini d kc ks Post pc lv (.int x :: st) h sz := by
  intro p e R s m args below meth c A B H locs cells slots ls hH hl h1 h2
  exact lv_if_eq B.1 B.2.1 hd ht (fun q => kt q p e R s m args below meth c A B H locs cells slots ls hH hl h1 h2) (fun q => kf q p e R s m args below meth c A B H locs cells slots ls hH hl h1 h2)
theorem V_icmp_eq (pc tgt : Nat) {x y : Int32} {off : Int} (hd : decode cc pc = .ok (.if_icmp .eq off, 3)) (ht : (pc : Int) + off = (tgt : Int)) (kt : x = y → V l G own cc nL rt ini d kc ks Post tgt lv st h sz) (kf : ¬ (x = y) → V l G own cc nL rt ini d kc ks Post (pc + 3) lv st h sz) : V l G own cc nL rt ini d kc ks Post pc lv (.int y :: .int x :: st) h sz := by
  intro p e R s m args below meth c A B H locs cells slots ls hH hl h1 h2
  exact lv_icmp_eq B.1 B.2.1 hd ht (fun q => kt q p e R s m args below meth c A B H locs cells slots ls hH hl h1 h2) (fun q => kf q p e R s m args below meth c A B H locs cells slots ls hH hl h1 h2)
theorem V_if_ne (pc tgt : Nat) {x : Int32} {off : Int} (hd : decode cc pc = .ok (.ifCond .ne off, 3)) (ht : (pc : Int) + off = (tgt : Int)) (kt : ¬ x = 0 → V l G own cc nL rt ini d kc ks Post tgt lv st h sz) (kf : x = 0 → V l G own cc nL rt ini d kc ks Post (pc + 3) lv st h sz) : V l G own cc nL rt ini d kc ks Post pc lv (.int x :: st) h sz := by
  intro p e R s m args below meth c A B H locs cells slots ls hH hl h1 h2
  exact lv_if_ne B.1 B.2.1 hd ht (fun q => kt q p e R s m args below meth c A B H locs cells slots ls hH hl h1 h2) (fun q => kf q p e R s m args below meth c A B H locs cells slots ls hH hl h1 h2)
theorem V_icmp_ne (pc tgt : Nat) {x y : Int32} {off : Int} (hd : decode cc pc = .ok (.if_icmp .ne off, 3)) (ht : (pc : Int) + off = (tgt : Int)) (kt : ¬ x = y → V l G own cc nL rt ini d kc ks Post tgt lv st h sz) (kf : x = y → V l G own cc nL rt ini d kc ks Post (pc + 3) lv st h sz) : V l G own cc nL rt ini d kc ks Post pc lv (.int y :: .int x :: st) h sz := by
  intro p e R s m args below meth c A B H locs cells slots ls hH hl h1 h2
  exact lv_icmp_ne B.1 B.2.1 hd ht (fun q => kt q p e R s m args below meth c A B H locs cells slots ls hH hl h1 h2) (fun q => kf q p e R s m args below meth c A B H locs cells slots ls hH hl h1 h2)
theorem V_if_lt (pc tgt : Nat) {x : Int32} {off : Int} (hd : decode cc pc = .ok (.ifCond .lt off, 3)) (ht : (pc : Int) + off = (tgt : Int)) (kt : x < 0 → V l G own cc nL rt ini d kc ks Post tgt lv st h sz) (kf : ¬ (x < 0) → V l G own cc nL rt ini d kc ks Post (pc + 3) lv st h sz) : V l G own cc nL rt ini d kc ks Post pc lv (.int x :: st) h sz := by
  intro p e R s m args below meth c A B H locs cells slots ls hH hl h1 h2
  exact lv_if_lt B.1 B.2.1 hd ht (fun q => kt q p e R s m args below meth c A B H locs cells slots ls hH hl h1 h2) (fun q => kf q p e R s m args below meth c A B H locs cells slots ls hH hl h1 h2)
theorem V_icmp_lt (pc tgt : Nat) {x y : Int32} {off : Int} (hd : decode cc pc = .ok (.if_icmp .lt off, 3)) (ht : (pc : Int) + off = (tgt : Int)) (kt : x < y → V l G own cc nL rt ini d kc ks Post tgt lv st h sz) (kf : ¬ (x < y) → V l G own cc nL rt ini d kc ks Post (pc + 3) lv st h sz) : V l G own cc nL rt ini d kc ks Post pc lv (.int y :: .int x :: st) h sz := by
  intro p e R s m args below meth c A B H locs cells slots ls hH hl h1 h2
  exact lv_icmp_lt B.1 B.2.1 hd ht (fun q => kt q p e R s m args below meth c A B H locs cells slots ls hH hl h1 h2) (fun q => kf q p e R s m args below meth c A B H locs cells slots ls hH hl h1 h2)
theorem V_if_ge (pc tgt : Nat) {x : Int32} {off : Int} (hd : decode cc pc = .ok (.ifCond .ge off, 3)) (ht : (pc : Int) + off = (tgt : Int)) (kt : 0 ≤ x → V l G own cc nL rt ini d kc ks Post tgt lv st h sz) (kf : ¬ (0 ≤ x) → V l G own cc nL rt ini d kc ks Post (pc + 3) lv st h sz) : V l G own cc nL rt ini d kc ks Post pc lv (.int x :: st) h sz := by
  intro p e R s m args below meth c A B H locs cells slots ls hH hl h1 h2
  exact lv_if_ge B.1 B.2.1 hd ht (fun q => kt q p e R s m args below meth c A B H locs cells slots ls hH hl h1 h2) (fun q => kf q p e R s m args below meth c A B H locs cells slots ls hH hl h1 h2)
theorem V_icmp_ge (pc tgt : Nat) {x y : Int32} {off : Int} (hd : decode cc pc = .ok (.if_icmp .ge off, 3)) (ht : (pc : Int) + off = (tgt : Int)) (kt : y ≤ x → V l G own cc nL rt ini d kc ks Post tgt lv st h sz) (kf : ¬ (y ≤ x) → V l G own cc nL rt ini d kc ks Post (pc + 3) lv st h sz) : V l G own cc nL rt ini d kc ks Post pc lv (.int y :: .int x :: st) h sz := by
  intro p e R s m args below meth c A B H locs cells slots ls hH hl h1 h2
  exact lv_icmp_ge B.1 B.2.1 hd ht (fun q => kt q p e R s m args below meth c A B H locs cells slots ls hH hl h1 h2) (fun q => kf q p e R s m args below meth c A B H locs cells slots ls hH hl h1 h2)
theorem V_if_gt (pc tgt : Nat) {x : Int32} {off : Int} (hd : decode cc pc = .ok (.ifCond .gt off, 3)) (ht : (pc : Int) + off = (tgt : Int)) (kt : 0 < x → V l G own cc nL rt ini d kc ks Post tgt lv st h sz) (kf : ¬ (0 < x) → V l G own cc nL rt ini d kc ks Post (pc + 3) lv st h sz) : V l G own cc nL rt ini d kc ks Post pc lv (.int x :: st) h sz := by
  intro p e R s m args below meth c A B H locs cells slots ls hH hl h1 h2
  exact lv_if_gt B.1 B.2.1 hd ht (fun q => kt q p e R s m args below meth c A B H locs cells slots ls hH hl h1 h2) (fun q => kf q p e R s m args below meth c A B H locs cells slots ls hH hl h1 h2)
theorem V_icmp_gt (pc tgt : Nat) {x y : Int32} {off : Int} (hd : decode cc pc = .ok (.if_icmp .gt off, 3)) (ht : (pc : Int) + off = (tgt : Int)) (kt : y < x → V l G own cc nL rt ini d kc ks Post tgt lv st h sz) (kf : ¬ (y < x) → V l G own cc nL rt ini d kc ks Post (pc + 3) lv st h sz) : V l G own cc nL rt ini d kc ks Post pc lv (.int y :: .int x :: st) h sz := by
  intro p e R s m args below meth c A B H locs cells slots ls hH hl h1 h2
  exact lv_icmp_gt B.1 B.2.1 hd ht (fun q => kt q p e R s m args below meth c A B H locs cells slots ls hH hl h1 h2) (fun q => kf q p e R s m args below meth c A B H locs cells slots ls hH hl h1 h2)
theorem V_if_le (pc tgt : Nat) {x : Int32} {off : Int} (hd : decode cc pc = .ok (.ifCond .le off, 3)) (ht : (pc : Int) + off = (tgt : Int)) (kt : x ≤ 0 → V l G own cc nL rt ini d kc ks Post tgt lv st h sz) (kf : ¬ (x ≤ 0) → V l G own cc nL rt ini d kc ks Post (pc + 3) lv st h sz) : V l G own cc nL rt ini d kc ks Post pc lv (.int x :: st) h sz := by
  intro p e R s m args below meth c A B H locs cells slots ls hH hl h1 h2
  exact lv_if_le B.1 B.2.1 hd ht (fun q => kt q p e R s m args below meth c A B H locs cells slots ls hH hl h1 h2) (fun q => kf q p e R s m args below meth c A B H locs cells slots ls hH hl h1 h2)
theorem V_icmp_le (pc tgt : Nat) {x y : Int32} {off : Int} (hd : decode cc pc = .ok (.if_icmp .le off, 3)) (ht : (pc : Int) + off = (tgt : Int)) (kt : x ≤ y → V l G own cc nL rt ini d kc ks Post tgt lv st h sz) (kf : ¬ (x ≤ y) → V l G own cc nL rt ini d kc ks Post (pc + 3) lv st h sz) : V l G own cc nL rt ini d kc ks Post pc lv (.int y :: .int x :: st) h sz := by
  intro p e R s m args below meth c A B H locs cells slots ls hH hl h1 h2
  exact lv_icmp_le B.1 B.2.1 hd ht (fun q => kt q p e R s m args below meth c A B H locs cells slots ls hH hl h1 h2) (fun q => kf q p e R s m args below meth c A B H locs cells slots ls hH hl h1 h2)
theorem V_ifnull (pc : Nat) {x : Nat} {off : Int} (hd : decode cc pc = .ok (.ifnull off, 3)) (k : V l G own cc nL rt ini d kc ks Post (pc + 3) lv st h sz) : V l G own cc nL rt ini d kc ks Post pc lv (.ref x :: st) h sz := by
  intro p e R s m args below meth c A B H locs cells slots ls hH hl h1 h2
  exact lv_ifnull B.1 B.2.1 hd (k p e R s m args below meth c A B H locs cells slots ls hH hl h1 h2)
theorem V_ifnullN (pc tgt : Nat) {off : Int} (hd : decode cc pc = .ok (.ifnull off, 3)) (ht : (pc : Int) + off = (tgt : Int)) (k : V l G own cc nL rt ini d kc ks Post tgt lv st h sz) : V l G own cc nL rt ini d kc ks Post pc lv (.null :: st) h sz := by
  intro p e R s m args below meth c A B H locs cells slots ls hH hl h1 h2
  exact lv_ifnullN B.1 B.2.1 hd ht (k p e R s m args below meth c A B H locs cells slots ls hH hl h1 h2)
theorem V_ifnonnull (pc tgt : Nat) {x : Nat} {off : Int} (hd : decode cc pc = .ok (.ifnonnull off, 3)) (ht : (pc : Int) + off = (tgt : Int)) (k : V l G own cc nL rt ini d kc ks Post tgt lv st h sz) : V l G own cc nL rt ini d kc ks Post pc lv (.ref x :: st) h sz := by
  intro p e R s m args below meth c A B H locs cells slots ls hH hl h1 h2
  exact lv_ifnonnull B.1 B.2.1 hd ht (k p e R s m args below meth c A B H locs cells slots ls hH hl h1 h2)
theorem V_ifnonnullN (pc : Nat) {off : Int} (hd : decode cc pc = .ok (.ifnonnull off, 3)) (k : V l G own cc nL rt ini d kc ks Post (pc + 3) lv st h sz) : V l G own cc nL rt ini d kc ks Post pc lv (.null :: st) h sz := by
  intro p e R s m args below meth c A B H locs cells slots ls hH hl h1 h2
  exact lv_ifnonnullN B.1 B.2.1 hd (k p e R s m args below meth c A B H locs cells slots ls hH hl h1 h2)
theorem V_tableIn (pc tgt : Nat) {dflt lo hi : Int} {offs : Array Int} {len : Nat} {x : Int32} (off : Int) (hd : decode cc pc = .ok (.tableswitch dflt lo hi offs, len)) (h1 : ¬ x.toInt < lo) (h2 : ¬ hi < x.toInt) (ho : offs[(x.toInt - lo).toNat]? = some off) (ht : (pc : Int) + off = (tgt : Int)) (k : V l G own cc nL rt ini d kc ks Post tgt lv st h sz) : V l G own cc nL rt ini d kc ks Post pc lv (.int x :: st) h sz := by
  intro p e R s m args below meth c A B H locs cells slots ls hH hl h3 h4
  exact lv_tableIn B.1 B.2.1 hd h1 h2 ho ht (k p e R s m args below meth c A B H locs cells slots ls hH hl h3 h4)
theorem V_tableOut (pc tgt : Nat) {dflt lo hi : Int} {offs : Array Int} {len : Nat} {x : Int32} (hd : decode cc pc = .ok (.tableswitch dflt lo hi offs, len)) (h : x.toInt < lo ∨ hi < x.toInt) (ht : (pc : Int) + dflt = (tgt : Int)) {hh : hpT} (k : V l G own cc nL rt ini d kc ks Post tgt lv st hh sz) : V l G own cc nL rt ini d kc ks Post pc lv (.int x :: st) hh sz := by
  intro p e R s m args below meth c A B H locs cells slots ls hH hl h3 h4
  exact lv_tableOut B.1 B.2.1 hd h ht (k p e R s m args below meth c A B H locs cells slots ls hH hl h3 h4)
theorem V_lookup (pc tgt : Nat) {dflt : Int} {ps : Array (Int × Int)} {len : Nat} {x : Int32} {off : Int} (hd : decode cc pc = .ok (.lookupswitch dflt ps, len)) (hp : (ps.toList.zip (ps.toList.drop 1)).all (fun (a, next) => a.1 < next.1) = true) (ho : Op.lookupswitch.offset ps.toList dflt x.toInt = off) (ht : (pc : Int) + off = (tgt : Int)) (k : V l G own cc nL rt ini d kc ks Post tgt lv st h sz) : V l G own cc nL rt ini d kc ks Post pc lv (.int x :: st) h sz := by
  intro p e R s m args below meth c A B H locs cells slots ls hH hl h1 h2
  exact lv_lookup B.1 B.2.1 hd hp ho ht (k p e R s m args below meth c A B H locs cells slots ls hH hl h1 h2)
theorem V_iret (pc : Nat) {v : Int32} (hd : decode cc pc = .ok (.ireturn, 1))  (hq : Post (some (.int v)) h sz) : V l G own cc nL (some .int) ini d kc ks Post pc lv [.int v] h sz := by
  intro p e R s m args below meth c A B H locs cells slots ls hH hl h1 h2
  refine W.widen (k := R.cells) (n := R.slots) (Nat.le_trans (Nat.le_add_right _ _) h1) (Nat.le_trans (Nat.le_add_right _ _) h2) ?_
  obtain ⟨hx, hb, -, -, -, -, -, hr, hlk, -⟩ := B
  exact W.iret (v := v) hx hb hr  (fun t ht hW => ⟨_, h, sz, rfl, hq, by rw [ht]; exact hH.1, hH.2.1, by rw [ht]; exact hH.2.2.1, hH.2.2.2.F ht⟩) hH.2.2.2.2.2 hd (hlocks := hlk)
theorem V_zret (pc : Nat) {v : Int32} (hd : decode cc pc = .ok (.ireturn, 1)) (hv : v = 0 ∨ v = 1) (hq : Post (some (.int v)) h sz) : V l G own cc nL (some .boolean) ini d kc ks Post pc lv [.int v] h sz := by
  intro p e R s m args below meth c A B H locs cells slots ls hH hl h1 h2
  refine W.widen (k := R.cells) (n := R.slots) (Nat.le_trans (Nat.le_add_right _ _) h1) (Nat.le_trans (Nat.le_add_right _ _) h2) ?_
  obtain ⟨hx, hb, -, -, -, -, -, hr, hlk, -⟩ := B
  exact W.zret (v := v) (ty := .boolean) hx hb hr (by rcases hv with rfl | rfl <;> rfl) (fun t ht hW => ⟨_, h, sz, rfl, hq, by rw [ht]; exact hH.1, hH.2.1, by rw [ht]; exact hH.2.2.1, hH.2.2.2.F ht⟩) hH.2.2.2.2.2 hd (hlocks := hlk)
theorem V_lret (pc : Nat) {v : Int64} (hd : decode cc pc = .ok (.lreturn, 1))  (hq : Post (some (.long v)) h sz) : V l G own cc nL (some .long) ini d kc ks Post pc lv [.long v] h sz := by
  intro p e R s m args below meth c A B H locs cells slots ls hH hl h1 h2
  refine W.widen (k := R.cells) (n := R.slots) (Nat.le_trans (Nat.le_add_right _ _) h1) (Nat.le_trans (Nat.le_add_right _ _) h2) ?_
  obtain ⟨hx, hb, -, -, -, -, -, hr, hlk, -⟩ := B
  exact W.lret (v := v) hx hb hr  (fun t ht hW => ⟨_, h, sz, rfl, hq, by rw [ht]; exact hH.1, hH.2.1, by rw [ht]; exact hH.2.2.1, hH.2.2.2.F ht⟩) hH.2.2.2.2.2 hd (hlocks := hlk)
theorem V_aret (pc : Nat) {v : Nat} {C : String} (hd : decode cc pc = .ok (.areturn, 1))  (hq : Post (some (.ref v)) h sz) : V l G own cc nL (some (.object C)) ini d kc ks Post pc lv [.ref v] h sz := by
  intro p e R s m args below meth c A B H locs cells slots ls hH hl h1 h2
  refine W.widen (k := R.cells) (n := R.slots) (Nat.le_trans (Nat.le_add_right _ _) h1) (Nat.le_trans (Nat.le_add_right _ _) h2) ?_
  obtain ⟨hx, hb, -, -, -, -, -, hr, hlk, -⟩ := B
  exact W.aret (v := .ref v) hx hb hr (Or.inl ⟨_, rfl⟩) (Or.inr ⟨_, rfl⟩) (fun t ht hW => ⟨_, h, sz, rfl, hq, by rw [ht]; exact hH.1, hH.2.1, by rw [ht]; exact hH.2.2.1, hH.2.2.2.F ht⟩) hH.2.2.2.2.2 hd (hlocks := hlk)
theorem V_aretN (pc : Nat) {C : String} (hd : decode cc pc = .ok (.areturn, 1))  (hq : Post (some .null) h sz) : V l G own cc nL (some (.object C)) ini d kc ks Post pc lv [.null] h sz := by
  intro p e R s m args below meth c A B H locs cells slots ls hH hl h1 h2
  refine W.widen (k := R.cells) (n := R.slots) (Nat.le_trans (Nat.le_add_right _ _) h1) (Nat.le_trans (Nat.le_add_right _ _) h2) ?_
  obtain ⟨hx, hb, -, -, -, -, -, hr, hlk, -⟩ := B
  exact W.aret (v := .null) hx hb hr (Or.inl ⟨_, rfl⟩) (Or.inl rfl) (fun t ht hW => ⟨_, h, sz, rfl, hq, by rw [ht]; exact hH.1, hH.2.1, by rw [ht]; exact hH.2.2.1, hH.2.2.2.F ht⟩) hH.2.2.2.2.2 hd (hlocks := hlk)
theorem V_vret (pc : Nat)  (hd : decode cc pc = .ok (.return_, 1))  (hq : Post (none) h sz) : V l G own cc nL (none) ini d kc ks Post pc lv [] h sz := by
  intro p e R s m args below meth c A B H locs cells slots ls hH hl h1 h2
  refine W.widen (k := R.cells) (n := R.slots) (Nat.le_trans (Nat.le_add_right _ _) h1) (Nat.le_trans (Nat.le_add_right _ _) h2) ?_
  obtain ⟨hx, hb, -, -, -, -, -, hr, hlk, -⟩ := B
  exact W.vret hx hb hr  (fun t ht hW => ⟨_, h, sz, rfl, hq, by rw [ht]; exact hH.1, hH.2.1, by rw [ht]; exact hH.2.2.1, hH.2.2.2.F ht⟩) hH.2.2.2.2.2 hd (hlocks := hlk)
end VR
