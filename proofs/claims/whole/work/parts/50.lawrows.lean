/-- the law's frame reads its script, which lies apart -/
def zX (z : Nat × Nat × (Nat → Int32)) (s : State) (A : Nat → Prop) : Prop := va_X z.1 z.2.1 z.2.2 s s.heap ∧ z.1 < s.heap.size ∧ ¬ A z.1
def VS (z : Nat × Nat × (Nat → Int32)) (l : Launch) (G : zGT) (own : String) (cc : ByteArray) (nL : Nat) (rt : Option FieldType) (ini : Bool) (d kc ks : Nat) (Post : Option Value → hpT → Nat → Prop) (pc : Nat) (lv : List (Option Value)) (st : List Value) (h : hpT) (sz : Nat) : Prop :=
  ∀ (p : Program) (e : Env) (R : Room) (s : State) (m : MethodId) (args : Array Value) (below : List Frame) (meth : Method) (c : Code) (A : Nat → Prop), zB G own cc nL rt ini d p R s m args meth c A → zX z s A →
  ∀ (H : Heap) (locs : List Loc) (cells slots : Nat) (ls : Array Slot), zH G h sz A s H locs → zLv ls nL lv → cells + kc ≤ R.cells → slots + ks ≤ R.slots →
  W p l e R s m args below meth c H locs cells slots (MQ below (zQ G Post A) args s R.cells R.slots A) (F0 m pc ls st)
section M50
variable {z : Nat × Nat × (Nat → Int32)} {l : Launch} {G : zGT} {own : String} {cc : ByteArray} {nL : Nat} {rt : Option FieldType} {ini : Bool} {d kc ks : Nat} {Post : Option Value → hpT → Nat → Prop} {lv : List (Option Value)} {st : List Value} {h : hpT} {sz : Nat}
theorem VS_sld (pc j : Nat) {i : Int32} (hj : i.toNatClampNeg = j) (hd : decode cc pc = .ok (.iaload, 1)) (hin : vp_in i z.2.1) (kk : VS z l G own cc nL rt ini d kc ks Post (pc + 1) lv (.int (z.2.2 j) :: st) h sz) : VS z l G own cc nL rt ini d kc ks Post pc lv (.int i :: .ref z.1 :: st) h sz := by
  intro p e R s m args below meth c A B Z H locs cells slots ls hH hl h1 h2
  subst hj
  exact va_sld B.1 B.2.1 Z.1 Z.2.1 Z.2.2 hH.2.2.2 hin hd (kk p e R s m args below meth c A B Z H locs cells slots ls hH hl h1 h2)
theorem VS_slen (pc : Nat) (hd : decode cc pc = .ok (.arraylength, 1)) (kk : VS z l G own cc nL rt ini d kc ks Post (pc + 1) lv (.int (nI z.2.1) :: st) h sz) : VS z l G own cc nL rt ini d kc ks Post pc lv (.ref z.1 :: st) h sz := by
  intro p e R s m args below meth c A B Z H locs cells slots ls hH hl h1 h2
  exact va_slen B.1 B.2.1 Z.1 Z.2.1 Z.2.2 hH.2.2.2 hd (kk p e R s m args below meth c A B Z H locs cells slots ls hH hl h1 h2)
theorem VS_sz {pc a : Nat} {e : va_E} (ha : h a = some e) (k : a < sz → VS z l G own cc nL rt ini d kc ks Post pc lv st h sz) : VS z l G own cc nL rt ini d kc ks Post pc lv st h sz := by
  intro p e R s m args below meth c A B Z H locs cells slots ls hH hl h1 h2
  exact k (by rw [← hH.2.2.1]; exact hH.1.lt ha) p e R s m args below meth c A B Z H locs cells slots ls hH hl h1 h2
theorem VS_bud {kc' ks' pc : Nat} (h1 : kc ≤ kc') (h2 : ks ≤ ks') (k : VS z l G own cc nL rt ini d kc ks Post pc lv st h sz) : VS z l G own cc nL rt ini d kc' ks' Post pc lv st h sz := fun p e R s m args below meth c A B Z H locs cells slots ls hH hl g1 g2 => k p e R s m args below meth c A B Z H locs cells slots ls hH hl (by omega) (by omega)
theorem VS_lvw {pc : Nat} {lv' : List (Option Value)} (hg : ∀ i v, zget lv' i = some v → zget lv i = some v) (k : VS z l G own cc nL rt ini d kc ks Post pc lv' st h sz) : VS z l G own cc nL rt ini d kc ks Post pc lv st h sz := fun p e R s m args below meth c A B Z H locs cells slots ls hH hl h1 h2 => k p e R s m args below meth c A B Z H locs cells slots ls hH ⟨hl.1, hl.2.1, fun i v hi => hl.2.2 i v (hg i v hi)⟩ h1 h2
theorem VS_iconstv (pc : Nat) {n : Int} (v : Int32) (hd : decode cc pc = .ok (.iconst n, 1)) (hv : Int32.ofInt n = v) (k : VS z l G own cc nL rt ini d kc ks Post (pc + 1) lv (.int v :: st) h sz) : VS z l G own cc nL rt ini d kc ks Post pc lv st h sz := by
  intro p e R s m args below meth c A B Z H locs cells slots ls hH hl h1 h2
  exact lv_iconst B.1 B.2.1 hd hv (k p e R s m args below meth c A B Z H locs cells slots ls hH hl h1 h2)
theorem VS_bipushv (pc : Nat) {n : Int} (v : Int32) (hd : decode cc pc = .ok (.bipush n, 2)) (hv : (Int8.ofInt n).toInt32 = v) (k : VS z l G own cc nL rt ini d kc ks Post (pc + 2) lv (.int v :: st) h sz) : VS z l G own cc nL rt ini d kc ks Post pc lv st h sz := by
  intro p e R s m args below meth c A B Z H locs cells slots ls hH hl h1 h2
  exact lv_bipush B.1 B.2.1 hd hv (k p e R s m args below meth c A B Z H locs cells slots ls hH hl h1 h2)
theorem VS_iload_n (pc : Nat) {i : Fin 4} {x : Int32} (hd : decode cc pc = .ok (.iload_n i, 1)) (hg : zget lv (i : Nat) = some (.int x)) (k : VS z l G own cc nL rt ini d kc ks Post (pc + 1) lv (.int x :: st) h sz) : VS z l G own cc nL rt ini d kc ks Post pc lv st h sz := by
  intro p e R s m args below meth c A B Z H locs cells slots ls hH hl h1 h2
  exact lv_iload_n B.1 B.2.1 hd rfl (hl.2.2 _ _ hg) (k p e R s m args below meth c A B Z H locs cells slots ls hH hl h1 h2)
theorem VS_aload_n (pc : Nat) {i : Fin 4} {x : Nat} (hd : decode cc pc = .ok (.aload_n i, 1)) (hg : zget lv (i : Nat) = some (.ref x)) (k : VS z l G own cc nL rt ini d kc ks Post (pc + 1) lv (.ref x :: st) h sz) : VS z l G own cc nL rt ini d kc ks Post pc lv st h sz := by
  intro p e R s m args below meth c A B Z H locs cells slots ls hH hl h1 h2
  exact lv_aload_n B.1 B.2.1 hd rfl (hl.2.2 _ _ hg) (k p e R s m args below meth c A B Z H locs cells slots ls hH hl h1 h2)
theorem VS_astore_n (pc : Nat) {i : Fin 4} {x : Nat} (hd : decode cc pc = .ok (.astore_n i, 1)) (hn : Nat.blt (i : Nat) nL = true) (hok : zok lv (i : Nat) = true) (k : VS z l G own cc nL rt ini d kc ks Post (pc + 1) (zset lv (i : Nat) (some (.ref x))) st h sz) : VS z l G own cc nL rt ini d kc ks Post pc lv (.ref x :: st) h sz := by
  intro p e R s m args below meth c A B Z H locs cells slots ls hH hl h1 h2
  exact lv_astore_n B.1 B.2.1 hd rfl hl.has (Nat.lt_of_lt_of_le (Nat.lt_succ_self _) (Nat.le_of_ble_eq_true hn)) rfl (fun ls hl => k p e R s m args below meth c A B Z H locs cells slots ls hH (zLv.st1 hok hl) h1 h2)
theorem VS_istore_n (pc : Nat) {i : Fin 4} {x : Int32} (hd : decode cc pc = .ok (.istore_n i, 1)) (hn : Nat.blt (i : Nat) nL = true) (hok : zok lv (i : Nat) = true) (k : VS z l G own cc nL rt ini d kc ks Post (pc + 1) (zset lv (i : Nat) (some (.int x))) st h sz) : VS z l G own cc nL rt ini d kc ks Post pc lv (.int x :: st) h sz := by
  intro p e R s m args below meth c A B Z H locs cells slots ls hH hl h1 h2
  exact lv_istore_n B.1 B.2.1 hd rfl hl.has (Nat.lt_of_lt_of_le (Nat.lt_succ_self _) (Nat.le_of_ble_eq_true hn)) rfl (fun ls hl => k p e R s m args below meth c A B Z H locs cells slots ls hH (zLv.st1 hok hl) h1 h2)
theorem VS_iinc (pc : Nat) {i : Nat} {n : Int} {x : Int32} (v : Int32) (hd : decode cc pc = .ok (.iinc i n, 3)) (hg : zget lv i = some (.int x)) (hv : x + Int32.ofInt n = v) (hn : Nat.blt i nL = true) (hok : zok lv i = true) (k : VS z l G own cc nL rt ini d kc ks Post (pc + 3) (zset lv i (some (.int v))) st h sz) : VS z l G own cc nL rt ini d kc ks Post pc lv st h sz := by
  intro p e R s m args below meth c A B Z H locs cells slots ls hH hl h1 h2
  obtain ⟨j, hj⟩ := List.getElem?_of_mem ((zprs_mem lv 0 (i, .int x)).mpr ⟨i, by simp, hg⟩)
  exact lv_iinc B.1 B.2.1 hd hl.has hj hv (Nat.lt_of_lt_of_le (Nat.lt_succ_self _) (Nat.le_of_ble_eq_true hn)) rfl (fun ls hl => k p e R s m args below meth c A B Z H locs cells slots ls hH (zLv.st1 hok hl) h1 h2)
theorem VS_iadd (pc : Nat) {x y : Int32} (hd : decode cc pc = .ok (.iadd, 1))  (k : VS z l G own cc nL rt ini d kc ks Post (pc + 1) lv (.int (x + y) :: st) h sz) : VS z l G own cc nL rt ini d kc ks Post pc lv (.int y :: .int x :: st) h sz := by
  intro p e R s m args below meth c A B Z H locs cells slots ls hH hl h1 h2
  exact lv_iadd B.1 B.2.1 hd  (k p e R s m args below meth c A B Z H locs cells slots ls hH hl h1 h2)
theorem VS_isub (pc : Nat) {x y : Int32} (hd : decode cc pc = .ok (.isub, 1))  (k : VS z l G own cc nL rt ini d kc ks Post (pc + 1) lv (.int (x - y) :: st) h sz) : VS z l G own cc nL rt ini d kc ks Post pc lv (.int y :: .int x :: st) h sz := by
  intro p e R s m args below meth c A B Z H locs cells slots ls hH hl h1 h2
  exact lv_isub B.1 B.2.1 hd  (k p e R s m args below meth c A B Z H locs cells slots ls hH hl h1 h2)
theorem VS_iand (pc : Nat) {x y : Int32} (hd : decode cc pc = .ok (.iand, 1))  (k : VS z l G own cc nL rt ini d kc ks Post (pc + 1) lv (.int (x &&& y) :: st) h sz) : VS z l G own cc nL rt ini d kc ks Post pc lv (.int y :: .int x :: st) h sz := by
  intro p e R s m args below meth c A B Z H locs cells slots ls hH hl h1 h2
  exact lv_iand B.1 B.2.1 hd  (k p e R s m args below meth c A B Z H locs cells slots ls hH hl h1 h2)
theorem VS_lcmp (pc : Nat) {x y : Int64} (hd : decode cc pc = .ok (.lcmp, 1))  (k : VS z l G own cc nL rt ini d kc ks Post (pc + 1) lv (.int (lg_cmp x y) :: st) h sz) : VS z l G own cc nL rt ini d kc ks Post pc lv (.long y :: .long x :: st) h sz := by
  intro p e R s m args below meth c A B Z H locs cells slots ls hH hl h1 h2
  exact W.lcmp B.1 B.2.1 hd  (k p e R s m args below meth c A B Z H locs cells slots ls hH hl h1 h2)
theorem VS_goto (pc tgt : Nat) {off : Int} (hd : decode cc pc = .ok (.goto off, 3)) (ht : (pc : Int) + off = (tgt : Int)) (k : VS z l G own cc nL rt ini d kc ks Post tgt lv st h sz) : VS z l G own cc nL rt ini d kc ks Post pc lv st h sz := by
  intro p e R s m args below meth c A B Z H locs cells slots ls hH hl h1 h2
  exact lv_goto B.1 B.2.1 hd ht (k p e R s m args below meth c A B Z H locs cells slots ls hH hl h1 h2)
theorem VS_if_eq (pc tgt : Nat) {x : Int32} {off : Int} (hd : decode cc pc = .ok (.ifCond .eq off, 3)) (ht : (pc : Int) + off = (tgt : Int)) (kt : x = 0 → VS z l G own cc nL rt ini d kc ks Post tgt lv st h sz) (kf : ¬ (x = 0) → VS z l G own cc nL rt ini d kc ks Post (pc + 3) lv st h sz) : VS z l G own cc nL rt ini d kc ks Post pc lv (.int x :: st) h sz := by
  intro p e R s m args below meth c A B Z H locs cells slots ls hH hl h1 h2
  exact lv_if_eq B.1 B.2.1 hd ht (fun q => kt q p e R s m args below meth c A B Z H locs cells slots ls hH hl h1 h2) (fun q => kf q p e R s m args below meth c A B Z H locs cells slots ls hH hl h1 h2)
theorem VS_icmp_eq (pc tgt : Nat) {x y : Int32} {off : Int} (hd : decode cc pc = .ok (.if_icmp .eq off, 3)) (ht : (pc : Int) + off = (tgt : Int)) (kt : x = y → VS z l G own cc nL rt ini d kc ks Post tgt lv st h sz) (kf : ¬ (x = y) → VS z l G own cc nL rt ini d kc ks Post (pc + 3) lv st h sz) : VS z l G own cc nL rt ini d kc ks Post pc lv (.int y :: .int x :: st) h sz := by
  intro p e R s m args below meth c A B Z H locs cells slots ls hH hl h1 h2
  exact lv_icmp_eq B.1 B.2.1 hd ht (fun q => kt q p e R s m args below meth c A B Z H locs cells slots ls hH hl h1 h2) (fun q => kf q p e R s m args below meth c A B Z H locs cells slots ls hH hl h1 h2)
theorem VS_icmp_gt (pc tgt : Nat) {x y : Int32} {off : Int} (hd : decode cc pc = .ok (.if_icmp .gt off, 3)) (ht : (pc : Int) + off = (tgt : Int)) (kt : y < x → VS z l G own cc nL rt ini d kc ks Post tgt lv st h sz) (kf : ¬ (y < x) → VS z l G own cc nL rt ini d kc ks Post (pc + 3) lv st h sz) : VS z l G own cc nL rt ini d kc ks Post pc lv (.int y :: .int x :: st) h sz := by
  intro p e R s m args below meth c A B Z H locs cells slots ls hH hl h1 h2
  exact lv_icmp_gt B.1 B.2.1 hd ht (fun q => kt q p e R s m args below meth c A B Z H locs cells slots ls hH hl h1 h2) (fun q => kf q p e R s m args below meth c A B Z H locs cells slots ls hH hl h1 h2)
theorem VS_tableIn (pc tgt : Nat) {dflt lo hi : Int} {offs : Array Int} {len : Nat} {x : Int32} (off : Int) (hd : decode cc pc = .ok (.tableswitch dflt lo hi offs, len)) (h1 : ¬ x.toInt < lo) (h2 : ¬ hi < x.toInt) (ho : offs[(x.toInt - lo).toNat]? = some off) (ht : (pc : Int) + off = (tgt : Int)) (k : VS z l G own cc nL rt ini d kc ks Post tgt lv st h sz) : VS z l G own cc nL rt ini d kc ks Post pc lv (.int x :: st) h sz := by
  intro p e R s m args below meth c A B Z H locs cells slots ls hH hl h3 h4
  exact lv_tableIn B.1 B.2.1 hd h1 h2 ho ht (k p e R s m args below meth c A B Z H locs cells slots ls hH hl h3 h4)
theorem VS_tableOut (pc tgt : Nat) {dflt lo hi : Int} {offs : Array Int} {len : Nat} {x : Int32} (hd : decode cc pc = .ok (.tableswitch dflt lo hi offs, len)) (h : x.toInt < lo ∨ hi < x.toInt) (ht : (pc : Int) + dflt = (tgt : Int)) {hh : hpT} (k : VS z l G own cc nL rt ini d kc ks Post tgt lv st hh sz) : VS z l G own cc nL rt ini d kc ks Post pc lv (.int x :: st) hh sz := by
  intro p e R s m args below meth c A B Z H locs cells slots ls hH hl h3 h4
  exact lv_tableOut B.1 B.2.1 hd h ht (k p e R s m args below meth c A B Z H locs cells slots ls hH hl h3 h4)
theorem VS_zret (pc : Nat) {v : Int32} (hd : decode cc pc = .ok (.ireturn, 1)) (hv : v = 0 ∨ v = 1) (hq : Post (some (.int v)) h sz) : VS z l G own cc nL (some .boolean) ini d kc ks Post pc lv [.int v] h sz := by
  intro p e R s m args below meth c A B Z H locs cells slots ls hH hl h1 h2
  refine W.widen (k := R.cells) (n := R.slots) (Nat.le_trans (Nat.le_add_right _ _) h1) (Nat.le_trans (Nat.le_add_right _ _) h2) ?_
  obtain ⟨hx, hb, -, -, -, -, -, hr, hlk, -⟩ := B
  exact W.zret (v := v) (ty := .boolean) hx hb hr (by rcases hv with rfl | rfl <;> rfl) (fun t ht hW => ⟨_, h, sz, rfl, hq, by rw [ht]; exact hH.1, hH.2.1, by rw [ht]; exact hH.2.2.1, hH.2.2.2.F ht⟩) hH.2.2.2.2.2 hd (hlocks := hlk)
theorem VS_dupr (pc : Nat) {x : Nat} (hd : decode cc pc = .ok (.dup, 1))  (k : VS z l G own cc nL rt ini d kc ks Post (pc + 1) lv (.ref x :: .ref x :: st) h sz) : VS z l G own cc nL rt ini d kc ks Post pc lv (.ref x :: st) h sz := by
  intro p e R s m args below meth c A B Z H locs cells slots ls hH hl h1 h2
  exact lv_dup B.1 B.2.1 hd rfl (k p e R s m args below meth c A B Z H locs cells slots ls hH hl h1 h2)
set_option maxHeartbeats 1000000 in
theorem VS_new (pc : Nat) {idx ci N : Nat} {fs : List Value} (hd : decode cc pc = .ok (.new idx, 3)) (hk : zNw own idx ci N fs) (kk : VS z l G own cc nL rt ini d kc ks Post (pc + 3) lv (.ref sz :: st) (hpS h sz (ob ci fs)) (sz + 1)) : VS z l G own cc nL rt ini d (kc + 1) (ks + N) Post pc lv st h sz := by
  intro p e R s m args below meth c A B Z H locs cells slots ls hH hl h1 h2
  obtain ⟨C, T, ty, ⟨hc, hws, -, -⟩, hty, k1, k2, k3, hfs⟩ := hk
  have B0 := B
  obtain ⟨hx, hb, hml, hown, hts, hK, hN, hr, hlk, hin, hA, hfr, hlo⟩ := B
  have hts1 : ∀ w ∈ u_ws C T N, w.before args s = true := fun w hw => hts w (hws w hw)
  have hKn := hK.1 ci _ hc
  refine W.newcK hx hb hown (hts _ k1) (hts _ k2) (hts _ k3) rfl hd (by omega) (by omega) hKn.2.1 hH.2.2.1 fun H1 kC hkC e1 z1 o1 => ?_
  refine kk p e R s m args below meth c A B0 Z H1 locs (cells + 1) (slots + N) ls (hH.new hA ?_ z1 o1) hl (by omega) (by omega)
  exact ⟨_, hc, (u_born (ws := u_ws C T N) ty hts1 (fun _ q => q) hKn hkC e1 hty).to hfs⟩
set_option maxHeartbeats 1000000 in
theorem VS_callI (pc : Nat) {idx : Nat} {y : MethodName} {cc1 : ByteArray} {nL1 n d1 kc1 ks1 b : Nat} {As rest : List Value} (hd : decode cc pc = .ok (.invokespecial idx, 3)) (hk : zKI own idx y cc1 nL1 n) (hn : As.length = n) (hst : st = As.reverse ++ .ref b :: rest) (hw : Nat.ble (rest.map fun v => v.category).sum 8 = true) (hdd : Nat.ble (d1 + 1) d = true)
    (hC : Cn l G y cc1 nL1 none d1 kc1 ks1 (.ref b :: As) h sz (fun r h1 sz1 => VS z l G own cc nL rt ini d kc ks Post (pc + 3) lv (r.toList ++ rest) h1 sz1)) : VS z l G own cc nL rt ini d (kc + kc1) (ks + ks1) Post pc lv st h sz := by
  intro p e R s m args below meth c A B Z H locs cells slots ls hH hl h1 h2
  have B0 := B
  obtain ⟨hx, hb, hml, hown, hts, hK, hN, hr, hlk, hin, hA, hfr, hlo⟩ := B
  obtain ⟨k1, k2, k3, k4, k5, k6, k7⟩ := hk
  have hdd' := Nat.le_of_ble_eq_true hdd
  subst hst
  have hG := zgood_in k4
  have hT : ∀ w ∈ (.code y cc1 nL1 none :: zws), w.before args s = true := fun w hw => hts w (hG w hw).w
  rcases k1 with k1 | ⟨host, k1⟩
  · refine zcall (va_runI (As := As) (rest := rest) ⟨hx, hb, hml, hown, hT⟩ hC (cwI n hT (fun w hw => ⟨hw, (hG w hw).good⟩) rfl rfl rfl (hts _ k3.w) (hts _ k1.w) (hts _ k2.w) k5 k6 ⟨Nat.le_trans hdd' hfr, by show 8 + (nL1 + 11) + 40 * d1 ≤ R.locals; omega⟩) ⟨zblind, zpre (As := .ref b :: As) hH.1 hH.2.2.1 hK hN⟩ rfl hn hl.1 rfl (lv_room (Nat.le_of_ble_eq_true hw)) hd ⟨by omega, by omega⟩) hH.2.2.2 (zA_in hH hA) (fun r h1' sz1 H1 locs1 hp hH1 => hp p e R s m args below meth c A B0 Z H1 locs1 (cells + kc1) (slots + ks1) ls hH1 hl (by omega) (by omega))
  · refine zcall (va_runIN (As := As) (rest := rest) ⟨hx, hb, hml, hown, hT⟩ hC ⟨va_cnB n hT (fun w hw => ⟨hw, (hG w hw).good⟩) rfl rfl rfl (va_Nw.of rfl (hts _ k1)) (hts _ k3.w) k6 ⟨Nat.le_trans hdd' hfr, by show 8 + (nL1 + 11) + 40 * d1 ≤ R.locals; omega⟩, k5, hts _ k2.w⟩ ⟨zblind, zpre (As := .ref b :: As) hH.1 hH.2.2.1 hK hN⟩ rfl hn hl.1 rfl (lv_room (Nat.le_of_ble_eq_true hw)) hd ⟨by omega, by omega⟩) hH.2.2.2 (zA_in hH hA) (fun r h1' sz1 H1 locs1 hp hH1 => hp p e R s m args below meth c A B0 Z H1 locs1 (cells + kc1) (slots + ks1) ls hH1 hl (by omega) (by omega))
set_option maxHeartbeats 1000000 in
theorem VS_callV (pc : Nat) {idx : Nat} {C : String} {y : MethodName} {cc1 : ByteArray} {nL1 n d1 kc1 ks1 b ci : Nat} {rt1 : Option FieldType} {As rest : List Value} {fs : List Value} {T : u_T} {N : Nat} (hd : decode cc pc = .ok (.invokevirtual idx, 3)) (hk : zKV own idx C y cc1 nL1 rt1 n) (hb1 : h b = some (ob ci fs)) (hci : vwCl[ci]? = some (C, T, N)) (hn : As.length = n) (hst : st = As.reverse ++ .ref b :: rest) (hw : Nat.ble (rest.map fun v => v.category).sum 8 = true) (hdd : Nat.ble (d1 + 1) d = true)
    (hC : Cn l G y cc1 nL1 rt1 d1 kc1 ks1 (.ref b :: As) h sz (fun r h1 sz1 => VS z l G own cc nL rt ini d kc ks Post (pc + 3) lv (r.toList ++ rest) h1 sz1)) : VS z l G own cc nL rt ini d (kc + kc1) (ks + ks1) Post pc lv st h sz := by
  intro p e R s m args below meth c A B Z H locs cells slots ls hH hl h1 h2
  have B0 := B
  obtain ⟨hx, hb, hml, hown, hts, hK, hN, hr, hlk, hin, hA, hfr, hlo⟩ := B
  obtain ⟨k1, k2, k3, k4, k5, k6, k7⟩ := hk
  have hdd' := Nat.le_of_ble_eq_true hdd
  subst hst
  have hG : ∀ w ∈ wsV own idx C y (.code y cc1 nL1 rt1 :: zws), zG1 w := by
    intro w hw
    rcases List.mem_append.mp hw with hw | hw
    · simp only [List.mem_cons, List.not_mem_nil, or_false] at hw
      rcases hw with rfl | rfl | rfl | rfl <;> assumption
    · exact zgood_in k5 w hw
  have hT : ∀ w ∈ wsV own idx C y (.code y cc1 nL1 rt1 :: zws), w.before args s = true := fun w hw => hts w (hG w hw).w
  obtain ⟨r', hr', cellB, g1, g2, g3, -⟩ := hH.1 b _ hb1
  refine zcall (va_runV (C := C) (As := As) (rest := rest) ⟨hx, hb, hml, hown, hT⟩ hC (cwV n hT (fun w hw => ⟨hw, (hG w hw).good⟩) rfl rfl rfl k6 ⟨Nat.le_trans hdd' hfr, by show 8 + (nL1 + 11) + 40 * d1 ≤ R.locals; omega⟩) ⟨zblind, ⟨cellB, g1, by rw [g3]; rfl, by rw [g2]; exact (hK.1 ci _ hci).2.1⟩, zpre (As := .ref b :: As) hH.1 hH.2.2.1 hK hN⟩ rfl hn hl.1 rfl (lv_room (Nat.le_of_ble_eq_true hw)) hd ⟨by omega, by omega⟩) hH.2.2.2 (zA_in hH hA) (fun r h1' sz1 H1 locs1 hp hH1 => hp p e R s m args below meth c A B0 Z H1 locs1 (cells + kc1) (slots + ks1) ls hH1 hl (by omega) (by omega))
theorem VS_topi {pc : Nat} {x : Int32} (y : Int32) (hy : x = y) (k : VS z l G own cc nL rt ini d kc ks Post pc lv (.int y :: st) h sz) : VS z l G own cc nL rt ini d kc ks Post pc lv (.int x :: st) h sz := by subst hy; exact k
theorem VS_topl {pc : Nat} {x : Int64} (y : Int64) (hy : x = y) (k : VS z l G own cc nL rt ini d kc ks Post pc lv (.long y :: st) h sz) : VS z l G own cc nL rt ini d kc ks Post pc lv (.long x :: st) h sz := by subst hy; exact k
theorem VS_iv0 (pc : Nat) {idx : Nat} {C : String} {y : MethodName} {cc1 : ByteArray} {nL1 d1 b ci : Nat} {rt1 : Option FieldType} {rest : List Value} {fs : List Value} {T : u_T} {N : Nat} (hd : decode cc pc = .ok (.invokevirtual idx, 3)) (hk : zKV own idx C y cc1 nL1 rt1 0) (hci : vwCl[ci]? = some (C, T, N)) (hb1 : h b = some (ob ci fs)) (hw : Nat.ble (rest.map fun v => v.category).sum 8 = true) (hdd : Nat.ble (d1 + 1) d = true) (hC : Cn l G y cc1 nL1 rt1 d1 0 0 (.ref b :: []) h sz (fun r h1 sz1 => VS z l G own cc nL rt ini d kc ks Post (pc + 3) lv (r.toList ++ rest) h1 sz1)) : VS z l G own cc nL rt ini d kc ks Post pc lv (.ref b :: rest) h sz := VS_callV (kc1 := 0) (ks1 := 0) pc (As := []) hd hk hb1 hci rfl rfl hw hdd hC
theorem VS_iv1 (pc : Nat) {idx : Nat} {C : String} {y : MethodName} {cc1 : ByteArray} {nL1 d1 b ci : Nat} {rt1 : Option FieldType} {v1 : Value} {rest : List Value} {fs : List Value} {T : u_T} {N : Nat} (hd : decode cc pc = .ok (.invokevirtual idx, 3)) (hk : zKV own idx C y cc1 nL1 rt1 1) (hci : vwCl[ci]? = some (C, T, N)) (hb1 : h b = some (ob ci fs)) (hw : Nat.ble (rest.map fun v => v.category).sum 8 = true) (hdd : Nat.ble (d1 + 1) d = true) (hC : Cn l G y cc1 nL1 rt1 d1 0 0 (.ref b :: [v1]) h sz (fun r h1 sz1 => VS z l G own cc nL rt ini d kc ks Post (pc + 3) lv (r.toList ++ rest) h1 sz1)) : VS z l G own cc nL rt ini d kc ks Post pc lv (v1 :: .ref b :: rest) h sz := VS_callV (kc1 := 0) (ks1 := 0) pc (As := [v1]) hd hk hb1 hci rfl rfl hw hdd hC
theorem VS_iv2 (pc : Nat) {idx : Nat} {C : String} {y : MethodName} {cc1 : ByteArray} {nL1 d1 b ci : Nat} {rt1 : Option FieldType} {v1 v2 : Value} {rest : List Value} {fs : List Value} {T : u_T} {N : Nat} (hd : decode cc pc = .ok (.invokevirtual idx, 3)) (hk : zKV own idx C y cc1 nL1 rt1 2) (hci : vwCl[ci]? = some (C, T, N)) (hb1 : h b = some (ob ci fs)) (hw : Nat.ble (rest.map fun v => v.category).sum 8 = true) (hdd : Nat.ble (d1 + 1) d = true) (hC : Cn l G y cc1 nL1 rt1 d1 0 0 (.ref b :: [v1, v2]) h sz (fun r h1 sz1 => VS z l G own cc nL rt ini d kc ks Post (pc + 3) lv (r.toList ++ rest) h1 sz1)) : VS z l G own cc nL rt ini d kc ks Post pc lv (v2 :: v1 :: .ref b :: rest) h sz := VS_callV (kc1 := 0) (ks1 := 0) pc (As := [v1, v2]) hd hk hb1 hci rfl rfl hw hdd hC
theorem VS_iv3 (pc : Nat) {idx : Nat} {C : String} {y : MethodName} {cc1 : ByteArray} {nL1 d1 b ci : Nat} {rt1 : Option FieldType} {v1 v2 v3 : Value} {rest : List Value} {fs : List Value} {T : u_T} {N : Nat} (hd : decode cc pc = .ok (.invokevirtual idx, 3)) (hk : zKV own idx C y cc1 nL1 rt1 3) (hci : vwCl[ci]? = some (C, T, N)) (hb1 : h b = some (ob ci fs)) (hw : Nat.ble (rest.map fun v => v.category).sum 8 = true) (hdd : Nat.ble (d1 + 1) d = true) (hC : Cn l G y cc1 nL1 rt1 d1 0 0 (.ref b :: [v1, v2, v3]) h sz (fun r h1 sz1 => VS z l G own cc nL rt ini d kc ks Post (pc + 3) lv (r.toList ++ rest) h1 sz1)) : VS z l G own cc nL rt ini d kc ks Post pc lv (v3 :: v2 :: v1 :: .ref b :: rest) h sz := VS_callV (kc1 := 0) (ks1 := 0) pc (As := [v1, v2, v3]) hd hk hb1 hci rfl rfl hw hdd hC
theorem VS_iv4 (pc : Nat) {idx : Nat} {C : String} {y : MethodName} {cc1 : ByteArray} {nL1 d1 b ci : Nat} {rt1 : Option FieldType} {v1 v2 v3 v4 : Value} {rest : List Value} {fs : List Value} {T : u_T} {N : Nat} (hd : decode cc pc = .ok (.invokevirtual idx, 3)) (hk : zKV own idx C y cc1 nL1 rt1 4) (hci : vwCl[ci]? = some (C, T, N)) (hb1 : h b = some (ob ci fs)) (hw : Nat.ble (rest.map fun v => v.category).sum 8 = true) (hdd : Nat.ble (d1 + 1) d = true) (hC : Cn l G y cc1 nL1 rt1 d1 0 0 (.ref b :: [v1, v2, v3, v4]) h sz (fun r h1 sz1 => VS z l G own cc nL rt ini d kc ks Post (pc + 3) lv (r.toList ++ rest) h1 sz1)) : VS z l G own cc nL rt ini d kc ks Post pc lv (v4 :: v3 :: v2 :: v1 :: .ref b :: rest) h sz := VS_callV (kc1 := 0) (ks1 := 0) pc (As := [v1, v2, v3, v4]) hd hk hb1 hci rfl rfl hw hdd hC
end M50
