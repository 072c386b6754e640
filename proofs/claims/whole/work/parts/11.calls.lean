def zG1 (w : Cond) : Prop := w ∈ lw_tbl ∧ goodWord w = true
theorem zG1.w {w : Cond} (h : zG1 w) : zW w := ⟨h.1, by rw [h.2]; rfl⟩
theorem zG1.at {w : Cond} (i : Nat) (h : lw_tbl[i]? = some w) (h2 : goodWord w = true) : zG1 w := ⟨List.mem_of_getElem? h, h2⟩
theorem zG1.good {w : Cond} (h : zG1 w) : (w.onTables && w.keeps) = true ∨ ∃ ty, w = .arrayClass ty := good_of_word h.2
theorem zgood_in {w0 : Cond} (hc : zG1 w0) : ∀ w ∈ (w0 :: zws), zG1 w := by
  intro w hw
  rcases List.mem_cons.mp hw with rfl | hw
  · exact hc
  · exact List.mem_filter.mp hw
/-- what an allocation needs -/
def zNw (own : String) (idx ci N : Nat) (fs : List Value) : Prop := ∃ (C : String) (T : u_T) (ty : Nat → FieldType), zCls ci C T N ∧ (∀ k, k < N → parseFieldDescriptor (T k).2.2.1 = some (ty k)) ∧ zW (.classLink own idx C) ∧ zW (.instantiable C N) ∧ zW (.initialized C) ∧ (∀ j, j < N → defaultValue (ty j) = vp_V fs j)
/-- a call site -/
def zKV (own : String) (idx : Nat) (C : String) (y : MethodName) (cc : ByteArray) (nL : Nat) (rt : Option FieldType) (n : Nat) : Prop :=
  zG1 (.methodLink own idx y) ∧ zG1 (.instanceMethod y) ∧ zG1 (.selects C y y) ∧ zG1 (.initialized C) ∧ zG1 (.code y cc nL rt) ∧ (y.cls = C ∧ y.cls ≠ "java/lang/invoke/MethodHandle" ∧ y.cls ≠ "java/lang/invoke/VarHandle" ∧ (parseMethodDescriptor y.desc).map (fun d => d.parameters.length) = some n) ∧ nL ≤ 21
def zKS (own : String) (idx : Nat) (y : MethodName) (cc : ByteArray) (nL : Nat) (rt : Option FieldType) (n : Nat) : Prop :=
  (zG1 (.methodLink own idx y) ∨ ∃ host, zW (.methodLinkNest own idx y host)) ∧ zG1 (.static y) ∧ zG1 (.initialized y.cls) ∧ zG1 (.code y cc nL rt) ∧ (y.cls ≠ "java/lang/invoke/MethodHandle" ∧ y.cls ≠ "java/lang/invoke/VarHandle" ∧ (parseMethodDescriptor y.desc).map (fun d => d.parameters.length) = some n) ∧ nL ≤ 21
def zKI (own : String) (idx : Nat) (y : MethodName) (cc : ByteArray) (nL : Nat) (n : Nat) : Prop :=
  (zG1 (.methodLink own idx y) ∨ ∃ host, zW (.methodLinkNest own idx y host)) ∧ zG1 (.instanceMethod y) ∧ zG1 (.initialized y.cls) ∧ zG1 (.code y cc nL none) ∧ y.name = "<init>" ∧ (y.cls ≠ "java/lang/invoke/MethodHandle" ∧ y.cls ≠ "java/lang/invoke/VarHandle" ∧ (parseMethodDescriptor y.desc).map (fun d => d.parameters.length) = some n) ∧ nL ≤ 21
section ZC
variable {p : Program} {l : Launch} {e : Env} {R : Room} {s : State} {m : MethodId} {args : Array Value} {below : List Frame} {meth : Method} {c : Code} {H : Heap} {locs : List Loc} {cells slots : Nat} {Q : State → Prop}
theorem zcall {G : zGT} {P1 : Option Value → hpT → Nat → Prop} {A A1 : Nat → Prop} {mc ms pc : Nat} {ls : Array Slot} {st0 rest : List Value} {a : Array Value} (hr : va_Run p l e R s m args below meth c H locs cells slots mc ms (F0 m pc ls st0) rest (zQ G P1 A1 a) A1) (hS : va_S A s.heap H locs) (hA : ∀ q, A1 q → A q)
    (kk : ∀ (r : Option Value) (h1 : hpT) (sz1 : Nat) (H1 : Heap) (locs1 : List Loc), P1 r h1 sz1 → zH G h1 sz1 A s H1 locs1 → W p l e R s m args below meth c H1 locs1 (cells + mc) (slots + ms) Q (F0 m (pc + 3) ls (r.toList ++ rest))) : W p l e R s m args below meth c H locs cells slots Q (F0 m pc ls st0) := by
  intro T hT X
  obtain ⟨v, st₀, t, T', L, h0, X', hL, e1, e2, ⟨r, h1, sz1, hv, hp, hP, hA1, hsz, hz, hk⟩, st⟩ := hr T hT X
  cases hv
  rw [h0] at hz hk
  obtain ⟨t2, a1, b1⟩ := kk v h1 sz1 T'.heap (locs ++ L) hp ⟨by rw [e1]; exact hP, fun a x ha => hA a (hA1 a x ha), by rw [e1]; exact hsz, Nat.le_trans hS.1 (by rw [e1]; exact hz), fun q g1 g2 => by
      rw [e1, hk q (Nat.lt_of_lt_of_le g1 hS.1) (fun z => g2 (hA q z))]
      exact hS.2.1 q g1 g2, fun q hq => by
      rcases List.mem_append.mp hq with h | h
      · exact hS.2.2 q h
      · exact hA _ (hL q h)⟩ T' rfl X'
  exact ⟨t2, st t2 a1, b1⟩
theorem zblind {G : zGT} {As : List Value} {h : hpT} {sz : Nat} : FrameBlind (va_Pc As (fun U => zP G h U.heap ∧ U.heap.size = sz ∧ va_K G.1 vwCl (ztys G) U ∧ zNF U)) := fun a U g mk q => by
  obtain ⟨q0, q1, q2, q3, q4⟩ := q
  exact ⟨q0, q1, q2, va_K.moved (u := U) (U := U.calling g mk a) (Vm.Alike.refl U.vm) q3, zNF.same (u := U) (U := U.calling g mk a) rfl q4⟩
theorem zpre {G : zGT} {As : List Value} {h : hpT} {sz : Nat} (hP : zP G h H) (hsz : H.size = sz) (hK : va_K G.1 vwCl (ztys G) s) (hN : zNF s) : ∀ U : State, U.heap = H → s.WarmedH U.vm → va_Pc As (fun U => zP G h U.heap ∧ U.heap.size = sz ∧ va_K G.1 vwCl (ztys G) U ∧ zNF U) As.toArray U := fun U hU hW => ⟨rfl, by rw [hU]; exact hP, by rw [hU]; exact hsz, va_K.moved hW.alike hK, hN.warm hW⟩
theorem zA_in {G : zGT} {h : hpT} {sz : Nat} {A : Nat → Prop} {H : Heap} {locs : List Loc} (hH : zH G h sz A s H locs) (hA : ∀ q, s.heap.size ≤ q → A q) : ∀ q, zA h sz q → A q := by
  rintro q (⟨x, hx⟩ | hq)
  · exact hH.2.1 q x hx
  · refine hA q (Nat.le_trans hH.2.2.2.1 ?_)
    rw [hH.2.2.1]
    exact hq
end ZC
section VC
variable {l : Launch} {G : zGT} {own : String} {cc : ByteArray} {nL : Nat} {rt : Option FieldType} {ini : Bool} {d kc ks : Nat} {Post : Option Value → hpT → Nat → Prop} {lv : List (Option Value)} {st : List Value} {h : hpT} {sz : Nat}
set_option maxHeartbeats 1000000 in
theorem V_callV (pc : Nat) {idx : Nat} {C : String} {y : MethodName} {cc1 : ByteArray} {nL1 n d1 kc1 ks1 b ci : Nat} {rt1 : Option FieldType} {As rest : List Value} {fs : List Value} {T : u_T} {N : Nat} (hd : decode cc pc = .ok (.invokevirtual idx, 3)) (hk : zKV own idx C y cc1 nL1 rt1 n) (hb1 : h b = some (ob ci fs)) (hci : vwCl[ci]? = some (C, T, N)) (hn : As.length = n) (hst : st = As.reverse ++ .ref b :: rest) (hw : Nat.ble (rest.map fun v => v.category).sum 8 = true) (hdd : Nat.ble (d1 + 1) d = true)
    (hC : Cn l G y cc1 nL1 rt1 d1 kc1 ks1 (.ref b :: As) h sz (fun r h1 sz1 => V l G own cc nL rt ini d kc ks Post (pc + 3) lv (r.toList ++ rest) h1 sz1)) : V l G own cc nL rt ini d (kc + kc1) (ks + ks1) Post pc lv st h sz := by
  intro p e R s m args below meth c A B H locs cells slots ls hH hl h1 h2
  have B0 := B
  obtain ⟨hx, hb, hml, hown, hts, hK, hN, hr, hlk, hin, hA, hfr, hlo⟩ := B
  obtain ⟨k1, k2, k3, k4, k5, k6, k7⟩ := hk
  have hdd' := Nat.le_of_ble_eq_true hdd
  subst hst
  have hG : ∀ w ∈ wsV own idx C y (.code y cc1 nL1 rt1 :: zws), zG1 w := by
    intro w hw
    rcases List.mem_append.mp hw with hw | hw
    · simp only [List.mem_cons, List.not_mem_nil, or_false] at hw
      rcases hw with rfl | rfl | rfl | rfl <;> assumption
    · exact zgood_in k5 w hw
  have hT : ∀ w ∈ wsV own idx C y (.code y cc1 nL1 rt1 :: zws), w.before args s = true := fun w hw => hts w (hG w hw).w
  obtain ⟨r', hr', cellB, g1, g2, g3, -⟩ := hH.1 b _ hb1
  refine zcall (va_runV (C := C) (As := As) (rest := rest) ⟨hx, hb, hml, hown, hT⟩ hC (cwV n hT (fun w hw => ⟨hw, (hG w hw).good⟩) rfl rfl rfl k6 ⟨Nat.le_trans hdd' hfr, by show 8 + (nL1 + 11) + 40 * d1 ≤ R.locals; omega⟩) ⟨zblind, ⟨cellB, g1, by rw [g3]; rfl, by rw [g2]; exact (hK.1 ci _ hci).2.1⟩, zpre (As := .ref b :: As) hH.1 hH.2.2.1 hK hN⟩ rfl hn hl.1 rfl (lv_room (Nat.le_of_ble_eq_true hw)) hd ⟨by omega, by omega⟩) hH.2.2.2 (zA_in hH hA) (fun r h1' sz1 H1 locs1 hp hH1 => hp p e R s m args below meth c A B0 H1 locs1 (cells + kc1) (slots + ks1) ls hH1 hl (by omega) (by omega))
set_option maxHeartbeats 1000000 in
theorem V_callS (pc : Nat) {idx : Nat} {y : MethodName} {cc1 : ByteArray} {nL1 n d1 kc1 ks1 : Nat} {rt1 : Option FieldType} {As rest : List Value} (hd : decode cc pc = .ok (.invokestatic idx, 3)) (hk : zKS own idx y cc1 nL1 rt1 n) (hn : As.length = n) (hst : st = As.reverse ++ rest) (hw : Nat.ble (rest.map fun v => v.category).sum 8 = true) (hdd : Nat.ble (d1 + 1) d = true)
    (hC : Cn l G y cc1 nL1 rt1 d1 kc1 ks1 As h sz (fun r h1 sz1 => V l G own cc nL rt ini d kc ks Post (pc + 3) lv (r.toList ++ rest) h1 sz1)) : V l G own cc nL rt ini d (kc + kc1) (ks + ks1) Post pc lv st h sz := by
  intro p e R s m args below meth c A B H locs cells slots ls hH hl h1 h2
  have B0 := B
  obtain ⟨hx, hb, hml, hown, hts, hK, hN, hr, hlk, hin, hA, hfr, hlo⟩ := B
  obtain ⟨k1, k2, k3, k4, k5, k6⟩ := hk
  have hdd' := Nat.le_of_ble_eq_true hdd
  subst hst
  have hG := zgood_in k4
  have hT : ∀ w ∈ (.code y cc1 nL1 rt1 :: zws), w.before args s = true := fun w hw => hts w (hG w hw).w
  rcases k1 with k1 | ⟨host, k1⟩
  · refine zcall (va_runS (As := As) (rest := rest) ⟨hx, hb, hml, hown, hT⟩ hC ⟨callB_of n hT (fun w hw => ⟨hw, (hG w hw).good⟩) rfl rfl rfl (hts _ k3.w) (hts _ k1.w) k5 ⟨Nat.le_trans hdd' hfr, by show 8 + (nL1 + 11) + 40 * d1 ≤ R.locals; omega⟩, hts _ k2.w⟩ ⟨zblind, zpre (As := As) hH.1 hH.2.2.1 hK hN⟩ rfl hn hl.1 rfl (lv_room (Nat.le_of_ble_eq_true hw)) hd ⟨by omega, by omega⟩) hH.2.2.2 (zA_in hH hA) (fun r h1' sz1 H1 locs1 hp hH1 => hp p e R s m args below meth c A B0 H1 locs1 (cells + kc1) (slots + ks1) ls hH1 hl (by omega) (by omega))
  · refine zcall (va_runSN (As := As) (rest := rest) ⟨hx, hb, hml, hown, hT⟩ hC ⟨va_cnB n hT (fun w hw => ⟨hw, (hG w hw).good⟩) rfl rfl rfl (va_Nw.of rfl (hts _ k1)) (hts _ k3.w) k5 ⟨Nat.le_trans hdd' hfr, by show 8 + (nL1 + 11) + 40 * d1 ≤ R.locals; omega⟩, hts _ k2.w, trivial⟩ ⟨zblind, zpre (As := As) hH.1 hH.2.2.1 hK hN⟩ rfl hn hl.1 rfl (lv_room (Nat.le_of_ble_eq_true hw)) hd ⟨by omega, by omega⟩) hH.2.2.2 (zA_in hH hA) (fun r h1' sz1 H1 locs1 hp hH1 => hp p e R s m args below meth c A B0 H1 locs1 (cells + kc1) (slots + ks1) ls hH1 hl (by omega) (by omega))
set_option maxHeartbeats 1000000 in
theorem V_callI (pc : Nat) {idx : Nat} {y : MethodName} {cc1 : ByteArray} {nL1 n d1 kc1 ks1 b : Nat} {As rest : List Value} (hd : decode cc pc = .ok (.invokespecial idx, 3)) (hk : zKI own idx y cc1 nL1 n) (hn : As.length = n) (hst : st = As.reverse ++ .ref b :: rest) (hw : Nat.ble (rest.map fun v => v.category).sum 8 = true) (hdd : Nat.ble (d1 + 1) d = true)
    (hC : Cn l G y cc1 nL1 none d1 kc1 ks1 (.ref b :: As) h sz (fun r h1 sz1 => V l G own cc nL rt ini d kc ks Post (pc + 3) lv (r.toList ++ rest) h1 sz1)) : V l G own cc nL rt ini d (kc + kc1) (ks + ks1) Post pc lv st h sz := by
  intro p e R s m args below meth c A B H locs cells slots ls hH hl h1 h2
  have B0 := B
  obtain ⟨hx, hb, hml, hown, hts, hK, hN, hr, hlk, hin, hA, hfr, hlo⟩ := B
  obtain ⟨k1, k2, k3, k4, k5, k6, k7⟩ := hk
  have hdd' := Nat.le_of_ble_eq_true hdd
  subst hst
  have hG := zgood_in k4
  have hT : ∀ w ∈ (.code y cc1 nL1 none :: zws), w.before args s = true := fun w hw => hts w (hG w hw).w
  rcases k1 with k1 | ⟨host, k1⟩
  · refine zcall (va_runI (As := As) (rest := rest) ⟨hx, hb, hml, hown, hT⟩ hC (cwI n hT (fun w hw => ⟨hw, (hG w hw).good⟩) rfl rfl rfl (hts _ k3.w) (hts _ k1.w) (hts _ k2.w) k5 k6 ⟨Nat.le_trans hdd' hfr, by show 8 + (nL1 + 11) + 40 * d1 ≤ R.locals; omega⟩) ⟨zblind, zpre (As := .ref b :: As) hH.1 hH.2.2.1 hK hN⟩ rfl hn hl.1 rfl (lv_room (Nat.le_of_ble_eq_true hw)) hd ⟨by omega, by omega⟩) hH.2.2.2 (zA_in hH hA) (fun r h1' sz1 H1 locs1 hp hH1 => hp p e R s m args below meth c A B0 H1 locs1 (cells + kc1) (slots + ks1) ls hH1 hl (by omega) (by omega))
  · refine zcall (va_runIN (As := As) (rest := rest) ⟨hx, hb, hml, hown, hT⟩ hC ⟨va_cnB n hT (fun w hw => ⟨hw, (hG w hw).good⟩) rfl rfl rfl (va_Nw.of rfl (hts _ k1)) (hts _ k3.w) k6 ⟨Nat.le_trans hdd' hfr, by show 8 + (nL1 + 11) + 40 * d1 ≤ R.locals; omega⟩, k5, hts _ k2.w⟩ ⟨zblind, zpre (As := .ref b :: As) hH.1 hH.2.2.1 hK hN⟩ rfl hn hl.1 rfl (lv_room (Nat.le_of_ble_eq_true hw)) hd ⟨by omega, by omega⟩) hH.2.2.2 (zA_in hH hA) (fun r h1' sz1 H1 locs1 hp hH1 => hp p e R s m args below meth c A B0 H1 locs1 (cells + kc1) (slots + ks1) ls hH1 hl (by omega) (by omega))
theorem V_obj (pc : Nat) {idx a : Nat} (hd : decode cc pc = .ok (.invokespecial idx, 3)) (k1 : zW (.methodLink own idx objectInit)) (k2 : zW (.instanceMethod objectInit)) (k3 : zW (.code objectInit ⟨#[0xb1]⟩ 1 none)) (hd1 : Nat.ble 1 d = true) (hw : Nat.ble (st.map fun v => v.category).sum 8 = true) (kk : V l G own cc nL rt ini d kc ks Post (pc + 3) lv st h sz) : V l G own cc nL rt ini d kc ks Post pc lv (.ref a :: st) h sz := by
  intro p e R s m args below meth c A B H locs cells slots ls hH hl h1 h2
  have K := kk p e R s m args below meth c A B H locs cells slots ls hH hl h1 h2
  obtain ⟨hx, hb, hml, hown, hts, hK, hN, hr, hlk, hin, hA, hfr, hlo⟩ := B
  have hd1' := Nat.le_of_ble_eq_true hd1
  have hw' := Nat.le_of_ble_eq_true hw
  exact W.objInit hx hb hown (hts _ k1) (hts _ k2) (hts _ k3) rfl (by rw [hml]; exact hl.1) rfl hd (Nat.le_trans hd1' hfr) (by show 2 * 0 + _ + 12 ≤ _; omega) K
set_option maxHeartbeats 1000000 in
theorem V_new (pc : Nat) {idx ci N : Nat} {fs : List Value} (hd : decode cc pc = .ok (.new idx, 3)) (hk : zNw own idx ci N fs) (kk : V l G own cc nL rt ini d kc ks Post (pc + 3) lv (.ref sz :: st) (hpS h sz (ob ci fs)) (sz + 1)) : V l G own cc nL rt ini d (kc + 1) (ks + N) Post pc lv st h sz := by
  intro p e R s m args below meth c A B H locs cells slots ls hH hl h1 h2
  obtain ⟨C, T, ty, ⟨hc, hws, -, -⟩, hty, k1, k2, k3, hfs⟩ := hk
  have B0 := B
  obtain ⟨hx, hb, hml, hown, hts, hK, hN, hr, hlk, hin, hA, hfr, hlo⟩ := B
  have hts1 : ∀ w ∈ u_ws C T N, w.before args s = true := fun w hw => hts w (hws w hw)
  have hKn := hK.1 ci _ hc
  refine W.newcK hx hb hown (hts _ k1) (hts _ k2) (hts _ k3) rfl hd (by omega) (by omega) hKn.2.1 hH.2.2.1 fun H1 kC hkC e1 z1 o1 => ?_
  refine kk p e R s m args below meth c A B0 H1 locs (cells + 1) (slots + N) ls (hH.new hA ?_ z1 o1) hl (by omega) (by omega)
  exact ⟨_, hc, (u_born (ws := u_ws C T N) ty hts1 (fun _ q => q) hKn hkC e1 hty).to hfs⟩
set_option maxHeartbeats 1000000 in
theorem V_newI (pc : Nat) {n : Int32} (N : Nat) (hd : decode cc pc = .ok (.newarray .int, 2)) (hk : zW (.arrayClass .int)) (hn : ¬ n < 0) (hN : n.toNatClampNeg = N) (hbig : Nat.ble N 100000 = true) (kk : V l G own cc nL rt ini d kc ks Post (pc + 2) lv (.ref sz :: st) (hpS h sz (aI G N (fun _ => 0))) (sz + 1)) : V l G own cc nL rt ini d (kc + 1) (ks + N) Post pc lv (.int n :: st) h sz := by
  intro p e R s m args below meth c A B H locs cells slots ls hH hl h1 h2
  have B0 := B
  obtain ⟨hx, hb, hml, hown, hts, hK, hN2, hr, hlk, hin, hA, hfr, hlo⟩ := B
  have hbig' := Nat.le_of_ble_eq_true hbig
  refine va_newaK (atype := .int) hx hb (hts _ hk) rfl hd rfl hn hN (by show N * 4 ≤ _; omega) (by omega) (by omega) hH.2.2.1 fun H1 cA e1 z1 o1 hAr hNm => ?_
  have hcA : cA = G.2.1 := Option.some.inj (hNm.symm.trans ((hK.2 0 _ rfl).2))
  subst hcA
  exact kk p e R s m args below meth c A B0 H1 locs (cells + 1) (slots + N) ls (hH.new hA e1 z1 o1) hl (by omega) (by omega)
set_option maxHeartbeats 1000000 in
theorem V_newJ (pc : Nat) {n : Int32} (N : Nat) (hd : decode cc pc = .ok (.newarray .long, 2)) (hk : zW (.arrayClass .long)) (hn : ¬ n < 0) (hN : n.toNatClampNeg = N) (hbig : Nat.ble N 100000 = true) (kk : V l G own cc nL rt ini d kc ks Post (pc + 2) lv (.ref sz :: st) (hpS h sz (aJ G N (fun _ => 0))) (sz + 1)) : V l G own cc nL rt ini d (kc + 1) (ks + N) Post pc lv (.int n :: st) h sz := by
  intro p e R s m args below meth c A B H locs cells slots ls hH hl h1 h2
  have B0 := B
  obtain ⟨hx, hb, hml, hown, hts, hK, hN2, hr, hlk, hin, hA, hfr, hlo⟩ := B
  have hbig' := Nat.le_of_ble_eq_true hbig
  refine va_newaK (atype := .long) hx hb (hts _ hk) rfl hd rfl hn hN (by show N * 8 ≤ _; omega) (by omega) (by omega) hH.2.2.1 fun H1 cA e1 z1 o1 hAr hNm => ?_
  have hcA : cA = G.2.2.1 := Option.some.inj (hNm.symm.trans ((hK.2 1 _ rfl).2))
  subst hcA
  exact kk p e R s m args below meth c A B0 H1 locs (cells + 1) (slots + N) ls (hH.new hA e1 z1 o1) hl (by omega) (by omega)
set_option maxHeartbeats 1000000 in
theorem V_newR (pc : Nat) {idx : Nat} {n : Int32} (N : Nat) (hd : decode cc pc = .ok (.anewarray idx, 3)) (hk : zW (.classLink own idx RX0)) (hn : ¬ n < 0) (hN : n.toNatClampNeg = N) (hbig : Nat.ble N 100000 = true) (kk : V l G own cc nL rt ini d kc ks Post (pc + 3) lv (.ref sz :: st) (hpS h sz (aR G N (fun _ => none))) (sz + 1)) : V l G own cc nL rt ini d (kc + 1) (ks + N) Post pc lv (.int n :: st) h sz := by
  intro p e R s m args below meth c A B H locs cells slots ls hH hl h1 h2
  have B0 := B
  obtain ⟨hx, hb, hml, hown, hts, hK, hN2, hr, hlk, hin, hA, hfr, hlo⟩ := B
  have hbig' := Nat.le_of_ble_eq_true hbig
  subst hN
  refine W.anew hx hb hown (hts _ hk) (va_AO.use hN2.2) rfl hd rfl hn (by omega) (by omega) (by omega) fun cA kA comp f1 f2 f3 f4 => ?_
  have hcA : cA = G.2.2.2 := by
    obtain ⟨_, _, -, -, -, g4⟩ := (hK.2 2 _ rfl).2
    exact Option.some.inj (f1.symm.trans g4)
  subst hcA
  have hsz := hH.2.2.1
  generalize hH1 : H.push ({ cls := G.2.2.2, slots := Array.replicate n.toNatClampNeg .null, vm := .none } : Cell) = H1
  have z1 : H1.size = H.size + 1 := by rw [← hH1, Array.size_push]
  have e1 : H1[H.size]? = some (arrV G.2.2.2 n.toNatClampNeg (fun _ => .null)) := by rw [← hH1, Array.getElem?_push_size, ← arrV_new]
  have o1 : ∀ q : Nat, q < H.size → H1[q]? = H[q]? := fun q hq => by rw [← hH1, Array.getElem?_push, if_neg (Nat.ne_of_lt hq)]
  rw [hsz] at z1 e1 o1 ⊢
  exact kk p e R s m args below meth c A B0 H1 locs (cells + 1) (slots + n.toNatClampNeg) ls (hH.new hA e1 z1 o1) hl (by omega) (by omega)
theorem V_max (pc : Nat) {idx : Nat} {x y : Int32} (hd : decode cc pc = .ok (.invokestatic idx, 3)) (k1 : zW (.methodLink own idx Lib.Math.max.name)) (k2 : zW (.static Lib.Math.max.name)) (k3 : zW (.initialized "java/lang/Math")) (k4 : zW (.code Lib.Math.max.name Lib.Math.max.code 2 (some .int))) (hd1 : Nat.ble 1 d = true) (hw : Nat.ble (st.map fun v => v.category).sum 8 = true) (kk : V l G own cc nL rt ini d kc ks Post (pc + 3) lv (.int (if x < y then y else x) :: st) h sz) : V l G own cc nL rt ini d kc ks Post pc lv (.int y :: .int x :: st) h sz := by
  intro p e R s m args below meth c A B H locs cells slots ls hH hl h1 h2
  have K := kk p e R s m args below meth c A B H locs cells slots ls hH hl h1 h2
  obtain ⟨hx, hb, hml, hown, hts, hK, hN, hr, hlk, hin, hA, hfr, hlo⟩ := B
  have hd1' := Nat.le_of_ble_eq_true hd1
  have hw' := Nat.le_of_ble_eq_true hw
  exact va_mmax hx hb (by rw [hml]; exact hl.1.symm) hown (hts _ k1) (hts _ k2) (hts _ k3) (hts _ k4) (Nat.le_trans hd1' hfr) (by omega) (by omega) (by omega) hd K
theorem V_min (pc : Nat) {idx : Nat} {x y : Int32} (hd : decode cc pc = .ok (.invokestatic idx, 3)) (k1 : zW (.methodLink own idx Lib.Math.min.name)) (k2 : zW (.static Lib.Math.min.name)) (k3 : zW (.initialized "java/lang/Math")) (k4 : zW (.code Lib.Math.min.name Lib.Math.min.code 2 (some .int))) (hd1 : Nat.ble 1 d = true) (hw : Nat.ble (st.map fun v => v.category).sum 8 = true) (kk : V l G own cc nL rt ini d kc ks Post (pc + 3) lv (.int (if y < x then y else x) :: st) h sz) : V l G own cc nL rt ini d kc ks Post pc lv (.int y :: .int x :: st) h sz := by
  intro p e R s m args below meth c A B H locs cells slots ls hH hl h1 h2
  have K := kk p e R s m args below meth c A B H locs cells slots ls hH hl h1 h2
  obtain ⟨hx, hb, hml, hown, hts, hK, hN, hr, hlk, hin, hA, hfr, hlo⟩ := B
  have hd1' := Nat.le_of_ble_eq_true hd1
  have hw' := Nat.le_of_ble_eq_true hw
  exact va_mmin hx hb (by rw [hml]; exact hl.1.symm) hown (hts _ k1) (hts _ k2) (hts _ k3) (hts _ k4) (Nat.le_trans hd1' hfr) (by omega) (by omega) (by omega) hd K
set_option maxHeartbeats 2000000 in
/-- System.arraycopy of ints -/
theorem V_copy (pc : Nat) {idx a a0 n0 n1 : Nat} {f g : Nat → Int32} {sp dp n : Int32} (hd : decode cc pc = .ok (.invokestatic idx, 3)) (k1 : zW (.methodLink own idx arraycopyName)) (k2 : zW (.native arraycopyName)) (k3 : zW (.static arraycopyName)) (k4 : zW (.initialized "java/lang/System")) (hd1 : Nat.ble 1 d = true) (hw : Nat.ble ((st.map fun v => v.category).sum + (nativeFrameWords "java/lang/System" "arraycopy" 5 + 11)) 40 = true) (ha0 : h a0 = some (aI G n0 f)) (ha : h a = some (aI G n1 g)) (c1 : ¬ sp < 0) (c2 : ¬ dp < 0) (c3 : ¬ n < 0) (c4 : sp.toNatClampNeg + n.toNatClampNeg ≤ n0) (c5 : dp.toNatClampNeg + n.toNatClampNeg ≤ n1) (kk : V l G own cc nL rt ini d kc ks Post (pc + 3) lv st (hpS h a (aI G n1 (va_cpy f g sp.toNatClampNeg dp.toNatClampNeg n.toNatClampNeg))) sz) : V l G own cc nL rt ini d kc ks Post pc lv (.int n :: .int dp :: .ref a :: .int sp :: .ref a0 :: st) h sz := by
  intro p e R s m args below meth c A B H locs cells slots ls hH hl h1 h2
  have B0 := B
  obtain ⟨hx, hb, hml, hown, hts, hK, hN, hr, hlk, hin, hA, hfr, hlo⟩ := B
  have hd1' := Nat.le_of_ble_eq_true hd1
  have hw' := Nat.le_of_ble_eq_true hw
  have nn : ∀ z : Int32, ¬ z < 0 → z.toInt = (z.toNatClampNeg : Int) := by
    intro z hz
    have hz0 : (0 : Int) ≤ z.toInt := by simpa using Int32.le_iff_toInt_le.mp (Int32.not_lt.mp hz)
    show z.toInt = ((z.toInt.toNat : Nat) : Int)
    omega
  intro T hT X
  have hc0 : H[a0]? = some (vp_cell G.2.1 (n0, .inl f)) := hH.1 a0 _ ha0
  have hc1 : H[a]? = some (vp_cell G.2.1 (n1, .inl g)) := hH.1 a _ ha
  obtain ⟨-, kA, hkA, cmA, hkkA⟩ := (hK.2 0 _ rfl).1 n0 (fun j => .int (f j))
  obtain ⟨vm', X', step⟩ := X.arraycopy hx hown (hts _ k1) (hts _ k2) (hts _ k3) (hts _ k4) (src := a0) (dst := a) (cs := vp_cell G.2.1 (n0, .inl f)) (cd := vp_cell G.2.1 (n1, .inl g)) (srcPos := sp) (destPos := dp) (n := n) (by rw [hT]; exact hc0) (by rw [hT]; exact hc1)
    (fun _ q => by cases q) (fun _ q => by cases q) (fun q => by cases q) (fun q => by cases q) hkA hkA hkkA hkkA (by simp [refKind]) c1 c2 c3
    (by rw [nn sp c1, nn n c3]; show ¬ _ > ((arrV G.2.1 n0 (fun j => .int (f j))).slots.size : Int); rw [arrV_size]; omega)
    (by rw [nn dp c2, nn n c3]; show ¬ _ > ((arrV G.2.1 n1 (fun j => .int (g j))).slots.size : Int); rw [arrV_size]; omega)
    (fun vm₁ _ i hi => by
      have e0 : (vp_cell G.2.1 (n0, .inl f)).slots.getD (sp.toNatClampNeg + i) .null = .int (f (sp.toNatClampNeg + i)) := by
        show (arrV G.2.1 n0 (fun j => .int (f j))).slots.getD _ _ = _
        rw [Array.getD_eq_getD_getElem?, arrV_read _ _ (by omega)]
        rfl
      rw [e0]
      exact ⟨rfl, trivial⟩)
    (g := F0 m pc ls (.int n :: .int dp :: .ref a :: .int sp :: .ref a0 :: st)) rfl (by rw [hml]; exact hl.1) (rest := st) rfl (by rw [hb]; exact hd) (Nat.le_trans hd1' hfr) (by show 2 * 0 + _ + _ ≤ _; omega)
  have e1 : copied (vp_cell G.2.1 (n0, .inl f)) (vp_cell G.2.1 (n1, .inl g)) sp dp n = vp_cell G.2.1 (n1, .inl (va_cpy f g sp.toNatClampNeg dp.toNatClampNeg n.toNatClampNeg)) := va_copied (fun z => .int z) G.2.1 G.2.1 f g c4
  rw [e1] at X' step
  have hlt : a < H.size := (Array.getElem?_eq_some_iff.mp hc1).1
  generalize hcl : vp_cell G.2.1 (n1, .inl (va_cpy f g sp.toNatClampNeg dp.toNatClampNeg n.toNatClampNeg)) = cell at X' step
  have hheap : ((T.setVm vm').setCell a cell).heap = H.setIfInBounds a cell := by rw [← hT]; rfl
  have oq : ∀ q : Nat, q ≠ a → (H.setIfInBounds a cell)[q]? = H[q]? := fun q hq => by simp [Array.getElem?_setIfInBounds, Ne.symm hq]
  have hH1 := hH.upd (k := 0) (e := aI G n1 (va_cpy f g sp.toNatClampNeg dp.toNatClampNeg n.toNatClampNeg)) (H1 := H.setIfInBounds a cell) ha (by show (H.setIfInBounds a cell)[a]? = some (vp_cell _ _); rw [hcl]; simp [Array.getElem?_setIfInBounds, hlt]) (by simp) oq
  obtain ⟨t, a1, b1⟩ := kk p e R s m args below meth c A B0 (H.setIfInBounds a cell) _ cells slots ls ⟨hH1.1, hH1.2.1, hH1.2.2.1, hH1.2.2.2.1, hH1.2.2.2.2.1, fun q hq => by
      rcases List.mem_append.mp hq with z | z
      · exact hH.2.2.2.2.2 q z
      · obtain ⟨z1, -, hz⟩ := List.mem_map.mp z
        rw [← hz]
        exact hH.2.1 a _ ha⟩ hl h1 h2 _ hheap X'
  exact ⟨t, step t a1, b1⟩
theorem V_iv0 (pc : Nat) {idx : Nat} {C : String} {y : MethodName} {cc1 : ByteArray} {nL1 d1 b ci : Nat} {rt1 : Option FieldType} {rest : List Value} {fs : List Value} {T : u_T} {N : Nat} (hd : decode cc pc = .ok (.invokevirtual idx, 3)) (hk : zKV own idx C y cc1 nL1 rt1 0) (hci : vwCl[ci]? = some (C, T, N)) (hb1 : h b = some (ob ci fs)) (hw : Nat.ble (rest.map fun v => v.category).sum 8 = true) (hdd : Nat.ble (d1 + 1) d = true) (hC : Cn l G y cc1 nL1 rt1 d1 0 0 (.ref b :: []) h sz (fun r h1 sz1 => V l G own cc nL rt ini d kc ks Post (pc + 3) lv (r.toList ++ rest) h1 sz1)) : V l G own cc nL rt ini d kc ks Post pc lv (.ref b :: rest) h sz := V_callV (kc1 := 0) (ks1 := 0) pc (As := []) hd hk hb1 hci rfl rfl hw hdd hC
theorem V_iv1 (pc : Nat) {idx : Nat} {C : String} {y : MethodName} {cc1 : ByteArray} {nL1 d1 b ci : Nat} {rt1 : Option FieldType} {v1 : Value} {rest : List Value} {fs : List Value} {T : u_T} {N : Nat} (hd : decode cc pc = .ok (.invokevirtual idx, 3)) (hk : zKV own idx C y cc1 nL1 rt1 1) (hci : vwCl[ci]? = some (C, T, N)) (hb1 : h b = some (ob ci fs)) (hw : Nat.ble (rest.map fun v => v.category).sum 8 = true) (hdd : Nat.ble (d1 + 1) d = true) (hC : Cn l G y cc1 nL1 rt1 d1 0 0 (.ref b :: [v1]) h sz (fun r h1 sz1 => V l G own cc nL rt ini d kc ks Post (pc + 3) lv (r.toList ++ rest) h1 sz1)) : V l G own cc nL rt ini d kc ks Post pc lv (v1 :: .ref b :: rest) h sz := V_callV (kc1 := 0) (ks1 := 0) pc (As := [v1]) hd hk hb1 hci rfl rfl hw hdd hC
theorem V_iv2 (pc : Nat) {idx : Nat} {C : String} {y : MethodName} {cc1 : ByteArray} {nL1 d1 b ci : Nat} {rt1 : Option FieldType} {v1 v2 : Value} {rest : List Value} {fs : List Value} {T : u_T} {N : Nat} (hd : decode cc pc = .ok (.invokevirtual idx, 3)) (hk : zKV own idx C y cc1 nL1 rt1 2) (hci : vwCl[ci]? = some (C, T, N)) (hb1 : h b = some (ob ci fs)) (hw : Nat.ble (rest.map fun v => v.category).sum 8 = true) (hdd : Nat.ble (d1 + 1) d = true) (hC : Cn l G y cc1 nL1 rt1 d1 0 0 (.ref b :: [v1, v2]) h sz (fun r h1 sz1 => V l G own cc nL rt ini d kc ks Post (pc + 3) lv (r.toList ++ rest) h1 sz1)) : V l G own cc nL rt ini d kc ks Post pc lv (v2 :: v1 :: .ref b :: rest) h sz := V_callV (kc1 := 0) (ks1 := 0) pc (As := [v1, v2]) hd hk hb1 hci rfl rfl hw hdd hC
theorem V_iv3 (pc : Nat) {idx : Nat} {C : String} {y : MethodName} {cc1 : ByteArray} {nL1 d1 b ci : Nat} {rt1 : Option FieldType} {v1 v2 v3 : Value} {rest : List Value} {fs : List Value} {T : u_T} {N : Nat} (hd : decode cc pc = .ok (.invokevirtual idx, 3)) (hk : zKV own idx C y cc1 nL1 rt1 3) (hci : vwCl[ci]? = some (C, T, N)) (hb1 : h b = some (ob ci fs)) (hw : Nat.ble (rest.map fun v => v.category).sum 8 = true) (hdd : Nat.ble (d1 + 1) d = true) (hC : Cn l G y cc1 nL1 rt1 d1 0 0 (.ref b :: [v1, v2, v3]) h sz (fun r h1 sz1 => V l G own cc nL rt ini d kc ks Post (pc + 3) lv (r.toList ++ rest) h1 sz1)) : V l G own cc nL rt ini d kc ks Post pc lv (v3 :: v2 :: v1 :: .ref b :: rest) h sz := V_callV (kc1 := 0) (ks1 := 0) pc (As := [v1, v2, v3]) hd hk hb1 hci rfl rfl hw hdd hC
theorem V_iv4 (pc : Nat) {idx : Nat} {C : String} {y : MethodName} {cc1 : ByteArray} {nL1 d1 b ci : Nat} {rt1 : Option FieldType} {v1 v2 v3 v4 : Value} {rest : List Value} {fs : List Value} {T : u_T} {N : Nat} (hd : decode cc pc = .ok (.invokevirtual idx, 3)) (hk : zKV own idx C y cc1 nL1 rt1 4) (hci : vwCl[ci]? = some (C, T, N)) (hb1 : h b = some (ob ci fs)) (hw : Nat.ble (rest.map fun v => v.category).sum 8 = true) (hdd : Nat.ble (d1 + 1) d = true) (hC : Cn l G y cc1 nL1 rt1 d1 0 0 (.ref b :: [v1, v2, v3, v4]) h sz (fun r h1 sz1 => V l G own cc nL rt ini d kc ks Post (pc + 3) lv (r.toList ++ rest) h1 sz1)) : V l G own cc nL rt ini d kc ks Post pc lv (v4 :: v3 :: v2 :: v1 :: .ref b :: rest) h sz := V_callV (kc1 := 0) (ks1 := 0) pc (As := [v1, v2, v3, v4]) hd hk hb1 hci rfl rfl hw hdd hC
theorem V_iv5 (pc : Nat) {idx : Nat} {C : String} {y : MethodName} {cc1 : ByteArray} {nL1 d1 b ci : Nat} {rt1 : Option FieldType} {v1 v2 v3 v4 v5 : Value} {rest : List Value} {fs : List Value} {T : u_T} {N : Nat} (hd : decode cc pc = .ok (.invokevirtual idx, 3)) (hk : zKV own idx C y cc1 nL1 rt1 5) (hci : vwCl[ci]? = some (C, T, N)) (hb1 : h b = some (ob ci fs)) (hw : Nat.ble (rest.map fun v => v.category).sum 8 = true) (hdd : Nat.ble (d1 + 1) d = true) (hC : Cn l G y cc1 nL1 rt1 d1 0 0 (.ref b :: [v1, v2, v3, v4, v5]) h sz (fun r h1 sz1 => V l G own cc nL rt ini d kc ks Post (pc + 3) lv (r.toList ++ rest) h1 sz1)) : V l G own cc nL rt ini d kc ks Post pc lv (v5 :: v4 :: v3 :: v2 :: v1 :: .ref b :: rest) h sz := V_callV (kc1 := 0) (ks1 := 0) pc (As := [v1, v2, v3, v4, v5]) hd hk hb1 hci rfl rfl hw hdd hC
theorem V_iv6 (pc : Nat) {idx : Nat} {C : String} {y : MethodName} {cc1 : ByteArray} {nL1 d1 b ci : Nat} {rt1 : Option FieldType} {v1 v2 v3 v4 v5 v6 : Value} {rest : List Value} {fs : List Value} {T : u_T} {N : Nat} (hd : decode cc pc = .ok (.invokevirtual idx, 3)) (hk : zKV own idx C y cc1 nL1 rt1 6) (hci : vwCl[ci]? = some (C, T, N)) (hb1 : h b = some (ob ci fs)) (hw : Nat.ble (rest.map fun v => v.category).sum 8 = true) (hdd : Nat.ble (d1 + 1) d = true) (hC : Cn l G y cc1 nL1 rt1 d1 0 0 (.ref b :: [v1, v2, v3, v4, v5, v6]) h sz (fun r h1 sz1 => V l G own cc nL rt ini d kc ks Post (pc + 3) lv (r.toList ++ rest) h1 sz1)) : V l G own cc nL rt ini d kc ks Post pc lv (v6 :: v5 :: v4 :: v3 :: v2 :: v1 :: .ref b :: rest) h sz := V_callV (kc1 := 0) (ks1 := 0) pc (As := [v1, v2, v3, v4, v5, v6]) hd hk hb1 hci rfl rfl hw hdd hC
theorem V_iv7 (pc : Nat) {idx : Nat} {C : String} {y : MethodName} {cc1 : ByteArray} {nL1 d1 b ci : Nat} {rt1 : Option FieldType} {v1 v2 v3 v4 v5 v6 v7 : Value} {rest : List Value} {fs : List Value} {T : u_T} {N : Nat} (hd : decode cc pc = .ok (.invokevirtual idx, 3)) (hk : zKV own idx C y cc1 nL1 rt1 7) (hci : vwCl[ci]? = some (C, T, N)) (hb1 : h b = some (ob ci fs)) (hw : Nat.ble (rest.map fun v => v.category).sum 8 = true) (hdd : Nat.ble (d1 + 1) d = true) (hC : Cn l G y cc1 nL1 rt1 d1 0 0 (.ref b :: [v1, v2, v3, v4, v5, v6, v7]) h sz (fun r h1 sz1 => V l G own cc nL rt ini d kc ks Post (pc + 3) lv (r.toList ++ rest) h1 sz1)) : V l G own cc nL rt ini d kc ks Post pc lv (v7 :: v6 :: v5 :: v4 :: v3 :: v2 :: v1 :: .ref b :: rest) h sz := V_callV (kc1 := 0) (ks1 := 0) pc (As := [v1, v2, v3, v4, v5, v6, v7]) hd hk hb1 hci rfl rfl hw hdd hC
theorem V_is1 (pc : Nat) {idx : Nat} {y : MethodName} {cc1 : ByteArray} {nL1 d1 : Nat} {rt1 : Option FieldType} {v1 : Value} {rest : List Value} (hd : decode cc pc = .ok (.invokestatic idx, 3)) (hk : zKS own idx y cc1 nL1 rt1 1) (hw : Nat.ble (rest.map fun v => v.category).sum 8 = true) (hdd : Nat.ble (d1 + 1) d = true) (hC : Cn l G y cc1 nL1 rt1 d1 0 0 [v1] h sz (fun r h1 sz1 => V l G own cc nL rt ini d kc ks Post (pc + 3) lv (r.toList ++ rest) h1 sz1)) : V l G own cc nL rt ini d kc ks Post pc lv (v1 :: rest) h sz := V_callS (kc1 := 0) (ks1 := 0) pc (As := [v1]) hd hk rfl rfl hw hdd hC
theorem V_is2 (pc : Nat) {idx : Nat} {y : MethodName} {cc1 : ByteArray} {nL1 d1 : Nat} {rt1 : Option FieldType} {v1 v2 : Value} {rest : List Value} (hd : decode cc pc = .ok (.invokestatic idx, 3)) (hk : zKS own idx y cc1 nL1 rt1 2) (hw : Nat.ble (rest.map fun v => v.category).sum 8 = true) (hdd : Nat.ble (d1 + 1) d = true) (hC : Cn l G y cc1 nL1 rt1 d1 0 0 [v1, v2] h sz (fun r h1 sz1 => V l G own cc nL rt ini d kc ks Post (pc + 3) lv (r.toList ++ rest) h1 sz1)) : V l G own cc nL rt ini d kc ks Post pc lv (v2 :: v1 :: rest) h sz := V_callS (kc1 := 0) (ks1 := 0) pc (As := [v1, v2]) hd hk rfl rfl hw hdd hC
theorem V_is3 (pc : Nat) {idx : Nat} {y : MethodName} {cc1 : ByteArray} {nL1 d1 : Nat} {rt1 : Option FieldType} {v1 v2 v3 : Value} {rest : List Value} (hd : decode cc pc = .ok (.invokestatic idx, 3)) (hk : zKS own idx y cc1 nL1 rt1 3) (hw : Nat.ble (rest.map fun v => v.category).sum 8 = true) (hdd : Nat.ble (d1 + 1) d = true) (hC : Cn l G y cc1 nL1 rt1 d1 0 0 [v1, v2, v3] h sz (fun r h1 sz1 => V l G own cc nL rt ini d kc ks Post (pc + 3) lv (r.toList ++ rest) h1 sz1)) : V l G own cc nL rt ini d kc ks Post pc lv (v3 :: v2 :: v1 :: rest) h sz := V_callS (kc1 := 0) (ks1 := 0) pc (As := [v1, v2, v3]) hd hk rfl rfl hw hdd hC
theorem V_is4 (pc : Nat) {idx : Nat} {y : MethodName} {cc1 : ByteArray} {nL1 d1 : Nat} {rt1 : Option FieldType} {v1 v2 v3 v4 : Value} {rest : List Value} (hd : decode cc pc = .ok (.invokestatic idx, 3)) (hk : zKS own idx y cc1 nL1 rt1 4) (hw : Nat.ble (rest.map fun v => v.category).sum 8 = true) (hdd : Nat.ble (d1 + 1) d = true) (hC : Cn l G y cc1 nL1 rt1 d1 0 0 [v1, v2, v3, v4] h sz (fun r h1 sz1 => V l G own cc nL rt ini d kc ks Post (pc + 3) lv (r.toList ++ rest) h1 sz1)) : V l G own cc nL rt ini d kc ks Post pc lv (v4 :: v3 :: v2 :: v1 :: rest) h sz := V_callS (kc1 := 0) (ks1 := 0) pc (As := [v1, v2, v3, v4]) hd hk rfl rfl hw hdd hC
theorem V_is5 (pc : Nat) {idx : Nat} {y : MethodName} {cc1 : ByteArray} {nL1 d1 : Nat} {rt1 : Option FieldType} {v1 v2 v3 v4 v5 : Value} {rest : List Value} (hd : decode cc pc = .ok (.invokestatic idx, 3)) (hk : zKS own idx y cc1 nL1 rt1 5) (hw : Nat.ble (rest.map fun v => v.category).sum 8 = true) (hdd : Nat.ble (d1 + 1) d = true) (hC : Cn l G y cc1 nL1 rt1 d1 0 0 [v1, v2, v3, v4, v5] h sz (fun r h1 sz1 => V l G own cc nL rt ini d kc ks Post (pc + 3) lv (r.toList ++ rest) h1 sz1)) : V l G own cc nL rt ini d kc ks Post pc lv (v5 :: v4 :: v3 :: v2 :: v1 :: rest) h sz := V_callS (kc1 := 0) (ks1 := 0) pc (As := [v1, v2, v3, v4, v5]) hd hk rfl rfl hw hdd hC
theorem V_is6 (pc : Nat) {idx : Nat} {y : MethodName} {cc1 : ByteArray} {nL1 d1 : Nat} {rt1 : Option FieldType} {v1 v2 v3 v4 v5 v6 : Value} {rest : List Value} (hd : decode cc pc = .ok (.invokestatic idx, 3)) (hk : zKS own idx y cc1 nL1 rt1 6) (hw : Nat.ble (rest.map fun v => v.category).sum 8 = true) (hdd : Nat.ble (d1 + 1) d = true) (hC : Cn l G y cc1 nL1 rt1 d1 0 0 [v1, v2, v3, v4, v5, v6] h sz (fun r h1 sz1 => V l G own cc nL rt ini d kc ks Post (pc + 3) lv (r.toList ++ rest) h1 sz1)) : V l G own cc nL rt ini d kc ks Post pc lv (v6 :: v5 :: v4 :: v3 :: v2 :: v1 :: rest) h sz := V_callS (kc1 := 0) (ks1 := 0) pc (As := [v1, v2, v3, v4, v5, v6]) hd hk rfl rfl hw hdd hC
theorem V_is7 (pc : Nat) {idx : Nat} {y : MethodName} {cc1 : ByteArray} {nL1 d1 : Nat} {rt1 : Option FieldType} {v1 v2 v3 v4 v5 v6 v7 : Value} {rest : List Value} (hd : decode cc pc = .ok (.invokestatic idx, 3)) (hk : zKS own idx y cc1 nL1 rt1 7) (hw : Nat.ble (rest.map fun v => v.category).sum 8 = true) (hdd : Nat.ble (d1 + 1) d = true) (hC : Cn l G y cc1 nL1 rt1 d1 0 0 [v1, v2, v3, v4, v5, v6, v7] h sz (fun r h1 sz1 => V l G own cc nL rt ini d kc ks Post (pc + 3) lv (r.toList ++ rest) h1 sz1)) : V l G own cc nL rt ini d kc ks Post pc lv (v7 :: v6 :: v5 :: v4 :: v3 :: v2 :: v1 :: rest) h sz := V_callS (kc1 := 0) (ks1 := 0) pc (As := [v1, v2, v3, v4, v5, v6, v7]) hd hk rfl rfl hw hdd hC
end VC
